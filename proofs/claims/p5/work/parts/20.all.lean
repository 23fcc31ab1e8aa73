/-! rules over a general memory -/
abbrev tl (len : Nat) : Nat × (List (Nat × Nat) × Nat) := (168, (mkF, len))
def bi (b : Bool) : Int := cond b 1 0
def isR (a : Nat) : Prop := a = 20 ∨ a = 46 ∨ a = 72 ∨ a = 98
def bn (b : Bool) : Nat := cond b 1 0
theorem bn_le (b : Bool) : bn b ≤ 1 := by cases b <;> decide
theorem add_bn {x : Nat} {b : Bool} : (x : Int) + bi b = ((x + bn b : Nat) : Int) := by cases b <;> simp [bi, bn]
theorem bi01 (b : Bool) : bi b = 0 ∨ bi b = 1 := by cases b; exact Or.inl rfl; exact Or.inr rfl
theorem bi_ge (b : Bool) : 0 ≤ bi b ∧ bi b ≤ 1 := by cases b <;> decide
theorem isR_tg {i : Nat} (h : i < 4) : isR (tgA i) := by
  rcases (show i = 0 ∨ i = 1 ∨ i = 2 ∨ i = 3 by omega) with rfl | rfl | rfl | rfl
  · exact Or.inl rfl
  · exact Or.inr (Or.inl rfl)
  · exact Or.inr (Or.inr (Or.inl rfl))
  · exact Or.inr (Or.inr (Or.inr rfl))
theorem isR_b {a : Nat} (h : isR a) : 20 ≤ a ∧ a ≤ 98 := by rcases h with rfl | rfl | rfl | rfl <;> decide
theorem up2_ne {m : Mm} {a b i j : Nat} {x : Int} (h : b ≠ a) : up2 m a i x b j = m b j := by unfold up2; rw [if_neg h]
theorem up2_eq {m : Mm} {a i : Nat} {x : Int} : up2 m a i x a i = x := by unfold up2; rw [if_pos rfl, if_pos rfl]
theorem up2_at {m : Mm} {a i j : Nat} {x : Int} : up2 m a i x a j = if j = i then x else m a j := by unfold up2; rw [if_pos rfl]
theorem up2_o {m : Mm} {a b i j : Nat} {x : Int} (h : ¬ (b = a ∧ j = i)) : up2 m a i x b j = m b j := by
  unfold up2
  by_cases g : b = a
  · rw [if_pos g, if_neg (fun q => h ⟨g, q⟩)]
  · rw [if_neg g]
theorem up2_sl {m : Mm} {a b i j : Nat} {x : Int} (h : j ≠ i) : up2 m a i x b j = m b j := by unfold up2; simp only [if_neg h, ite_self]

theorem kR_0 {a : Nat} (h : isR a) : kd a = (0, 4) := by rcases h with rfl | rfl | rfl | rfl <;> rfl
theorem kR_1 {a : Nat} (h : isR a) : kd (a + 1) = (0, 1) := by rcases h with rfl | rfl | rfl | rfl <;> rfl
theorem kR_2 {a : Nat} (h : isR a) : kd (a + 2) = (1, 60) := by rcases h with rfl | rfl | rfl | rfl <;> rfl
theorem kR_3 {a : Nat} (h : isR a) : kd (a + 3) = (1, 60) := by rcases h with rfl | rfl | rfl | rfl <;> rfl
theorem kR_4 {a : Nat} (h : isR a) : kd (a + 4) = (1, 60) := by rcases h with rfl | rfl | rfl | rfl <;> rfl
theorem kR_5 {a : Nat} (h : isR a) : kd (a + 5) = (1, 60) := by rcases h with rfl | rfl | rfl | rfl <;> rfl
theorem kR_6 {a : Nat} (h : isR a) : kd (a + 6) = (1, 60) := by rcases h with rfl | rfl | rfl | rfl <;> rfl
theorem kR_7 {a : Nat} (h : isR a) : kd (a + 7) = (1, 60) := by rcases h with rfl | rfl | rfl | rfl <;> rfl
theorem kR_8 {a : Nat} (h : isR a) : kd (a + 8) = (1, 1800) := by rcases h with rfl | rfl | rfl | rfl <;> rfl
theorem kR_9 {a : Nat} (h : isR a) : kd (a + 9) = (0, 8) := by rcases h with rfl | rfl | rfl | rfl <;> rfl
theorem kR_10 {a : Nat} (h : isR a) : kd (a + 10) = (1, 40) := by rcases h with rfl | rfl | rfl | rfl <;> rfl
theorem kR_11 {a : Nat} (h : isR a) : kd (a + 11) = (1, 40) := by rcases h with rfl | rfl | rfl | rfl <;> rfl
theorem kR_12 {a : Nat} (h : isR a) : kd (a + 12) = (1, 480) := by rcases h with rfl | rfl | rfl | rfl <;> rfl
theorem kR_13 {a : Nat} (h : isR a) : kd (a + 13) = (1, 60) := by rcases h with rfl | rfl | rfl | rfl <;> rfl
theorem kR_14 {a : Nat} (h : isR a) : kd (a + 14) = (1, 60) := by rcases h with rfl | rfl | rfl | rfl <;> rfl
theorem kR_15 {a : Nat} (h : isR a) : kd (a + 15) = (0, 6) := by rcases h with rfl | rfl | rfl | rfl <;> rfl
theorem kR_16 {a : Nat} (h : isR a) : kd (a + 16) = (1, 6) := by rcases h with rfl | rfl | rfl | rfl <;> rfl
theorem kR_17 {a : Nat} (h : isR a) : kd (a + 17) = (1, 6) := by rcases h with rfl | rfl | rfl | rfl <;> rfl
theorem kR_18 {a : Nat} (h : isR a) : kd (a + 18) = (1, 6) := by rcases h with rfl | rfl | rfl | rfl <;> rfl
theorem kR_19 {a : Nat} (h : isR a) : kd (a + 19) = (1, 6) := by rcases h with rfl | rfl | rfl | rfl <;> rfl
theorem kR_20 {a : Nat} (h : isR a) : kd (a + 20) = (1, 60) := by rcases h with rfl | rfl | rfl | rfl <;> rfl
theorem kR_21 {a : Nat} (h : isR a) : kd (a + 21) = (1, 60) := by rcases h with rfl | rfl | rfl | rfl <;> rfl
theorem kR_22 {a : Nat} (h : isR a) : kd (a + 22) = (1, 60) := by rcases h with rfl | rfl | rfl | rfl <;> rfl
theorem kR_23 {a : Nat} (h : isR a) : kd (a + 23) = (1, 60) := by rcases h with rfl | rfl | rfl | rfl <;> rfl
theorem kR_24 {a : Nat} (h : isR a) : kd (a + 24) = (1, 601) := by rcases h with rfl | rfl | rfl | rfl <;> rfl
theorem kR_25 {a : Nat} (h : isR a) : kd (a + 25) = (0, 0) := by rcases h with rfl | rfl | rfl | rfl <;> rfl
theorem hR_0_0 {a len : Nat} {m : Mm} (h : isR a) : hasM (m, tl len) a 0 = true := by rcases h with rfl | rfl | rfl | rfl <;> rfl
theorem hR_0_1 {a len : Nat} {m : Mm} (h : isR a) : hasM (m, tl len) a 1 = true := by rcases h with rfl | rfl | rfl | rfl <;> rfl
theorem hR_0_2 {a len : Nat} {m : Mm} (h : isR a) : hasM (m, tl len) a 2 = true := by rcases h with rfl | rfl | rfl | rfl <;> rfl
theorem hR_0_3 {a len : Nat} {m : Mm} (h : isR a) : hasM (m, tl len) a 3 = true := by rcases h with rfl | rfl | rfl | rfl <;> rfl
theorem hR_0_4 {a len : Nat} {m : Mm} (h : isR a) : hasM (m, tl len) a 4 = true := by rcases h with rfl | rfl | rfl | rfl <;> rfl
theorem hR_1_0 {a len : Nat} {m : Mm} (h : isR a) : hasM (m, tl len) (a + 1) 0 = true := by rcases h with rfl | rfl | rfl | rfl <;> rfl
theorem hR_1_1 {a len : Nat} {m : Mm} (h : isR a) : hasM (m, tl len) (a + 1) 1 = true := by rcases h with rfl | rfl | rfl | rfl <;> rfl
theorem hR_1_2 {a len : Nat} {m : Mm} (h : isR a) : hasM (m, tl len) (a + 1) 2 = true := by rcases h with rfl | rfl | rfl | rfl <;> rfl
theorem hR_1_3 {a len : Nat} {m : Mm} (h : isR a) : hasM (m, tl len) (a + 1) 3 = true := by rcases h with rfl | rfl | rfl | rfl <;> rfl
theorem hR_1_4 {a len : Nat} {m : Mm} (h : isR a) : hasM (m, tl len) (a + 1) 4 = true := by rcases h with rfl | rfl | rfl | rfl <;> rfl
theorem hR_1_5 {a len : Nat} {m : Mm} (h : isR a) : hasM (m, tl len) (a + 1) 5 = true := by rcases h with rfl | rfl | rfl | rfl <;> rfl
theorem hR_1_6 {a len : Nat} {m : Mm} (h : isR a) : hasM (m, tl len) (a + 1) 6 = true := by rcases h with rfl | rfl | rfl | rfl <;> rfl
theorem hR_9_0 {a len : Nat} {m : Mm} (h : isR a) : hasM (m, tl len) (a + 9) 0 = true := by rcases h with rfl | rfl | rfl | rfl <;> rfl
theorem hR_9_1 {a len : Nat} {m : Mm} (h : isR a) : hasM (m, tl len) (a + 9) 1 = true := by rcases h with rfl | rfl | rfl | rfl <;> rfl
theorem hR_9_2 {a len : Nat} {m : Mm} (h : isR a) : hasM (m, tl len) (a + 9) 2 = true := by rcases h with rfl | rfl | rfl | rfl <;> rfl
theorem hR_15_0 {a len : Nat} {m : Mm} (h : isR a) : hasM (m, tl len) (a + 15) 0 = true := by rcases h with rfl | rfl | rfl | rfl <;> rfl
theorem hR_15_1 {a len : Nat} {m : Mm} (h : isR a) : hasM (m, tl len) (a + 15) 1 = true := by rcases h with rfl | rfl | rfl | rfl <;> rfl
theorem hR_15_2 {a len : Nat} {m : Mm} (h : isR a) : hasM (m, tl len) (a + 15) 2 = true := by rcases h with rfl | rfl | rfl | rfl <;> rfl
theorem hR_15_3 {a len : Nat} {m : Mm} (h : isR a) : hasM (m, tl len) (a + 15) 3 = true := by rcases h with rfl | rfl | rfl | rfl <;> rfl
theorem hR_15_4 {a len : Nat} {m : Mm} (h : isR a) : hasM (m, tl len) (a + 15) 4 = true := by rcases h with rfl | rfl | rfl | rfl <;> rfl
theorem hR_15_5 {a len : Nat} {m : Mm} (h : isR a) : hasM (m, tl len) (a + 15) 5 = true := by rcases h with rfl | rfl | rfl | rfl <;> rfl
theorem hR_15_6 {a len : Nat} {m : Mm} (h : isR a) : hasM (m, tl len) (a + 15) 6 = true := by rcases h with rfl | rfl | rfl | rfl <;> rfl
theorem hR_15_7 {a len : Nat} {m : Mm} (h : isR a) : hasM (m, tl len) (a + 15) 7 = true := by rcases h with rfl | rfl | rfl | rfl <;> rfl
theorem hR_15_8 {a len : Nat} {m : Mm} (h : isR a) : hasM (m, tl len) (a + 15) 8 = true := by rcases h with rfl | rfl | rfl | rfl <;> rfl
theorem hR_15_9 {a len : Nat} {m : Mm} (h : isR a) : hasM (m, tl len) (a + 15) 9 = true := by rcases h with rfl | rfl | rfl | rfl <;> rfl
section RULES
variable {k pc n i ci j a b len N p' : Nat} {L L' L0 : Lc} {st st' r : List AV} {m : Mm} {Q : Option AV → Sx → Prop} {s : Sx} {x y v z w d : Int} {e e1 e2 e3 : Nat}
theorem onA_tl {t n : Nat} (h : kd a = (t, n)) (ht : t ≠ 5) : onA a (m, tl len) t n = true := onA_of h ht rfl
theorem E_go (hp : pc = p') (hL : L = L') (hst : st = st') (kk : E k p' L' st' s Q) : E k pc L st s Q := by subst hp hL hst; exact kk
theorem E_valv (h : x = v) (kk : E k pc L (aI v :: r) s Q) : E k pc L (aI x :: r) s Q := h ▸ kk
theorem E_gA (hi : ins k pc = some (.getfield i, n)) (hf : fl k i = some (ci, j)) (h2 : Nat.beq (ft ci j) 2 = true) (hk : kd a = (0, ci)) (hm : hasM (m, tl len) a j = true) (hb : a + ofs ci j = b) (kk : E k (pc + n) L (aA b :: r) (m, tl len) Q) : E k pc L (aA a :: r) (m, tl len) Q := by
  refine E_st hi ?_ (Nat.ble_self_eq_true _) kk
  unfold stp
  dsimp only
  rw [hf]
  dsimp only [q1A]
  rw [ckP_of (onA_tl hk (by decide)), h2]
  show ckP (hasM (m, tl len) a j) _ = _
  rw [ckP_of hm, hb]
  rfl
theorem E_gI (hi : ins k pc = some (.getfield i, n)) (hf : fl k i = some (ci, j)) (h2 : Nat.beq (ft ci j) 2 = false) (hk : kd a = (0, ci)) (hv : m a j = v) (kk : E k (pc + n) L (aI v :: r) (m, tl len) Q) : E k pc L (aA a :: r) (m, tl len) Q := by
  subst hv
  refine E_st hi ?_ (Nat.ble_self_eq_true _) kk
  unfold stp
  dsimp only
  rw [hf]
  dsimp only [q1A]
  rw [ckP_of (onA_tl hk (by decide)), h2]
  rfl
theorem E_pI (hi : ins k pc = some (.putfield i, n)) (hf : fl k i = some (ci, j)) (h2 : Nat.beq (ft ci j) 2 = false) (hk : kd a = (0, ci)) (hx : Nat.beq (ft ci j) 0 = true ∨ (x = 0 ∨ x = 1)) (kk : E k (pc + n) L r (up2 m a j x, tl len) Q) : E k pc L (aI x :: aA a :: r) (m, tl len) Q := by
  refine E_st (s' := (up2 m a j x, tl len)) hi ?_ (Nat.ble_self_eq_true _) kk
  unfold stp
  dsimp only
  rw [hf]
  dsimp only
  rw [h2]
  dsimp only [cond_false, qIA]
  rw [onA_tl hk (by decide)]
  rw [ckP_of (by rcases hx with h | h | h <;> simp [h])]
  rfl
theorem E_ald (hi : ins k pc = some (.iaload, n)) (hk : kd a = (1, N)) (hz : z = (e : Int)) (he : e < N) (hv : m a e = v) (kk : E k (pc + n) L (aI v :: r) (m, tl len) Q) : E k pc L (aI z :: aA a :: r) (m, tl len) Q := by
  subst hz hv
  exact E_iald hi hk rfl (by omega) (by omega) kk
theorem E_ast (hi : ins k pc = some (.iastore, n)) (hk : kd a = (1, N)) (hz : z = (e : Int)) (he : e < N) (kk : E k (pc + n) L r (up2 m a e x, tl len) Q) : E k pc L (aI x :: aI z :: aA a :: r) (m, tl len) Q := by
  subst hz
  exact E_iast hi hk rfl (by omega) (by omega) kk
theorem E_zld (hi : ins k pc = some (.baload, n)) (hk : kd a = (2, N)) (hz : z = (e : Int)) (he : e < N) (hv : m a e = v) (kk : E k (pc + n) L (aI v :: r) (m, tl len) Q) : E k pc L (aI z :: aA a :: r) (m, tl len) Q := by
  subst hz hv
  refine E_st hi ?_ (Nat.ble_self_eq_true _) kk
  show ckP (onA a (m, tl len) 2 (kd a).2 && inb (e : Int) (kd a).2) _ = _
  rw [hk, ckP_of (by rw [onA_tl hk (by decide), inb_of (by omega) (by omega)]; rfl)]
  rfl
theorem E_zst (hi : ins k pc = some (.bastore, n)) (hk : kd a = (2, N)) (hz : z = (e : Int)) (he : e < N) (hx : x = 0 ∨ x = 1) (kk : E k (pc + n) L r (up2 m a e x, tl len) Q) : E k pc L (aI x :: aI z :: aA a :: r) (m, tl len) Q := by
  subst hz
  refine E_st (s' := (up2 m a e x, tl len)) hi ?_ (Nat.ble_self_eq_true _) kk
  show ckP (onA a (m, tl len) 2 (kd a).2 && inb (e : Int) (kd a).2 && (decide (x = 0) || decide (x = 1))) _ = _
  rw [hk, ckP_of (by rw [onA_tl hk (by decide), inb_of (by omega) (by omega)]; rcases hx with h | h <;> simp [h])]
  rfl
theorem E_jld (hi : ins k pc = some (.laload, n)) (hk : kd a = (3, N)) (hz : z = (e : Int)) (he : e < N) (hv : m a e = v) (kk : E k (pc + n) L (aJ v :: r) (m, tl len) Q) : E k pc L (aI z :: aA a :: r) (m, tl len) Q := by
  subst hz hv
  refine E_st hi ?_ (Nat.ble_self_eq_true _) kk
  show ckP (onA a (m, tl len) 3 (kd a).2 && inb (e : Int) (kd a).2) _ = _
  rw [hk, ckP_of (by rw [onA_tl hk (by decide), inb_of (by omega) (by omega)]; rfl)]
  rfl
theorem E_jst (hi : ins k pc = some (.lastore, n)) (hk : kd a = (3, N)) (hz : z = (e : Int)) (he : e < N) (kk : E k (pc + n) L r (up2 m a e x, tl len) Q) : E k pc L (aJ x :: aI z :: aA a :: r) (m, tl len) Q := by
  subst hz
  refine E_st (s' := (up2 m a e x, tl len)) hi ?_ (Nat.ble_self_eq_true _) kk
  show ckP (onA a (m, tl len) 3 (kd a).2 && inb (e : Int) (kd a).2) _ = _
  rw [hk, ckP_of (by rw [onA_tl hk (by decide), inb_of (by omega) (by omega)]; rfl)]
  rfl
theorem E_inc (hi : ins k pc = some (.iinc j d, n)) (hl : Nat.blt j (mxl k) = true) (hv : L[j]? = some (some (aI x))) (hw : x + d = w) (hr : -2147483648 ≤ w ∧ w ≤ 2147483647) (hL : st1 L j (aI w) = L') (kk : E k (pc + n) L' st s Q) : E k pc L st s Q := by
  subst hw hL
  exact E_iinc hi hl hv hr kk
theorem E_add (hi : ins k pc = some (.iadd, n)) (hv : x + y = v) (hr : -2147483648 ≤ v ∧ v ≤ 2147483647) (kk : E k (pc + n) L (aI v :: r) s Q) : E k pc L (aI y :: aI x :: r) s Q := by subst hv; exact E_iadd hi hr kk
theorem E_sub (hi : ins k pc = some (.isub, n)) (hv : x - y = v) (hr : -2147483648 ≤ v ∧ v ≤ 2147483647) (kk : E k (pc + n) L (aI v :: r) s Q) : E k pc L (aI y :: aI x :: r) s Q := by subst hv; exact E_isub hi hr kk
theorem E_mul (hi : ins k pc = some (.imul, n)) (hv : x * y = v) (hr : -2147483648 ≤ v ∧ v ≤ 2147483647) (kk : E k (pc + n) L (aI v :: r) s Q) : E k pc L (aI y :: aI x :: r) s Q := by subst hv; exact E_imul hi hr kk
theorem E_div (hi : ins k pc = some (.idiv, n)) (h0 : 0 ≤ x) (hy : 0 < y) (hv : x / y = v) (hr : -2147483648 ≤ v ∧ v ≤ 2147483647) (kk : E k (pc + n) L (aI v :: r) s Q) : E k pc L (aI y :: aI x :: r) s Q := by
  subst hv
  refine E_st hi ?_ (Nat.ble_self_eq_true _) kk
  show ckP (!decide (y = 0)) (ckI (x.tdiv y) _) = _
  rw [ckP_of (by rw [decide_eq_false (by omega)]; rfl), Int.tdiv_eq_ediv_of_nonneg h0, ckI_of hr]
  rfl
theorem E_rem (hi : ins k pc = some (.irem, n)) (h0 : 0 ≤ x) (hy : 0 < y) (hv : x % y = v) (hr : 0 ≤ x ∧ x ≤ 2147483647) (kk : E k (pc + n) L (aI v :: r) s Q) : E k pc L (aI y :: aI x :: r) s Q := by
  subst hv
  refine E_st hi ?_ (Nat.ble_self_eq_true _) kk
  show ckP (!decide (y = 0)) (ckI (x.tdiv y) (ckI (x - x.tdiv y * y) _)) = _
  have e1 : x - x / y * y = x % y := by have := Int.emod_add_mul_ediv x y; rw [Int.mul_comm]; omega
  have b1 : 0 ≤ x / y := Int.ediv_nonneg h0 (by omega)
  have b2 : x / y ≤ x := Int.ediv_le_self y h0
  have b3 : 0 ≤ x % y := Int.emod_nonneg x (by omega)
  have b4 : x % y ≤ x := by have := Int.mul_nonneg b1 (show 0 ≤ y by omega); omega
  rw [ckP_of (by rw [decide_eq_false (by omega)]; rfl), Int.tdiv_eq_ediv_of_nonneg h0, ckI_of (by omega), e1, ckI_of (by omega)]
  rfl
theorem E_acp {Na Nb : Nat} {u1 u2 u3 : Int} {kb : Bool} (hi : ins k pc = some (.invokestatic i, n)) (hm : mli k i = some (1001, kb)) (ha : kd a = (1, Na)) (hb : kd b = (1, Nb)) (h1 : u1 = (e1 : Int)) (h2 : u2 = (e2 : Int)) (h3 : u3 = (e3 : Int)) (l1 : e1 + e3 ≤ Na) (l2 : e2 + e3 ≤ Nb) (hro : (Nat.ble 1 (frr k) && Nat.ble (wsum r + 18) (lor k)) = true) (kk : E k (pc + n) L r (cpm m a e1 b e2 e3, tl len) Q) : E k pc L (aI u3 :: aI u2 :: aA b :: aI u1 :: aA a :: r) (m, tl len) Q := by
  subst h1 h2 h3
  refine E_st (s' := (cpm m a e1 b e2 e3, tl len)) hi ?_ (Nat.ble_self_eq_true _) kk
  unfold stp
  dsimp only
  rw [hm]
  dsimp only
  rw [show Nat.beq 1001 1001 = true from rfl]
  dsimp only [cond_true, qcp]
  rw [hb, ha, onA_tl ha (by decide), onA_tl hb (by decide)]
  rw [Bool.and_eq_true] at hro
  rw [ckP_of (by simp only [Bool.and_eq_true, decide_eq_true_eq, Bool.true_and, Bool.and_assoc]; refine ⟨?_, ?_, ?_, ?_, ?_, hro.1, hro.2⟩ <;> omega)]
  rfl
theorem E_callV {k' : Nat} {kb : Bool} (hi : ins k pc = some (.invokevirtual i, n)) (hm : mli k i = some (k', kb)) (hc : (Nat.beq (how k') 0 && (Nat.ble (frr k' + 1) (frr k) && Nat.ble (19 + mxl k' + lor k') (lor k))) = true) (h1 : st.drop (npr k') = aA a :: r) (h2 : Nat.ble (npr k') st.length = true) (hk : kd a = (0, own k')) (hw : Nat.ble (wsum r) 8 = true) (hl : Nat.ble (spr (aA a :: (st.take (npr k')).reverse)).length (mxl k') = true) (hL : entL k' (aA a :: (st.take (npr k')).reverse) = L0) (hp : pc + 3 = p') (kk : E k' 0 L0 [] (m, tl len) (fun v s1 => E k p' L (v.toList ++ r) s1 Q)) : E k pc L st (m, tl len) Q := by
  subst hL hp
  refine E_call hi ?_ kk
  unfold stp
  dsimp only
  rw [hm]
  show mcall k pc L st (m, tl len) 0 k' = _
  unfold mcall
  rw [ckP_of hc]
  show (match st.drop (npr k') with
        | .inr (.inr (some a)) :: rest => ckP (Nat.ble (npr k') st.length && onA a (m, tl len) 0 (own k') && Nat.ble (wsum rest) 8 && Nat.ble (spr (aA a :: (st.take (npr k')).reverse)).length (mxl k')) (some (.inr (.inr (k', (aA a :: (st.take (npr k')).reverse, (pc + 3, (L, rest)))))))
        | _ => none) = _
  rw [h1]
  dsimp only
  rw [ckP_of (by rw [h2, onA_tl hk (by decide), hw, hl]; rfl)]
theorem E_retB (hi : ins k pc = some (.ireturn, n)) (hr : Nat.beq (rtc k) 2 = true) (hz : z = 0 ∨ z = 1) (q : Q (some (aI z)) s) : E k pc L [aI z] s Q := by
  refine E_ret hi ?_ q
  show ckP (Nat.beq (rtc k) 1 || (Nat.beq (rtc k) 2 && (decide (z = 0) || decide (z = 1)))) _ = _
  rw [hr, ckP_of (by rcases hz with h | h <;> simp [h])]
theorem E_b_eq0 {b : Bool} (hi : ins k pc = some (.ifCond .eq d, n)) (h0 : 0 ≤ (pc : Int) + d) (kt : b = false → E k ((pc : Int) + d).toNat L r s Q) (kf : b = true → E k (pc + n) L r s Q) : E k pc L (aI (bi b) :: r) s Q := by
  cases b
  · exact E_if_eq hi h0 (fun _ => kt rfl) (fun h => absurd rfl h)
  · exact E_if_eq hi h0 (fun h => absurd h (by decide)) (fun _ => kf rfl)
theorem E_b_ne0 {b : Bool} (hi : ins k pc = some (.ifCond .ne d, n)) (h0 : 0 ≤ (pc : Int) + d) (kt : b = true → E k ((pc : Int) + d).toNat L r s Q) (kf : b = false → E k (pc + n) L r s Q) : E k pc L (aI (bi b) :: r) s Q := by
  cases b
  · exact E_if_ne hi h0 (fun h => absurd rfl h) (fun _ => kf rfl)
  · exact E_if_ne hi h0 (fun _ => kt rfl) (fun h => absurd h (by decide))
theorem E_orb {x y : Bool} (hi : ins k pc = some (.ior, n)) (kk : E k (pc + n) L (aI (bi (x || y)) :: r) s Q) : E k pc L (aI (bi y) :: aI (bi x) :: r) s Q := by
  cases x <;> cases y <;> exact E_s hi rfl kk
theorem E_andb {x y : Bool} (hi : ins k pc = some (.iand, n)) (kk : E k (pc + n) L (aI (bi (x && y)) :: r) s Q) : E k pc L (aI (bi y) :: aI (bi x) :: r) s Q := by
  cases x <;> cases y <;> exact E_s hi rfl kk
theorem E_lkO {ps : Array (Int × Int)} (hi : ins k pc = some (.lookupswitch d ps, n)) (hs : ((ps.toList.zip (ps.toList.drop 1)).all fun q => decide (q.1.1 < q.2.1)) = true) (hx : Op.lookupswitch.offset ps.toList d x = d) (h0 : 0 ≤ (pc : Int) + d) (kk : E k ((pc : Int) + d).toNat L r s Q) : E k pc L (aI x :: r) s Q := by
  refine E_s hi ?_ kk
  show ckP _ (jp pc (Op.lookupswitch.offset ps.toList d x) L r s) = _
  rw [ckP_of hs, hx]
  unfold jp
  rw [if_pos h0]
  rfl
end RULES

/-! the state that both sides stand for: a RECORD as a tuple of its numbers -/
/-- n, gap, group, on, colour, length, tear (0: none), knots, packed KNOTS, SUMS, whole, parts, part -/
abbrev RD : Type := Nat × (Nat × ((Nat → Int) × ((Nat → Int) × ((Nat → Nat) × ((Nat → Nat) × ((Nat → Nat) × ((Nat → Nat) × ((Nat → Nat → Nat) × (Nat × ((Nat → Nat) × ((Nat → Nat) × (Nat → Nat → Nat))))))))))))
def Cn (R : RD) : Nat := R.1
def Cq (R : RD) : Nat := R.2.1
def Cg (R : RD) : Nat → Int := R.2.2.1
def Co (R : RD) : Nat → Int := R.2.2.2.1
def Cc (R : RD) : Nat → Nat := R.2.2.2.2.1
def Cl (R : RD) : Nat → Nat := R.2.2.2.2.2.1
def Ct (R : RD) : Nat → Nat := R.2.2.2.2.2.2.1
def Ck (R : RD) : Nat → Nat := R.2.2.2.2.2.2.2.1
def Cp (R : RD) : Nat → Nat → Nat := R.2.2.2.2.2.2.2.2.1
def Sn (R : RD) : Nat := R.2.2.2.2.2.2.2.2.2.1
def Sw (R : RD) : Nat → Nat := R.2.2.2.2.2.2.2.2.2.2.1
def Sp (R : RD) : Nat → Nat := R.2.2.2.2.2.2.2.2.2.2.2.1
def Sq (R : RD) : Nat → Nat → Nat := R.2.2.2.2.2.2.2.2.2.2.2.2
def ht (p : Nat) : Nat := p / 64
def so (p : Nat) : Nat := p / 16 % 4
def tu (p : Nat) : Nat := p % 16
def kok (p : Nat) : Prop := (so p = 0 ∧ tu p = 0) ∨ (so p = 1 ∧ 2 ≤ tu p ∧ tu p ≤ 9) ∨ (so p = 2 ∧ tu p = 0)
/-- one CORD's numbers are as they may be -/
def VC (R : RD) (c : Nat) : Prop := (-1 ≤ Cg R c ∧ Cg R c ≤ 11) ∧ (-1 ≤ Co R c ∧ Co R c < c) ∧ Cc R c ≤ 23 ∧ (10 ≤ Cl R c ∧ Cl R c ≤ 600) ∧ Ct R c ≤ Cl R c ∧ Ck R c ≤ 30
def VK (R : RD) (c k : Nat) : Prop := kok (Cp R c k) ∧ 1 ≤ ht (Cp R c k) ∧ ht (Cp R c k) ≤ Cl R c ∧ (Ct R c ≠ 0 → ht (Cp R c k) < Ct R c) ∧ (k + 1 < Ck R c → ht (Cp R c k) < ht (Cp R c (k + 1)))
def VR (R : RD) : Prop := Cn R ≤ 60 ∧ (1 ≤ Cq R ∧ Cq R ≤ 100) ∧ (∀ c, c < Cn R → VC R c) ∧ (∀ c k, c < Cn R → k < Ck R c → VK R c k) ∧ Sn R ≤ 40 ∧ (∀ s, s < Sn R → Sw R s < Cn R ∧ Sp R s ≤ 12) ∧ (∀ s p, s < Sn R → p < Sp R s → Sq R s p < Cn R)
/-- the class holds R at the place a -/
def CC (R : RD) (a : Nat) (m : Mm) (c : Nat) : Prop := m (a + 2) c = Cg R c ∧ m (a + 3) c = Co R c ∧ m (a + 4) c = (Cc R c : Int) ∧ m (a + 5) c = (Cl R c : Int) ∧ m (a + 6) c = (Ct R c : Int) ∧ m (a + 7) c = (Ck R c : Int)
def CR (R : RD) (a : Nat) (m : Mm) : Prop := m (a + 1) 7 = (Cn R : Int) ∧ m a 5 = (Cq R : Int) ∧ (∀ c, c < Cn R → CC R a m c) ∧ (∀ c k, c < Cn R → k < Ck R c → m (a + 8) (30 * c + k) = (Cp R c k : Int)) ∧ m (a + 9) 3 = (Sn R : Int) ∧ (∀ s, s < Sn R → m (a + 10) s = (Sw R s : Int) ∧ m (a + 11) s = (Sp R s : Int)) ∧ (∀ s p, s < Sn R → p < Sp R s → m (a + 12) (12 * s + p) = (Sq R s p : Int))
/-- the model holds R as its record r -/
def MC (R : RD) (r : Nat) (m : Mm) (c : Nat) : Prop := m 127 (60 * r + c) = Cg R c ∧ m 128 (60 * r + c) = Co R c ∧ m 129 (60 * r + c) = (Cc R c : Int) ∧ m 130 (60 * r + c) = (Cl R c : Int) ∧ m 131 (60 * r + c) = (if Ct R c = 0 then -1 else (Ct R c : Int)) ∧ m 132 (60 * r + c) = (Ck R c : Int)
def MK (R : RD) (r : Nat) (m : Mm) (c k : Nat) : Prop := m 133 (1800 * r + 30 * c + k) = (ht (Cp R c k) : Int) ∧ m 134 (1800 * r + 30 * c + k) = (so (Cp R c k) : Int) ∧ m 135 (1800 * r + 30 * c + k) = (tu (Cp R c k) : Int)
def MR (R : RD) (r : Nat) (m : Mm) : Prop := m 125 r = (Cn R : Int) ∧ m 126 r = (Cq R : Int) ∧ (∀ c, c < Cn R → MC R r m c) ∧ (∀ c k, c < Cn R → k < Ck R c → MK R r m c k) ∧ m 136 r = (Sn R : Int) ∧ (∀ s, s < Sn R → m 137 (40 * r + s) = (Sw R s : Int) ∧ m 138 (40 * r + s) = (Sp R s : Int)) ∧ (∀ s p, s < Sn R → p < Sp R s → m 139 (480 * r + 12 * s + p) = (Sq R s p : Int))
/-- nothing but the places lo .. hi has changed -/
def Fx (lo hi : Nat) (m m' : Mm) : Prop := ∀ b j, b < lo ∨ hi < b → m' b j = m b j
theorem Fx.rf {lo hi : Nat} {m : Mm} : Fx lo hi m m := fun _ _ _ => rfl
theorem Fx.tr {lo hi : Nat} {m m' m'' : Mm} (h : Fx lo hi m m') (h' : Fx lo hi m' m'') : Fx lo hi m m'' := fun b j hb => (h' b j hb).trans (h b j hb)
theorem Fx.up {lo hi a i : Nat} {x : Int} {m m' : Mm} (h : Fx lo hi m m') (h1 : lo ≤ a) (h2 : a ≤ hi) : Fx lo hi m (up2 m' a i x) := fun b j hb => (up2_ne (by omega)).trans (h b j hb)
theorem Fx.wide {lo hi lo' hi' : Nat} {m m' : Mm} (h : Fx lo hi m m') (h1 : lo' ≤ lo) (h2 : hi ≤ hi') : Fx lo' hi' m m' := fun b j hb => h b j (by omega)
theorem Fx.cp {lo hi a b i j n : Nat} {m m' : Mm} (h : Fx lo hi m m') (h1 : lo ≤ b) (h2 : b ≤ hi) : Fx lo hi m (cpm m' a i b j n) := fun q w hb => by
  unfold cpm
  rw [if_neg (by omega)]
  exact h q w hb
theorem CR.of {R : RD} {a : Nat} {m m' : Mm} (h : CR R a m) (e : ∀ b j, a ≤ b → b ≤ a + 12 → (b = a → j = 5) → m' b j = m b j) : CR R a m' := by
  obtain ⟨h1, h2, h3, h4, h5, h6, h7⟩ := h
  refine ⟨?_, ?_, fun c hc => ?_, fun c k hc hk => ?_, ?_, fun s hs => ?_, fun s p hs hp => ?_⟩
  · rw [e _ _ (by omega) (by omega) (by omega)]; exact h1
  · rw [e _ _ (by omega) (by omega) (by omega)]; exact h2
  · obtain ⟨g1, g2, g3, g4, g5, g6⟩ := h3 c hc
    refine ⟨?_, ?_, ?_, ?_, ?_, ?_⟩ <;> (rw [e _ _ (by omega) (by omega) (by omega)]; assumption)
  · rw [e _ _ (by omega) (by omega) (by omega)]; exact h4 c k hc hk
  · rw [e _ _ (by omega) (by omega) (by omega)]; exact h5
  · rw [e _ _ (by omega) (by omega) (by omega), e _ _ (by omega) (by omega) (by omega)]; exact h6 s hs
  · rw [e _ _ (by omega) (by omega) (by omega)]; exact h7 s p hs hp
theorem MR.of {R : RD} {r : Nat} {m m' : Mm} (h : MR R r m) (e : ∀ b j, 125 ≤ b → b ≤ 139 → m' b j = m b j) : MR R r m' := by
  obtain ⟨h1, h2, h3, h4, h5, h6, h7⟩ := h
  refine ⟨?_, ?_, fun c hc => ?_, fun c k hc hk => ?_, ?_, fun s hs => ?_, fun s p hs hp => ?_⟩
  · rw [e _ _ (by omega) (by omega)]; exact h1
  · rw [e _ _ (by omega) (by omega)]; exact h2
  · obtain ⟨g1, g2, g3, g4, g5, g6⟩ := h3 c hc
    refine ⟨?_, ?_, ?_, ?_, ?_, ?_⟩ <;> (rw [e _ _ (by omega) (by omega)]; assumption)
  · obtain ⟨g1, g2, g3⟩ := h4 c k hc hk
    refine ⟨?_, ?_, ?_⟩ <;> (rw [e _ _ (by omega) (by omega)]; assumption)
  · rw [e _ _ (by omega) (by omega)]; exact h5
  · rw [e _ _ (by omega) (by omega), e _ _ (by omega) (by omega)]; exact h6 s hs
  · rw [e _ _ (by omega) (by omega)]; exact h7 s p hs hp
section PRJ
variable {R : RD} {a r c k s p e : Nat} {m : Mm}
theorem CR_2 (h : CR R a m) (hc : c < Cn R) : m (a + 2) c = Cg R c := (h.2.2.1 c hc).1
theorem CR_3 (h : CR R a m) (hc : c < Cn R) : m (a + 3) c = Co R c := (h.2.2.1 c hc).2.1
theorem CR_4 (h : CR R a m) (hc : c < Cn R) : m (a + 4) c = (Cc R c : Int) := (h.2.2.1 c hc).2.2.1
theorem CR_5 (h : CR R a m) (hc : c < Cn R) : m (a + 5) c = (Cl R c : Int) := (h.2.2.1 c hc).2.2.2.1
theorem CR_6 (h : CR R a m) (hc : c < Cn R) : m (a + 6) c = (Ct R c : Int) := (h.2.2.1 c hc).2.2.2.2.1
theorem CR_7 (h : CR R a m) (hc : c < Cn R) : m (a + 7) c = (Ck R c : Int) := (h.2.2.1 c hc).2.2.2.2.2
theorem CR_8 (h : CR R a m) (hc : c < Cn R) (hk : k < Ck R c) (he : e = 30 * c + k) : m (a + 8) e = (Cp R c k : Int) := by subst he; exact h.2.2.2.1 c k hc hk
theorem CRS (h : CR R a m) : m (a + 9) 3 = (Sn R : Int) := h.2.2.2.2.1
theorem CR_10 (h : CR R a m) (hs : s < Sn R) : m (a + 10) s = (Sw R s : Int) := (h.2.2.2.2.2.1 s hs).1
theorem CR_11 (h : CR R a m) (hs : s < Sn R) : m (a + 11) s = (Sp R s : Int) := (h.2.2.2.2.2.1 s hs).2
theorem CR_12 (h : CR R a m) (hs : s < Sn R) (hp : p < Sp R s) (he : e = 12 * s + p) : m (a + 12) e = (Sq R s p : Int) := by subst he; exact h.2.2.2.2.2.2 s p hs hp
def Ctz (R : RD) (c : Nat) : Int := if Ct R c = 0 then -1 else (Ct R c : Int)
theorem MR_125 (h : MR R r m) : m 125 r = (Cn R : Int) := h.1
theorem MR_126 (h : MR R r m) : m 126 r = (Cq R : Int) := h.2.1
theorem MR_136 (h : MR R r m) : m 136 r = (Sn R : Int) := h.2.2.2.2.1
theorem MR_127 (h : MR R r m) (hc : c < Cn R) (he : e = 60 * r + c) : m 127 e = Cg R c := by subst he; exact (h.2.2.1 c hc).1
theorem MR_128 (h : MR R r m) (hc : c < Cn R) (he : e = 60 * r + c) : m 128 e = Co R c := by subst he; exact (h.2.2.1 c hc).2.1
theorem MR_129 (h : MR R r m) (hc : c < Cn R) (he : e = 60 * r + c) : m 129 e = (Cc R c : Int) := by subst he; exact (h.2.2.1 c hc).2.2.1
theorem MR_130 (h : MR R r m) (hc : c < Cn R) (he : e = 60 * r + c) : m 130 e = (Cl R c : Int) := by subst he; exact (h.2.2.1 c hc).2.2.2.1
theorem MR_131 (h : MR R r m) (hc : c < Cn R) (he : e = 60 * r + c) : m 131 e = Ctz R c := by subst he; exact (h.2.2.1 c hc).2.2.2.2.1
theorem MR_132 (h : MR R r m) (hc : c < Cn R) (he : e = 60 * r + c) : m 132 e = (Ck R c : Int) := by subst he; exact (h.2.2.1 c hc).2.2.2.2.2
theorem MR_133 (h : MR R r m) (hc : c < Cn R) (hk : k < Ck R c) (he : e = 1800 * r + 30 * c + k) : m 133 e = (ht (Cp R c k) : Int) := by subst he; exact (h.2.2.2.1 c k hc hk).1
theorem MR_134 (h : MR R r m) (hc : c < Cn R) (hk : k < Ck R c) (he : e = 1800 * r + 30 * c + k) : m 134 e = (so (Cp R c k) : Int) := by subst he; exact (h.2.2.2.1 c k hc hk).2.1
theorem MR_135 (h : MR R r m) (hc : c < Cn R) (hk : k < Ck R c) (he : e = 1800 * r + 30 * c + k) : m 135 e = (tu (Cp R c k) : Int) := by subst he; exact (h.2.2.2.1 c k hc hk).2.2
theorem MR_137 (h : MR R r m) (hs : s < Sn R) (he : e = 40 * r + s) : m 137 e = (Sw R s : Int) := by subst he; exact (h.2.2.2.2.2.1 s hs).1
theorem MR_138 (h : MR R r m) (hs : s < Sn R) (he : e = 40 * r + s) : m 138 e = (Sp R s : Int) := by subst he; exact (h.2.2.2.2.2.1 s hs).2
theorem MR_139 (h : MR R r m) (hs : s < Sn R) (hp : p < Sp R s) (he : e = 480 * r + 12 * s + p) : m 139 e = (Sq R s p : Int) := by subst he; exact h.2.2.2.2.2.2 s p hs hp
end PRJ
/-! bits -/
theorem oI (n : Nat) : Int32.ofInt (n : Int) = nI n := by
  apply Int32.toBitVec_inj.mp
  simp [nI]
theorem nI_m31 : ∀ y, y < 32 → (((nI y &&& 31) : Int32).toBitVec.smod 32).toNat = y := by decide
theorem b32_shr {x y : Nat} (hx : x < 2147483648) (hy : y < 32) : b32 (fun a b => a >>> (b &&& 31)) (x : Int) (y : Int) = ((x / 2 ^ y : Nat) : Int) := by
  unfold b32
  dsimp only
  rw [oI, oI, pk_shrN hx _ y (nI_m31 y hy), nI_toInt (by have := Nat.div_le_self x (2 ^ y); omega)]
theorem b32_shl {x y : Nat} (hy : y < 32) (hx : x * 2 ^ y < 2147483648) : b32 (fun a b => a <<< (b &&& 31)) (x : Int) (y : Int) = ((x * 2 ^ y : Nat) : Int) := by
  unfold b32
  dsimp only
  rw [oI, oI, pk_shlN _ y (nI_m31 y hy) (by omega), nI_toInt (by omega)]
theorem b32_and {x y : Nat} (hx : x < 2147483648) (hy : y < 2147483648) : b32 (fun a b => a &&& b) (x : Int) (y : Int) = ((x &&& y : Nat) : Int) := by
  unfold b32
  dsimp only
  have h : nI x &&& nI y = nI (x &&& y) := by
    apply Int32.toBitVec_inj.mp
    simp [nI, BitVec.ofNat_and]
  rw [oI, oI, h, nI_toInt (by have := @Nat.and_le_left x y; omega)]
theorem b32_or {x y : Nat} (hx : x < 2147483648) (hy : y < 2147483648) : b32 (fun a b => a ||| b) (x : Int) (y : Int) = ((x ||| y : Nat) : Int) := by
  unfold b32
  dsimp only
  have h : nI x ||| nI y = nI (x ||| y) := by
    apply Int32.toBitVec_inj.mp
    simp [nI, BitVec.ofNat_or]
  rw [oI, oI, h, nI_toInt (by have := @Nat.or_lt_two_pow x y 31 (by omega) (by omega); omega)]
theorem and_m (x k : Nat) : x &&& (2 ^ k - 1) = x % 2 ^ k := Nat.and_two_pow_sub_one_eq_mod x k
section RULES
variable {k pc n len : Nat} {L : Lc} {r : List AV} {Q : Option AV → Sx → Prop} {s : Sx} {x y v : Nat}
theorem E_shr (hi : ins k pc = some (.ishr, n)) (hx : x < 2147483648) (hy : y < 32) (hv : x / 2 ^ y = v) (kk : E k (pc + n) L (aI (v : Int) :: r) s Q) : E k pc L (aI (y : Int) :: aI (x : Int) :: r) s Q := by
  subst hv
  refine E_s hi ?_ kk
  rw [← b32_shr hx hy]
  rfl
theorem E_shl (hi : ins k pc = some (.ishl, n)) (hy : y < 32) (hx : x * 2 ^ y < 2147483648) (hv : x * 2 ^ y = v) (kk : E k (pc + n) L (aI (v : Int) :: r) s Q) : E k pc L (aI (y : Int) :: aI (x : Int) :: r) s Q := by
  subst hv
  refine E_s hi ?_ kk
  rw [← b32_shl hy hx]
  rfl
theorem E_and (hi : ins k pc = some (.iand, n)) (hx : x < 2147483648) (hy : y < 2147483648) (hv : x &&& y = v) (kk : E k (pc + n) L (aI (v : Int) :: r) s Q) : E k pc L (aI (y : Int) :: aI (x : Int) :: r) s Q := by
  subst hv
  refine E_s hi ?_ kk
  rw [← b32_and hx hy]
  rfl
theorem E_or (hi : ins k pc = some (.ior, n)) (hx : x < 2147483648) (hy : y < 2147483648) (hv : x ||| y = v) (kk : E k (pc + n) L (aI (v : Int) :: r) s Q) : E k pc L (aI (y : Int) :: aI (x : Int) :: r) s Q := by
  subst hv
  refine E_s hi ?_ kk
  rw [← b32_or hx hy]
  rfl
end RULES

section
variable {len : Nat} {m : Mm} {Q : Option AV → Sx → Prop} {R : RD} {a : Nat}
theorem c_heightOf {p : Nat} (hp : p < 2147483648) (q : Q (some (aI (ht p : Int))) (m, tl len)) : E 25 0 [some (aI ((p : Nat) : Int))] [] (m, tl len) Q := by
  refine E_s (p' := 1) (st' := aI ((p : Nat) : Int) :: _) rfl rfl ?_
  refine E_s (p' := 3) (st' := aI 6 :: _) rfl rfl ?_
  refine E_shr (x := p) (y := 6) (v := (p) / 2 ^ 6) rfl (by omega) (by omega) rfl ?_
  refine E_ret rfl rfl ?_
  exact q
theorem c_sortOf {p : Nat} (hp : p < 2147483648) (q : Q (some (aI (so p : Int))) (m, tl len)) : E 41 0 [some (aI ((p : Nat) : Int))] [] (m, tl len) Q := by
  refine E_s (p' := 1) (st' := aI ((p : Nat) : Int) :: _) rfl rfl ?_
  refine E_s (p' := 2) (st' := aI 4 :: _) rfl rfl ?_
  refine E_shr (x := p) (y := 4) (v := (p) / 2 ^ 4) rfl (by have := Nat.div_le_self p (2 ^ 4); omega) (by omega) rfl ?_
  refine E_s (p' := 4) (st' := aI 3 :: _) rfl rfl ?_
  refine E_and (x := (p) / 2 ^ 4) (y := 3) (v := ((p) / 2 ^ 4) &&& 3) rfl (by have := Nat.div_le_self p (2 ^ 4); omega) (by omega) rfl ?_
  refine E_ret rfl rfl ?_
  rw [and_m _ 2]; exact q
theorem c_turnsOf {p : Nat} (hp : p < 2147483648) (q : Q (some (aI (tu p : Int))) (m, tl len)) : E 42 0 [some (aI ((p : Nat) : Int))] [] (m, tl len) Q := by
  refine E_s (p' := 1) (st' := aI ((p : Nat) : Int) :: _) rfl rfl ?_
  refine E_s (p' := 3) (st' := aI 15 :: _) rfl rfl ?_
  refine E_and (x := p) (y := 15) (v := (p) &&& 15) rfl (by omega) (by omega) rfl ?_
  refine E_ret rfl rfl ?_
  rw [and_m _ 4]; exact q
def pck (h s t : Nat) : Nat := 64 * h + 16 * s + t
theorem pck_or {h s t : Nat} (hs : s < 4) (ht : t < 16) : h * 2 ^ 6 ||| s * 2 ^ 4 ||| t = pck h s t := by
  have e1 : h * 2 ^ 6 ||| s * 2 ^ 4 = h * 2 ^ 6 + s * 2 ^ 4 := by
    rw [Nat.mul_comm h]
    exact (Nat.two_pow_add_eq_or_of_lt (i := 6) (b := s * 2 ^ 4) (by omega) h).symm
  have e2 : (h * 4 + s) * 2 ^ 4 ||| t = (h * 4 + s) * 2 ^ 4 + t := by
    rw [Nat.mul_comm (h * 4 + s)]
    exact (Nat.two_pow_add_eq_or_of_lt (i := 4) (b := t) (by omega) (h * 4 + s)).symm
  rw [e1, show h * 2 ^ 6 + s * 2 ^ 4 = (h * 4 + s) * 2 ^ 4 by omega, e2]
  unfold pck; omega
theorem c_pack {h s t : Nat} (hh : h ≤ 600) (hs : s < 4) (ht : t < 16) (q : Q (some (aI (pck h s t : Int))) (m, tl len)) : E 26 0 [some (aI ((h : Nat) : Int)), some (aI ((s : Nat) : Int)), some (aI ((t : Nat) : Int))] [] (m, tl len) Q := by
  refine E_s (p' := 1) (st' := aI ((h : Nat) : Int) :: _) rfl rfl ?_
  refine E_s (p' := 3) (st' := aI 6 :: _) rfl rfl ?_
  refine E_shl (x := h) (y := 6) (v := (h) * 2 ^ 6) rfl (by first | omega | exact Nat.or_lt_two_pow (n := 31) (by omega) (by omega)) (by omega) rfl ?_
  refine E_s (p' := 5) (st' := aI ((s : Nat) : Int) :: _) rfl rfl ?_
  refine E_s (p' := 6) (st' := aI 4 :: _) rfl rfl ?_
  refine E_shl (x := s) (y := 4) (v := (s) * 2 ^ 4) rfl (by first | omega | exact Nat.or_lt_two_pow (n := 31) (by omega) (by omega)) (by omega) rfl ?_
  refine E_or (x := (h) * 2 ^ 6) (y := (s) * 2 ^ 4) (v := ((h) * 2 ^ 6) ||| ((s) * 2 ^ 4)) rfl (by first | omega | exact Nat.or_lt_two_pow (n := 31) (by omega) (by omega)) (by omega) rfl ?_
  refine E_s (p' := 9) (st' := aI ((t : Nat) : Int) :: _) rfl rfl ?_
  refine E_or (x := ((h) * 2 ^ 6) ||| ((s) * 2 ^ 4)) (y := t) (v := (((h) * 2 ^ 6) ||| ((s) * 2 ^ 4)) ||| t) rfl (by first | omega | exact Nat.or_lt_two_pow (n := 31) (by omega) (by omega)) (by omega) rfl ?_
  refine E_ret rfl rfl ?_
  rw [pck_or hs ht]; exact q
theorem c_has {c : Int} (hR : isR a) (hC : CR R a m) (q1 : ∀ i : Nat, c = i → i < Cn R → Q (some (aI 1)) (m, tl len)) (q0 : (c < 0 ∨ (Cn R : Int) ≤ c) → Q (some (aI 0)) (m, tl len)) : E 17 0 [some (aA (a + 1)), some (aI (c))] [] (m, tl len) Q := by
  refine E_s (p' := 1) (st' := aI (c) :: _) rfl rfl ?_
  refine E_if_lt (x := (c)) rfl (by decide) (fun h_1 => ?_) (fun h_1 => ?_)
  · refine E_go (p' := 16) (L' := [some (aA (a + 1)), some (aI (c))]) (st' := []) rfl rfl rfl ?_
    refine E_s (p' := 17) (st' := aI 0 :: _) rfl rfl ?_
    refine E_ret rfl rfl ?_
    exact q0 (by omega)
  · refine E_go (p' := 4) (L' := [some (aA (a + 1)), some (aI (c))]) (st' := []) rfl rfl rfl ?_
    refine E_s (p' := 5) (st' := aI (c) :: _) rfl rfl ?_
    refine E_s (p' := 6) (st' := aA (a + 1) :: _) rfl rfl ?_
    refine E_gI (v := ((Cn R : Nat) : Int)) rfl rfl rfl (kR_1 hR) hC.1 ?_
    refine E_icmp_ge (x := (c)) (y := ((Cn R : Nat) : Int)) rfl (by decide) (fun h_2 => ?_) (fun h_2 => ?_)
    · refine E_go (p' := 16) (L' := [some (aA (a + 1)), some (aI (c))]) (st' := []) rfl rfl rfl ?_
      refine E_s (p' := 17) (st' := aI 0 :: _) rfl rfl ?_
      refine E_ret rfl rfl ?_
      exact q0 (by omega)
    · refine E_go (p' := 12) (L' := [some (aA (a + 1)), some (aI (c))]) (st' := []) rfl rfl rfl ?_
      refine E_s (p' := 13) (st' := aI 1 :: _) rfl rfl ?_
      refine E_s (p' := 17) rfl rfl ?_
      refine E_ret rfl rfl ?_
      exact q1 c.toNat (by omega) (by omega)
theorem c_recordOf {r : Int} (q1 : ∀ i : Nat, i < 4 → r = i → Q (some (aA (tgA i))) (m, tl len)) (q0 : (r < 0 ∨ 3 < r) → Q (some aN) (m, tl len)) : E 12 0 [some (aA 1), some (aI r)] [] (m, tl len) Q := by
  refine E_s (p' := 1) (st' := aI r :: _) rfl rfl ?_
  refine E_if_lt rfl (by decide) (fun h => ?_) (fun h => ?_)
  · refine E_s (p' := 19) (st' := aN :: _) rfl rfl ?_
    exact E_ret rfl rfl (q0 (by omega))
  refine E_s (p' := 5) (st' := aI r :: _) rfl rfl ?_
  refine E_s (p' := 6) (st' := aI 4 :: _) rfl rfl ?_
  refine E_icmp_ge rfl (by decide) (fun h => ?_) (fun h => ?_)
  · refine E_s (p' := 19) (st' := aN :: _) rfl rfl ?_
    exact E_ret rfl rfl (q0 (by omega))
  rcases (show r = 0 ∨ r = 1 ∨ r = 2 ∨ r = 3 by omega) with e | e | e | e
  · subst e
    refine E_s (p' := 10) (st' := aA 1 :: _) rfl rfl ?_
    refine E_s (p' := 13) (st' := aA 2 :: _) rfl rfl ?_
    refine E_s (p' := 14) (st' := aI 0 :: _) rfl rfl ?_
    refine E_s (p' := 15) (st' := aA 20 :: _) rfl rfl ?_
    refine E_s (p' := 19) rfl rfl ?_
    exact E_ret rfl rfl (q1 0 (by omega) rfl)
  · subst e
    refine E_s (p' := 10) (st' := aA 1 :: _) rfl rfl ?_
    refine E_s (p' := 13) (st' := aA 2 :: _) rfl rfl ?_
    refine E_s (p' := 14) (st' := aI 1 :: _) rfl rfl ?_
    refine E_s (p' := 15) (st' := aA 46 :: _) rfl rfl ?_
    refine E_s (p' := 19) rfl rfl ?_
    exact E_ret rfl rfl (q1 1 (by omega) rfl)
  · subst e
    refine E_s (p' := 10) (st' := aA 1 :: _) rfl rfl ?_
    refine E_s (p' := 13) (st' := aA 2 :: _) rfl rfl ?_
    refine E_s (p' := 14) (st' := aI 2 :: _) rfl rfl ?_
    refine E_s (p' := 15) (st' := aA 72 :: _) rfl rfl ?_
    refine E_s (p' := 19) rfl rfl ?_
    exact E_ret rfl rfl (q1 2 (by omega) rfl)
  · subst e
    refine E_s (p' := 10) (st' := aA 1 :: _) rfl rfl ?_
    refine E_s (p' := 13) (st' := aA 2 :: _) rfl rfl ?_
    refine E_s (p' := 14) (st' := aI 3 :: _) rfl rfl ?_
    refine E_s (p' := 15) (st' := aA 98 :: _) rfl rfl ?_
    refine E_s (p' := 19) rfl rfl ?_
    exact E_ret rfl rfl (q1 3 (by omega) rfl)
theorem c_canBeCord {c l : Int} (q1 : (0 ≤ c ∧ c ≤ 23) → (10 ≤ l ∧ l ≤ 600) → Q (some (aI 1)) (m, tl len)) (q0 : ¬ ((0 ≤ c ∧ c ≤ 23) ∧ 10 ≤ l ∧ l ≤ 600) → Q (some (aI 0)) (m, tl len)) : E 13 0 [some (aI (c)), some (aI (l))] [] (m, tl len) Q := by
  refine E_s (p' := 1) (st' := aI (c) :: _) rfl rfl ?_
  refine E_if_lt (x := (c)) rfl (by decide) (fun h_1 => ?_) (fun h_1 => ?_)
  · refine E_go (p' := 27) (L' := [some (aI (c)), some (aI (l))]) (st' := []) rfl rfl rfl ?_
    refine E_s (p' := 28) (st' := aI 0 :: _) rfl rfl ?_
    refine E_ret rfl rfl ?_
    exact q0 (by omega)
  · refine E_go (p' := 4) (L' := [some (aI (c)), some (aI (l))]) (st' := []) rfl rfl rfl ?_
    refine E_s (p' := 5) (st' := aI (c) :: _) rfl rfl ?_
    refine E_s (p' := 7) (st' := aI 24 :: _) rfl rfl ?_
    refine E_icmp_ge (x := (c)) (y := 24) rfl (by decide) (fun h_2 => ?_) (fun h_2 => ?_)
    · refine E_go (p' := 27) (L' := [some (aI (c)), some (aI (l))]) (st' := []) rfl rfl rfl ?_
      refine E_s (p' := 28) (st' := aI 0 :: _) rfl rfl ?_
      refine E_ret rfl rfl ?_
      exact q0 (by omega)
    · refine E_go (p' := 10) (L' := [some (aI (c)), some (aI (l))]) (st' := []) rfl rfl rfl ?_
      refine E_s (p' := 11) (st' := aI (l) :: _) rfl rfl ?_
      refine E_s (p' := 13) (st' := aI 10 :: _) rfl rfl ?_
      refine E_icmp_lt (x := (l)) (y := 10) rfl (by decide) (fun h_3 => ?_) (fun h_3 => ?_)
      · refine E_go (p' := 27) (L' := [some (aI (c)), some (aI (l))]) (st' := []) rfl rfl rfl ?_
        refine E_s (p' := 28) (st' := aI 0 :: _) rfl rfl ?_
        refine E_ret rfl rfl ?_
        exact q0 (by omega)
      · refine E_go (p' := 16) (L' := [some (aI (c)), some (aI (l))]) (st' := []) rfl rfl rfl ?_
        refine E_s (p' := 17) (st' := aI (l) :: _) rfl rfl ?_
        refine E_s (p' := 20) (st' := aI 600 :: _) rfl rfl ?_
        refine E_icmp_gt (x := (l)) (y := 600) rfl (by decide) (fun h_4 => ?_) (fun h_4 => ?_)
        · refine E_go (p' := 27) (L' := [some (aI (c)), some (aI (l))]) (st' := []) rfl rfl rfl ?_
          refine E_s (p' := 28) (st' := aI 0 :: _) rfl rfl ?_
          refine E_ret rfl rfl ?_
          exact q0 (by omega)
        · refine E_go (p' := 23) (L' := [some (aI (c)), some (aI (l))]) (st' := []) rfl rfl rfl ?_
          refine E_s (p' := 24) (st' := aI 1 :: _) rfl rfl ?_
          refine E_s (p' := 28) rfl rfl ?_
          refine E_ret rfl rfl ?_
          exact q1 (by omega) (by omega)
def kind (s t : Int) : Prop := (s = 1 ∧ 2 ≤ t ∧ t ≤ 9) ∨ ((s = 0 ∨ s = 2) ∧ t = 0)
theorem c_canBeKnot {c l : Int} (q1 : kind c l → Q (some (aI 1)) (m, tl len)) (q0 : ¬ kind c l → Q (some (aI 0)) (m, tl len)) : E 20 0 [some (aI (c)), some (aI (l))] [] (m, tl len) Q := by
  refine E_s (p' := 1) (st' := aI (c) :: _) rfl rfl ?_
  refine E_s (p' := 2) (st' := aI 1 :: _) rfl rfl ?_
  refine E_icmp_ne (x := (c)) (y := 1) rfl (by decide) (fun h_1 => ?_) (fun h_1 => ?_)
  · refine E_go (p' := 22) (L' := [some (aI (c)), some (aI (l))]) (st' := []) rfl rfl rfl ?_
    refine E_s (p' := 23) (st' := aI (c) :: _) rfl rfl ?_
    refine E_if_eq (x := (c)) rfl (by decide) (fun h_2 => ?_) (fun h_2 => ?_)
    · refine E_go (p' := 31) (L' := [some (aI (c)), some (aI (l))]) (st' := []) rfl rfl rfl ?_
      refine E_s (p' := 32) (st' := aI (l) :: _) rfl rfl ?_
      refine E_if_ne (x := (l)) rfl (by decide) (fun h_3 => ?_) (fun h_3 => ?_)
      · refine E_go (p' := 39) (L' := [some (aI (c)), some (aI (l))]) (st' := []) rfl rfl rfl ?_
        refine E_s (p' := 40) (st' := aI 0 :: _) rfl rfl ?_
        refine E_ret rfl rfl ?_
        exact q0 (by unfold kind; omega)
      · refine E_go (p' := 35) (L' := [some (aI (c)), some (aI (l))]) (st' := []) rfl rfl rfl ?_
        refine E_s (p' := 36) (st' := aI 1 :: _) rfl rfl ?_
        refine E_s (p' := 40) rfl rfl ?_
        refine E_ret rfl rfl ?_
        exact q1 (by unfold kind; omega)
    · refine E_go (p' := 26) (L' := [some (aI (c)), some (aI (l))]) (st' := []) rfl rfl rfl ?_
      refine E_s (p' := 27) (st' := aI (c) :: _) rfl rfl ?_
      refine E_s (p' := 28) (st' := aI 2 :: _) rfl rfl ?_
      refine E_icmp_ne (x := (c)) (y := 2) rfl (by decide) (fun h_4 => ?_) (fun h_4 => ?_)
      · refine E_go (p' := 39) (L' := [some (aI (c)), some (aI (l))]) (st' := []) rfl rfl rfl ?_
        refine E_s (p' := 40) (st' := aI 0 :: _) rfl rfl ?_
        refine E_ret rfl rfl ?_
        exact q0 (by unfold kind; omega)
      · refine E_go (p' := 31) (L' := [some (aI (c)), some (aI (l))]) (st' := []) rfl rfl rfl ?_
        refine E_s (p' := 32) (st' := aI (l) :: _) rfl rfl ?_
        refine E_if_ne (x := (l)) rfl (by decide) (fun h_5 => ?_) (fun h_5 => ?_)
        · refine E_go (p' := 39) (L' := [some (aI (c)), some (aI (l))]) (st' := []) rfl rfl rfl ?_
          refine E_s (p' := 40) (st' := aI 0 :: _) rfl rfl ?_
          refine E_ret rfl rfl ?_
          exact q0 (by unfold kind; omega)
        · refine E_go (p' := 35) (L' := [some (aI (c)), some (aI (l))]) (st' := []) rfl rfl rfl ?_
          refine E_s (p' := 36) (st' := aI 1 :: _) rfl rfl ?_
          refine E_s (p' := 40) rfl rfl ?_
          refine E_ret rfl rfl ?_
          exact q1 (by unfold kind; omega)
  · refine E_go (p' := 5) (L' := [some (aI (c)), some (aI (l))]) (st' := []) rfl rfl rfl ?_
    refine E_s (p' := 6) (st' := aI (l) :: _) rfl rfl ?_
    refine E_s (p' := 7) (st' := aI 2 :: _) rfl rfl ?_
    refine E_icmp_lt (x := (l)) (y := 2) rfl (by decide) (fun h_6 => ?_) (fun h_6 => ?_)
    · refine E_go (p' := 20) (L' := [some (aI (c)), some (aI (l))]) (st' := []) rfl rfl rfl ?_
      refine E_s (p' := 21) (st' := aI 0 :: _) rfl rfl ?_
      refine E_ret rfl rfl ?_
      exact q0 (by unfold kind; omega)
    · refine E_go (p' := 10) (L' := [some (aI (c)), some (aI (l))]) (st' := []) rfl rfl rfl ?_
      refine E_s (p' := 11) (st' := aI (l) :: _) rfl rfl ?_
      refine E_s (p' := 13) (st' := aI 9 :: _) rfl rfl ?_
      refine E_icmp_gt (x := (l)) (y := 9) rfl (by decide) (fun h_7 => ?_) (fun h_7 => ?_)
      · refine E_go (p' := 20) (L' := [some (aI (c)), some (aI (l))]) (st' := []) rfl rfl rfl ?_
        refine E_s (p' := 21) (st' := aI 0 :: _) rfl rfl ?_
        refine E_ret rfl rfl ?_
        exact q0 (by unfold kind; omega)
      · refine E_go (p' := 16) (L' := [some (aI (c)), some (aI (l))]) (st' := []) rfl rfl rfl ?_
        refine E_s (p' := 17) (st' := aI 1 :: _) rfl rfl ?_
        refine E_s (p' := 21) rfl rfl ?_
        refine E_ret rfl rfl ?_
        exact q1 (by unfold kind; omega)
end
section
variable {len : Nat} {m : Mm} {Q : Option AV → Sx → Prop} {b N f n : Nat} {P : Nat → Nat} {h : Int}
theorem l_countAbove (hb : kd b = (1, N)) (hn : f + n ≤ N) (hN : N ≤ 100000) (hP : ∀ e k : Nat, k < n → e = f + k → m b e = (P k : Int)) (hp : ∀ k, k < n → P k < 2147483648) (q : ∀ k : Nat, k ≤ n → (∀ i, i < k → (ht (P i) : Int) < h) → (k < n → h ≤ (ht (P k) : Int)) → Q (some (aI (k : Int))) (m, tl len)) : ∀ (d : Nat) (k : Nat), (n < k + d) → (k ≤ n) → (∀ i, i < k → (ht (P i) : Int) < h) → E 24 3 [some (aA b), some (aI ((f : Nat) : Int)), some (aI ((n : Nat) : Int)), some (aI (h)), some (aI ((k : Nat) : Int))] [] (m, tl len) Q := by
  intro d
  induction d with
  | zero => intro k hd hk hlt; omega
  | succ d ih =>
    intro k hd hk hlt
    refine E_s (p' := 5) (st' := aI ((k : Nat) : Int) :: _) rfl rfl ?_
    refine E_s (p' := 6) (st' := aI ((n : Nat) : Int) :: _) rfl rfl ?_
    refine E_icmp_ge (x := ((k : Nat) : Int)) (y := ((n : Nat) : Int)) rfl (by decide) (fun h_1 => ?_) (fun h_1 => ?_)
    · refine E_go (p' := 28) (L' := [some (aA b), some (aI ((f : Nat) : Int)), some (aI ((n : Nat) : Int)), some (aI (h)), some (aI ((k : Nat) : Int))]) (st' := []) rfl rfl rfl ?_
      refine E_s (p' := 30) (st' := aI ((k : Nat) : Int) :: _) rfl rfl ?_
      refine E_ret rfl rfl ?_
      exact q k hk hlt (fun _ => by first | assumption | omega)
    · refine E_go (p' := 9) (L' := [some (aA b), some (aI ((f : Nat) : Int)), some (aI ((n : Nat) : Int)), some (aI (h)), some (aI ((k : Nat) : Int))]) (st' := []) rfl rfl rfl ?_
      refine E_s (p' := 10) (st' := aA b :: _) rfl rfl ?_
      refine E_s (p' := 11) (st' := aI ((f : Nat) : Int) :: _) rfl rfl ?_
      refine E_s (p' := 13) (st' := aI ((k : Nat) : Int) :: _) rfl rfl ?_
      refine E_add (v := ((f + k : Nat) : Int)) rfl (by omega) (by omega) ?_
      refine E_ald (e := f + k) (N := N) (v := ((P k : Nat) : Int)) rfl hb (rfl) (by omega) (hP _ _ (by omega) (by omega)) ?_
      refine E_callL (p' := 18) (L0 := [some (aI ((P k : Nat) : Int))]) rfl rfl rfl ?_
      refine c_heightOf (p := P k) (hp _ (by omega)) ?_
      refine E_go (p' := 18) (L' := [some (aA b), some (aI ((f : Nat) : Int)), some (aI ((n : Nat) : Int)), some (aI (h)), some (aI ((k : Nat) : Int))]) (st' := [aI ((ht (P k) : Nat) : Int)]) rfl rfl rfl ?_
      refine E_s (p' := 19) (st' := aI (h) :: _) rfl rfl ?_
      refine E_icmp_ge (x := ((ht (P k) : Nat) : Int)) (y := (h)) rfl (by decide) (fun h_2 => ?_) (fun h_2 => ?_)
      · refine E_go (p' := 28) (L' := [some (aA b), some (aI ((f : Nat) : Int)), some (aI ((n : Nat) : Int)), some (aI (h)), some (aI ((k : Nat) : Int))]) (st' := []) rfl rfl rfl ?_
        refine E_s (p' := 30) (st' := aI ((k : Nat) : Int) :: _) rfl rfl ?_
        refine E_ret rfl rfl ?_
        exact q k hk hlt (fun _ => by first | assumption | omega)
      · refine E_go (p' := 22) (L' := [some (aA b), some (aI ((f : Nat) : Int)), some (aI ((n : Nat) : Int)), some (aI (h)), some (aI ((k : Nat) : Int))]) (st' := []) rfl rfl rfl ?_
        refine E_inc (x := ((k : Nat) : Int)) (w := ((k + 1 : Nat) : Int)) (L' := [some (aA b), some (aI ((f : Nat) : Int)), some (aI ((n : Nat) : Int)), some (aI (h)), some (aI ((k + 1 : Nat) : Int))]) rfl rfl rfl (by omega) (by omega) rfl ?_
        refine E_s (p' := 3) rfl rfl ?_
        exact ih (k + 1) (by omega) (by omega) (fun i hi => by rcases Nat.lt_succ_iff_lt_or_eq.mp hi with g | g; exact hlt i g; subst g; assumption)
theorem c_countAbove (hb : kd b = (1, N)) (hn : f + n ≤ N) (hN : N ≤ 100000) (hP : ∀ e k : Nat, k < n → e = f + k → m b e = (P k : Int)) (hp : ∀ k, k < n → P k < 2147483648) (q : ∀ k : Nat, k ≤ n → (∀ i, i < k → (ht (P i) : Int) < h) → (k < n → h ≤ (ht (P k) : Int)) → Q (some (aI (k : Int))) (m, tl len)) : E 24 0 [some (aA b), some (aI ((f : Nat) : Int)), some (aI ((n : Nat) : Int)), some (aI (h)), none] [] (m, tl len) Q := by
  refine E_s (p' := 1) (st' := aI 0 :: _) rfl rfl ?_
  refine E_s (p' := 3) (L' := [some (aA b), some (aI ((f : Nat) : Int)), some (aI ((n : Nat) : Int)), some (aI (h)), some (aI 0)]) rfl rfl ?_
  exact l_countAbove hb hn hN hP hp q (n + 1) 0 (by omega) (by omega) (fun i hi => absurd hi (by omega))
end

/-! the spec: how a RECORD's numbers change -/
def upf {α : Type} (f : Nat → α) (i : Nat) (x : α) : Nat → α := fun j => if j = i then x else f j
def mkR (n q : Nat) (g o : Nat → Int) (cc cl ct ck : Nat → Nat) (cp : Nat → Nat → Nat) (sn : Nat) (sw sp : Nat → Nat) (sq : Nat → Nat → Nat) : RD := (n, (q, (g, (o, (cc, (cl, (ct, (ck, (cp, (sn, (sw, (sp, sq))))))))))))
def Radd (R : RD) (g o : Int) (col l : Nat) : RD := mkR (Cn R + 1) (Cq R) (upf (Cg R) (Cn R) g) (upf (Co R) (Cn R) o) (upf (Cc R) (Cn R) col) (upf (Cl R) (Cn R) l) (upf (Ct R) (Cn R) 0) (upf (Ck R) (Cn R) 0) (Cp R) (Sn R) (Sw R) (Sp R) (Sq R)
def Rkn (R : RD) (c n : Nat) (P : Nat → Nat) : RD := mkR (Cn R) (Cq R) (Cg R) (Co R) (Cc R) (Cl R) (Ct R) (upf (Ck R) c n) (upf (Cp R) c P) (Sn R) (Sw R) (Sp R) (Sq R)
def Rtr (R : RD) (c h n : Nat) : RD := mkR (Cn R) (Cq R) (Cg R) (Co R) (Cc R) (Cl R) (upf (Ct R) c h) (upf (Ck R) c n) (Cp R) (Sn R) (Sw R) (Sp R) (Sq R)
def Rgp (R : RD) (q : Nat) : RD := mkR (Cn R) q (Cg R) (Co R) (Cc R) (Cl R) (Ct R) (Ck R) (Cp R) (Sn R) (Sw R) (Sp R) (Sq R)
def Rclr (R : RD) : RD := mkR 0 15 (Cg R) (Co R) (Cc R) (Cl R) (Ct R) (Ck R) (Cp R) 0 (Sw R) (Sp R) (Sq R)
def Rsm (R : RD) (n : Nat) (w p : Nat → Nat) (t : Nat → Nat → Nat) : RD := mkR (Cn R) (Cq R) (Cg R) (Co R) (Cc R) (Cl R) (Ct R) (Ck R) (Cp R) n w p t
/-- how many of n KNOTS are above a height -/
def posn (P : Nat → Nat) (h : Nat) : Nat → Nat
  | 0 => 0
  | n + 1 => if posn P h n < n then posn P h n else if ht (P n) < h then n + 1 else n
theorem posn_le (P : Nat → Nat) (h : Nat) : ∀ n, posn P h n ≤ n := by
  intro n
  induction n with
  | zero => exact Nat.le_refl _
  | succ n ih => unfold posn; split; omega; split <;> omega
theorem posn_u {P : Nat → Nat} {h : Nat} : ∀ {n k : Nat}, k ≤ n → (∀ i, i < k → ht (P i) < h) → (k < n → h ≤ ht (P k)) → k = posn P h n := by
  intro n
  induction n with
  | zero => intro k hk _ _; unfold posn; omega
  | succ n ih =>
    intro k hk h1 h2
    unfold posn
    rcases Nat.lt_or_ge k n with g | g
    · have e := ih (by omega) h1 (fun _ => h2 (by omega))
      rw [← e, if_pos g]
    · rcases Nat.lt_or_ge n k with g2 | g2
      · have e : k = n + 1 := by omega
        subst e
        have e2 := ih (k := n) (Nat.le_refl _) (fun i hi => h1 i (by omega)) (fun q => absurd q (by omega))
        rw [← e2, if_neg (by omega), if_pos (h1 n (by omega))]
      · have e : k = n := by omega
        subst e
        have e2 := ih (k := k) (Nat.le_refl _) h1 (fun q => absurd q (by omega))
        rw [← e2, if_neg (by omega), if_neg (by have := h2 (by omega); omega)]
def insP (P : Nat → Nat) (k x : Nat) : Nat → Nat := fun i => if i < k then P i else if i = k then x else P (i - 1)
def remP (P : Nat → Nat) (k : Nat) : Nat → Nat := fun i => if i < k then P i else P (i + 1)
theorem VR.mono {R : RD} (hV : VR R) {c : Nat} (hc : c < Cn R) : ∀ {i j : Nat}, i < j → j < Ck R c → ht (Cp R c i) < ht (Cp R c j) := by
  intro i j
  induction j with
  | zero => intro h; omega
  | succ j ih =>
    intro h hj
    have h1 := (hV.2.2.2.1 c j hc (by omega)).2.2.2.2 hj
    rcases Nat.lt_or_ge i j with g | g
    · have := ih g (by omega); omega
    · have e : i = j := by omega
      subst e; exact h1
theorem kok_lt {p : Nat} {R : RD} (hV : VR R) {c k : Nat} (hc : c < Cn R) (hk : k < Ck R c) (e : p = Cp R c k) : p < 38464 := by
  obtain ⟨-, -, h3, -, -⟩ := hV.2.2.2.1 c k hc hk
  obtain ⟨-, -, -, ⟨-, h4⟩, -, -⟩ := hV.2.2.1 c hc
  subst e
  unfold ht at h3
  omega
def whl (R : RD) (c : Nat) (h : Int) : Prop := 1 ≤ h ∧ h ≤ (Cl R c : Int) ∧ (Ct R c = 0 ∨ h < (Ct R c : Int))
def tied (R : RD) (c : Nat) (h : Int) : Prop := ∃ k, k < Ck R c ∧ (ht (Cp R c k) : Int) = h
theorem cpm_ne {m : Mm} {a sp b dp n q j : Nat} (h : q ≠ b) : cpm m a sp b dp n q j = m q j := by unfold cpm; rw [if_neg h]
theorem cpm_out {m : Mm} {a sp b dp n j : Nat} (h : j < dp ∨ dp + n ≤ j) : cpm m a sp b dp n b j = m b j := by unfold cpm; rw [if_pos rfl, if_neg (by omega)]
theorem cpm_in {m : Mm} {a sp b dp n j : Nat} (h : dp ≤ j ∧ j < dp + n) : cpm m a sp b dp n b j = m a (sp + (j - dp)) := by unfold cpm; rw [if_pos rfl, if_pos h]
theorem rem_in {m : Mm} {b f n k k2 z : Nat} {P : Nat → Nat} (e : k2 = k) (hk : k < n) (hz : z + k2 + 1 = n) (hP : ∀ e k : Nat, k < n → e = f + k → m b e = (P k : Int)) : ∀ i, i < n - 1 → cpm m b (f + k2 + 1) b (f + k2) z b (f + i) = (remP P k i : Int) := by
  intro i hi
  subst e
  unfold remP
  rcases Nat.lt_or_ge i k2 with g | g
  · rw [cpm_out (by omega), if_pos g]
    exact hP _ i (by omega) rfl
  · rw [cpm_in (by omega), if_neg (by omega)]
    exact hP _ (i + 1) (by omega) (by omega)
theorem upf_eq {α : Type} {f : Nat → α} {i : Nat} {x : α} : upf f i x i = x := if_pos rfl
theorem upf_ne {α : Type} {f : Nat → α} {i j : Nat} {x : α} (h : j ≠ i) : upf f i x j = f j := if_neg h
theorem CR.kn {R : RD} {a c n : Nat} {P : Nat → Nat} {m m' : Mm} (h : CR R a m) (hV : VR R) (hn : n ≤ 30) (e1 : m' (a + 7) c = (n : Int)) (e2 : ∀ i, i < n → m' (a + 8) (30 * c + i) = (P i : Int)) (e : ∀ b j, a ≤ b → b ≤ a + 12 → ¬ (b = a + 7 ∧ j = c) → (b = a + 8 → j < 30 * c ∨ 30 * c + 30 ≤ j) → (b = a → j = 5) → m' b j = m b j) : CR (Rkn R c n P) a m' := by
  obtain ⟨h1, h2, h3, h4, h5, h6, h7⟩ := h
  have ee : ∀ b j, a ≤ b → b ≤ a + 12 → b ≠ a + 7 → b ≠ a + 8 → (b = a → j = 5) → m' b j = m b j := fun b j g1 g2 g3 g4 g5 => e b j g1 g2 (fun q => g3 q.1) (fun q => absurd q g4) g5
  refine ⟨(ee _ _ (by omega) (by omega) (by omega) (by omega) (by omega)).trans h1, (ee _ _ (by omega) (by omega) (by omega) (by omega) (by omega)).trans h2, fun d hd => ?_, fun d k hd hk => ?_, (ee _ _ (by omega) (by omega) (by omega) (by omega) (by omega)).trans h5, fun s hs => ?_, fun s p hs hp => ?_⟩
  · obtain ⟨g1, g2, g3, g4, g5, g6⟩ := h3 d hd
    refine ⟨(ee _ _ (by omega) (by omega) (by omega) (by omega) (by omega)).trans g1, (ee _ _ (by omega) (by omega) (by omega) (by omega) (by omega)).trans g2, (ee _ _ (by omega) (by omega) (by omega) (by omega) (by omega)).trans g3, (ee _ _ (by omega) (by omega) (by omega) (by omega) (by omega)).trans g4, (ee _ _ (by omega) (by omega) (by omega) (by omega) (by omega)).trans g5, ?_⟩
    show m' (a + 7) d = ((upf (Ck R) c n d : Nat) : Int)
    by_cases q : d = c
    · subst q; rw [upf_eq]; exact e1
    · rw [upf_ne q]; exact (e _ _ (by omega) (by omega) (fun w => q w.2) (by omega) (by omega)).trans g6
  · by_cases q : d = c
    · subst q
      have hk' : k < upf (Ck R) d n d := hk
      rw [upf_eq] at hk'
      show m' (a + 8) (30 * d + k) = ((upf (Cp R) d P d k : Nat) : Int)
      rw [upf_eq]; exact e2 k hk'
    · have hk' : k < upf (Ck R) c n d := hk
      rw [upf_ne q] at hk'
      have := (hV.2.2.1 d hd).2.2.2.2.2
      show m' (a + 8) (30 * d + k) = ((upf (Cp R) c P d k : Nat) : Int)
      rw [upf_ne q]; exact (e _ _ (by omega) (by omega) (by omega) (by omega) (by omega)).trans (h4 d k hd hk')
  · exact ⟨(ee _ _ (by omega) (by omega) (by omega) (by omega) (by omega)).trans (h6 s hs).1, (ee _ _ (by omega) (by omega) (by omega) (by omega) (by omega)).trans (h6 s hs).2⟩
  · exact (ee _ _ (by omega) (by omega) (by omega) (by omega) (by omega)).trans (h7 s p hs hp)
theorem CR.tr {R : RD} {a c t n : Nat} {m m' : Mm} (h : CR R a m) (hn : n ≤ Ck R c) (e0 : m' (a + 6) c = (t : Int)) (e1 : m' (a + 7) c = (n : Int)) (e : ∀ b j, a ≤ b → b ≤ a + 12 → ¬ (b = a + 7 ∧ j = c) → ¬ (b = a + 6 ∧ j = c) → (b = a → j = 5) → m' b j = m b j) : CR (Rtr R c t n) a m' := by
  obtain ⟨h1, h2, h3, h4, h5, h6, h7⟩ := h
  have ee : ∀ b j, a ≤ b → b ≤ a + 12 → b ≠ a + 7 → b ≠ a + 6 → (b = a → j = 5) → m' b j = m b j := fun b j g1 g2 g3 g4 g5 => e b j g1 g2 (fun q => g3 q.1) (fun q => g4 q.1) g5
  refine ⟨(ee _ _ (by omega) (by omega) (by omega) (by omega) (by omega)).trans h1, (ee _ _ (by omega) (by omega) (by omega) (by omega) (by omega)).trans h2, fun d hd => ?_, fun d k hd hk => ?_, (ee _ _ (by omega) (by omega) (by omega) (by omega) (by omega)).trans h5, fun s hs => ?_, fun s p hs hp => ?_⟩
  · obtain ⟨g1, g2, g3, g4, g5, g6⟩ := h3 d hd
    refine ⟨(ee _ _ (by omega) (by omega) (by omega) (by omega) (by omega)).trans g1, (ee _ _ (by omega) (by omega) (by omega) (by omega) (by omega)).trans g2, (ee _ _ (by omega) (by omega) (by omega) (by omega) (by omega)).trans g3, (ee _ _ (by omega) (by omega) (by omega) (by omega) (by omega)).trans g4, ?_, ?_⟩
    · show m' (a + 6) d = ((upf (Ct R) c t d : Nat) : Int)
      by_cases q : d = c
      · subst q; rw [upf_eq]; exact e0
      · rw [upf_ne q]; exact (e _ _ (by omega) (by omega) (by omega) (fun w => q w.2) (by omega)).trans g5
    · show m' (a + 7) d = ((upf (Ck R) c n d : Nat) : Int)
      by_cases q : d = c
      · subst q; rw [upf_eq]; exact e1
      · rw [upf_ne q]; exact (e _ _ (by omega) (by omega) (fun w => q w.2) (by omega) (by omega)).trans g6
  · refine (ee _ _ (by omega) (by omega) (by omega) (by omega) (by omega)).trans (h4 d k hd ?_)
    have hk' : k < upf (Ck R) c n d := hk
    by_cases q : d = c
    · subst q; rw [upf_eq] at hk'; omega
    · rw [upf_ne q] at hk'; exact hk'
  · exact ⟨(ee _ _ (by omega) (by omega) (by omega) (by omega) (by omega)).trans (h6 s hs).1, (ee _ _ (by omega) (by omega) (by omega) (by omega) (by omega)).trans (h6 s hs).2⟩
  · exact (ee _ _ (by omega) (by omega) (by omega) (by omega) (by omega)).trans (h7 s p hs hp)
theorem ins_out {m : Mm} {b f n k z : Nat} {x : Int} (hk : k ≤ n) (hz : z + k = n) : ∀ j, j < f ∨ f + n < j → up2 (cpm m b (f + k) b (f + k + 1) z) b (f + k) x b j = m b j := by
  intro j hj
  rw [up2_at, if_neg (by omega)]
  exact cpm_out (by omega)
theorem ins_in {m : Mm} {b f n k x z : Nat} {P : Nat → Nat} (hk : k ≤ n) (hz : z + k = n) (hP : ∀ e k : Nat, k < n → e = f + k → m b e = (P k : Int)) : ∀ i, i ≤ n → up2 (cpm m b (f + k) b (f + k + 1) z) b (f + k) (x : Int) b (f + i) = (insP P k x i : Int) := by
  intro i hi
  rw [up2_at]
  unfold insP
  rcases Nat.lt_or_ge i k with g | g
  · rw [if_neg (by omega), cpm_out (by omega), if_pos g]
    exact hP _ i (by omega) rfl
  · rcases Nat.lt_or_ge k i with g2 | g2
    · rw [if_neg (by omega), cpm_in (by omega), if_neg (by omega), if_neg (by omega)]
      exact hP _ (i - 1) (by omega) (by omega)
    · have e : i = k := by omega
      subst e
      rw [if_pos rfl, if_neg (by omega), if_pos rfl]
theorem isAt_no {P : Nat → Nat} {n kk : Nat} {h : Int} (hs : ∀ i j, i < j → j < n → ht (P i) < ht (P j)) (hk2 : ∀ i, i < kk → (ht (P i) : Int) < h) (hk3 : kk < n → h ≤ (ht (P kk) : Int)) (hne : kk < n → (ht (P kk) : Int) ≠ h) : ∀ k, k < n → (ht (P k) : Int) ≠ h := by
  intro i hi
  rcases Nat.lt_or_ge i kk with g | g
  · have := hk2 i g; omega
  · rcases Nat.lt_or_ge kk i with g2 | g2
    · have := hs kk i g2 hi; have := hk3 (by omega); omega
    · have e : i = kk := by omega
      subst e; exact hne hi
section
variable {len : Nat} {m : Mm} {Q : Option AV → Sx → Prop} {b N f n : Nat} {P : Nat → Nat} {h : Int}
theorem c_isAt (hb : kd b = (1, N)) (hn : f + n ≤ N) (hN : N ≤ 100000) (hP : ∀ e k : Nat, k < n → e = f + k → m b e = (P k : Int)) (hp : ∀ k, k < n → P k < 2147483648) (hs : ∀ i j, i < j → j < n → ht (P i) < ht (P j)) (q1 : ∀ k, k < n → (∀ i, i < k → (ht (P i) : Int) < h) → (ht (P k) : Int) = h → Q (some (aI 1)) (m, tl len)) (q0 : (∀ k, k < n → (ht (P k) : Int) ≠ h) → Q (some (aI 0)) (m, tl len)) : E 23 0 [some (aA b), some (aI ((f : Nat) : Int)), some (aI ((n : Nat) : Int)), some (aI (h)), none] [] (m, tl len) Q := by
  refine E_s (p' := 1) (st' := aA b :: _) rfl rfl ?_
  refine E_s (p' := 2) (st' := aI ((f : Nat) : Int) :: _) rfl rfl ?_
  refine E_s (p' := 3) (st' := aI ((n : Nat) : Int) :: _) rfl rfl ?_
  refine E_s (p' := 4) (st' := aI (h) :: _) rfl rfl ?_
  refine E_callL (p' := 7) (L0 := [some (aA b), some (aI ((f : Nat) : Int)), some (aI ((n : Nat) : Int)), some (aI (h)), none]) rfl rfl rfl ?_
  refine c_countAbove hb hn hN hP hp (fun kk hk1 hk2 hk3 => ?_)
  refine E_go (p' := 7) (L' := [some (aA b), some (aI ((f : Nat) : Int)), some (aI ((n : Nat) : Int)), some (aI (h)), none]) (st' := [aI ((kk : Nat) : Int)]) rfl rfl rfl ?_
  refine E_s (p' := 9) (L' := [some (aA b), some (aI ((f : Nat) : Int)), some (aI ((n : Nat) : Int)), some (aI (h)), some (aI ((kk : Nat) : Int))]) rfl rfl ?_
  refine E_s (p' := 11) (st' := aI ((kk : Nat) : Int) :: _) rfl rfl ?_
  refine E_s (p' := 12) (st' := aI ((n : Nat) : Int) :: _) rfl rfl ?_
  refine E_icmp_ge (x := ((kk : Nat) : Int)) (y := ((n : Nat) : Int)) rfl (by decide) (fun h_1 => ?_) (fun h_1 => ?_)
  · refine E_go (p' := 32) (L' := [some (aA b), some (aI ((f : Nat) : Int)), some (aI ((n : Nat) : Int)), some (aI (h)), some (aI ((kk : Nat) : Int))]) (st' := []) rfl rfl rfl ?_
    refine E_s (p' := 33) (st' := aI 0 :: _) rfl rfl ?_
    refine E_ret rfl rfl ?_
    exact q0 (isAt_no hs hk2 hk3 (fun g => by omega))
  · refine E_go (p' := 15) (L' := [some (aA b), some (aI ((f : Nat) : Int)), some (aI ((n : Nat) : Int)), some (aI (h)), some (aI ((kk : Nat) : Int))]) (st' := []) rfl rfl rfl ?_
    refine E_s (p' := 16) (st' := aA b :: _) rfl rfl ?_
    refine E_s (p' := 17) (st' := aI ((f : Nat) : Int) :: _) rfl rfl ?_
    refine E_s (p' := 19) (st' := aI ((kk : Nat) : Int) :: _) rfl rfl ?_
    refine E_add (v := ((f + kk : Nat) : Int)) rfl (by omega) (by omega) ?_
    refine E_ald (e := f + kk) (N := N) (v := ((P kk : Nat) : Int)) rfl hb (rfl) (by omega) (hP _ _ (by omega) (by omega)) ?_
    refine E_callL (p' := 24) (L0 := [some (aI ((P kk : Nat) : Int))]) rfl rfl rfl ?_
    refine c_heightOf (p := P kk) (hp _ (by omega)) ?_
    refine E_go (p' := 24) (L' := [some (aA b), some (aI ((f : Nat) : Int)), some (aI ((n : Nat) : Int)), some (aI (h)), some (aI ((kk : Nat) : Int))]) (st' := [aI ((ht (P kk) : Nat) : Int)]) rfl rfl rfl ?_
    refine E_s (p' := 25) (st' := aI (h) :: _) rfl rfl ?_
    refine E_icmp_ne (x := ((ht (P kk) : Nat) : Int)) (y := (h)) rfl (by decide) (fun h_2 => ?_) (fun h_2 => ?_)
    · refine E_go (p' := 32) (L' := [some (aA b), some (aI ((f : Nat) : Int)), some (aI ((n : Nat) : Int)), some (aI (h)), some (aI ((kk : Nat) : Int))]) (st' := []) rfl rfl rfl ?_
      refine E_s (p' := 33) (st' := aI 0 :: _) rfl rfl ?_
      refine E_ret rfl rfl ?_
      exact q0 (isAt_no hs hk2 hk3 (fun g => by omega))
    · refine E_go (p' := 28) (L' := [some (aA b), some (aI ((f : Nat) : Int)), some (aI ((n : Nat) : Int)), some (aI (h)), some (aI ((kk : Nat) : Int))]) (st' := []) rfl rfl rfl ?_
      refine E_s (p' := 29) (st' := aI 1 :: _) rfl rfl ?_
      refine E_s (p' := 33) rfl rfl ?_
      refine E_ret rfl rfl ?_
      exact q1 kk (by omega) hk2 (by omega)
theorem c_insertInto {x : Nat} (hb : kd b = (1, N)) (hn : f + n + 1 ≤ N) (hN : N ≤ 100000) (hP : ∀ e k : Nat, k < n → e = f + k → m b e = (P k : Int)) (hp : ∀ k, k < n → P k < 2147483648) (hx : x < 2147483648) (q : ∀ (k : Nat) (m1 : Mm), k ≤ n → (∀ i, i < k → ht (P i) < ht x) → (k < n → ht x ≤ ht (P k)) → Fx b b m m1 → (∀ j, j < f ∨ f + n < j → m1 b j = m b j) → (∀ i, i ≤ n → m1 b (f + i) = (insP P k x i : Int)) → Q none (m1, tl len)) : E 28 0 [some (aA b), some (aI ((f : Nat) : Int)), some (aI ((n : Nat) : Int)), some (aI ((x : Nat) : Int)), none] [] (m, tl len) Q := by
  refine E_s (p' := 1) (st' := aA b :: _) rfl rfl ?_
  refine E_s (p' := 2) (st' := aI ((f : Nat) : Int) :: _) rfl rfl ?_
  refine E_s (p' := 3) (st' := aI ((n : Nat) : Int) :: _) rfl rfl ?_
  refine E_s (p' := 4) (st' := aI ((x : Nat) : Int) :: _) rfl rfl ?_
  refine E_callL (p' := 7) (L0 := [some (aI ((x : Nat) : Int))]) rfl rfl rfl ?_
  refine c_heightOf (p := x) (hx) ?_
  refine E_go (p' := 7) (L' := [some (aA b), some (aI ((f : Nat) : Int)), some (aI ((n : Nat) : Int)), some (aI ((x : Nat) : Int)), none]) (st' := [aI ((ht x : Nat) : Int), aI ((n : Nat) : Int), aI ((f : Nat) : Int), aA b]) rfl rfl rfl ?_
  refine E_callL (p' := 10) (L0 := [some (aA b), some (aI ((f : Nat) : Int)), some (aI ((n : Nat) : Int)), some (aI ((ht x : Nat) : Int)), none]) rfl rfl rfl ?_
  refine c_countAbove hb (by omega) hN hP hp (fun kk hk1 hk2 hk3 => ?_)
  refine E_go (p' := 10) (L' := [some (aA b), some (aI ((f : Nat) : Int)), some (aI ((n : Nat) : Int)), some (aI ((x : Nat) : Int)), none]) (st' := [aI ((kk : Nat) : Int)]) rfl rfl rfl ?_
  refine E_s (p' := 12) (L' := [some (aA b), some (aI ((f : Nat) : Int)), some (aI ((n : Nat) : Int)), some (aI ((x : Nat) : Int)), some (aI ((kk : Nat) : Int))]) rfl rfl ?_
  refine E_s (p' := 13) (st' := aA b :: _) rfl rfl ?_
  refine E_s (p' := 14) (st' := aI ((f : Nat) : Int) :: _) rfl rfl ?_
  refine E_s (p' := 16) (st' := aI ((kk : Nat) : Int) :: _) rfl rfl ?_
  refine E_add (v := ((f + kk : Nat) : Int)) rfl (by omega) (by omega) ?_
  refine E_s (p' := 18) (st' := aA b :: _) rfl rfl ?_
  refine E_s (p' := 19) (st' := aI ((f : Nat) : Int) :: _) rfl rfl ?_
  refine E_s (p' := 21) (st' := aI ((kk : Nat) : Int) :: _) rfl rfl ?_
  refine E_add (v := ((f + kk : Nat) : Int)) rfl (by omega) (by omega) ?_
  refine E_s (p' := 23) (st' := aI 1 :: _) rfl rfl ?_
  refine E_add (v := ((f + kk + 1 : Nat) : Int)) rfl (by omega) (by omega) ?_
  refine E_s (p' := 25) (st' := aI ((n : Nat) : Int) :: _) rfl rfl ?_
  refine E_s (p' := 27) (st' := aI ((kk : Nat) : Int) :: _) rfl rfl ?_
  refine E_sub (v := ((n : Int) - (kk : Int))) rfl (by omega) (by omega) ?_
  refine E_acp (e1 := f + kk) (e2 := f + kk + 1) (e3 := ((n : Int) - (kk : Int)).toNat) rfl rfl hb hb (rfl) (rfl) (by omega) (by omega) (by omega) rfl ?_
  refine E_go (p' := 31) (L' := [some (aA b), some (aI ((f : Nat) : Int)), some (aI ((n : Nat) : Int)), some (aI ((x : Nat) : Int)), some (aI ((kk : Nat) : Int))]) (st' := []) rfl rfl rfl ?_
  refine E_s (p' := 32) (st' := aA b :: _) rfl rfl ?_
  refine E_s (p' := 33) (st' := aI ((f : Nat) : Int) :: _) rfl rfl ?_
  refine E_s (p' := 35) (st' := aI ((kk : Nat) : Int) :: _) rfl rfl ?_
  refine E_add (v := ((f + kk : Nat) : Int)) rfl (by omega) (by omega) ?_
  refine E_s (p' := 37) (st' := aI ((x : Nat) : Int) :: _) rfl rfl ?_
  refine E_ast (e := f + kk) (N := N) rfl hb (rfl) (by omega) ?_
  refine E_ret rfl rfl ?_
  exact q kk _ hk1 (fun i hi => by have := hk2 i hi; omega) (fun g => by have := hk3 g; omega) ((Fx.rf.cp (by omega) (by omega)).up (by omega) (by omega)) (ins_out hk1 (by omega)) (ins_in hk1 (by omega) hP)
end
section
variable {len : Nat} {m : Mm} {Q : Option AV → Sx → Prop} {R : RD} {a c : Nat} {h : Int}
theorem c_isWhole (hR : isR a) (hC : CR R a m) (hV : VR R) (hc : c < Cn R) (q1 : whl R c h → Q (some (aI 1)) (m, tl len)) (q0 : ¬ whl R c h → Q (some (aI 0)) (m, tl len)) : E 22 0 [some (aA (a + 1)), some (aI ((c : Nat) : Int)), some (aI (h))] [] (m, tl len) Q := by
  have hn60 := hV.1
  have hab := isR_b hR
  obtain ⟨⟨vg1, vg2⟩, ⟨vo1, vo2⟩, vc1, ⟨vl1, vl2⟩, vt1, vk1⟩ := hV.2.2.1 c hc
  refine E_s (p' := 1) (st' := aI (h) :: _) rfl rfl ?_
  refine E_s (p' := 2) (st' := aI 1 :: _) rfl rfl ?_
  refine E_icmp_lt (x := (h)) (y := 1) rfl (by decide) (fun h_1 => ?_) (fun h_1 => ?_)
  · refine E_go (p' := 38) (L' := [some (aA (a + 1)), some (aI ((c : Nat) : Int)), some (aI (h))]) (st' := []) rfl rfl rfl ?_
    refine E_s (p' := 39) (st' := aI 0 :: _) rfl rfl ?_
    refine E_ret rfl rfl ?_
    exact q0 (by unfold whl; omega)
  · refine E_go (p' := 5) (L' := [some (aA (a + 1)), some (aI ((c : Nat) : Int)), some (aI (h))]) (st' := []) rfl rfl rfl ?_
    refine E_s (p' := 6) (st' := aI (h) :: _) rfl rfl ?_
    refine E_s (p' := 7) (st' := aA (a + 1) :: _) rfl rfl ?_
    refine E_gA (b := a + 5) rfl rfl rfl (kR_1 hR) (hR_1_3 hR) rfl ?_
    refine E_s (p' := 11) (st' := aI ((c : Nat) : Int) :: _) rfl rfl ?_
    refine E_ald (e := c) (N := 60) (v := ((Cl R c : Nat) : Int)) rfl (kR_5 hR) (rfl) (by omega) (CR_5 hC (by omega)) ?_
    refine E_icmp_gt (x := (h)) (y := ((Cl R c : Nat) : Int)) rfl (by decide) (fun h_2 => ?_) (fun h_2 => ?_)
    · refine E_go (p' := 38) (L' := [some (aA (a + 1)), some (aI ((c : Nat) : Int)), some (aI (h))]) (st' := []) rfl rfl rfl ?_
      refine E_s (p' := 39) (st' := aI 0 :: _) rfl rfl ?_
      refine E_ret rfl rfl ?_
      exact q0 (by unfold whl; omega)
    · refine E_go (p' := 15) (L' := [some (aA (a + 1)), some (aI ((c : Nat) : Int)), some (aI (h))]) (st' := []) rfl rfl rfl ?_
      refine E_s (p' := 16) (st' := aA (a + 1) :: _) rfl rfl ?_
      refine E_gA (b := a + 6) rfl rfl rfl (kR_1 hR) (hR_1_4 hR) rfl ?_
      refine E_s (p' := 20) (st' := aI ((c : Nat) : Int) :: _) rfl rfl ?_
      refine E_ald (e := c) (N := 60) (v := ((Ct R c : Nat) : Int)) rfl (kR_6 hR) (rfl) (by omega) (CR_6 hC (by omega)) ?_
      refine E_if_eq (x := ((Ct R c : Nat) : Int)) rfl (by decide) (fun h_3 => ?_) (fun h_3 => ?_)
      · refine E_go (p' := 34) (L' := [some (aA (a + 1)), some (aI ((c : Nat) : Int)), some (aI (h))]) (st' := []) rfl rfl rfl ?_
        refine E_s (p' := 35) (st' := aI 1 :: _) rfl rfl ?_
        refine E_s (p' := 39) rfl rfl ?_
        refine E_ret rfl rfl ?_
        exact q1 (by unfold whl; omega)
      · refine E_go (p' := 24) (L' := [some (aA (a + 1)), some (aI ((c : Nat) : Int)), some (aI (h))]) (st' := []) rfl rfl rfl ?_
        refine E_s (p' := 25) (st' := aI (h) :: _) rfl rfl ?_
        refine E_s (p' := 26) (st' := aA (a + 1) :: _) rfl rfl ?_
        refine E_gA (b := a + 6) rfl rfl rfl (kR_1 hR) (hR_1_4 hR) rfl ?_
        refine E_s (p' := 30) (st' := aI ((c : Nat) : Int) :: _) rfl rfl ?_
        refine E_ald (e := c) (N := 60) (v := ((Ct R c : Nat) : Int)) rfl (kR_6 hR) (rfl) (by omega) (CR_6 hC (by omega)) ?_
        refine E_icmp_ge (x := (h)) (y := ((Ct R c : Nat) : Int)) rfl (by decide) (fun h_4 => ?_) (fun h_4 => ?_)
        · refine E_go (p' := 38) (L' := [some (aA (a + 1)), some (aI ((c : Nat) : Int)), some (aI (h))]) (st' := []) rfl rfl rfl ?_
          refine E_s (p' := 39) (st' := aI 0 :: _) rfl rfl ?_
          refine E_ret rfl rfl ?_
          exact q0 (by unfold whl; omega)
        · refine E_go (p' := 34) (L' := [some (aA (a + 1)), some (aI ((c : Nat) : Int)), some (aI (h))]) (st' := []) rfl rfl rfl ?_
          refine E_s (p' := 35) (st' := aI 1 :: _) rfl rfl ?_
          refine E_s (p' := 39) rfl rfl ?_
          refine E_ret rfl rfl ?_
          exact q1 (by unfold whl; omega)
theorem c_isFree (hR : isR a) (hC : CR R a m) (hV : VR R) (hc : c < Cn R) (q1 : whl R c h → ¬ tied R c h → Q (some (aI 1)) (m, tl len)) (q0 : (¬ whl R c h ∨ tied R c h) → Q (some (aI 0)) (m, tl len)) : E 21 0 [some (aA (a + 1)), some (aI ((c : Nat) : Int)), some (aI (h))] [] (m, tl len) Q := by
  have hn60 := hV.1
  have hab := isR_b hR
  obtain ⟨⟨vg1, vg2⟩, ⟨vo1, vo2⟩, vc1, ⟨vl1, vl2⟩, vt1, vk1⟩ := hV.2.2.1 c hc
  refine E_s (p' := 1) (st' := aA (a + 1) :: _) rfl rfl ?_
  refine E_s (p' := 2) (st' := aI ((c : Nat) : Int) :: _) rfl rfl ?_
  refine E_s (p' := 3) (st' := aI (h) :: _) rfl rfl ?_
  refine E_callV (k' := 22) (a := a + 1) (r := []) (L0 := [some (aA (a + 1)), some (aI ((c : Nat) : Int)), some (aI (h))]) rfl rfl rfl rfl rfl (kR_1 hR) rfl rfl rfl rfl ?_
  refine c_isWhole hR hC hV hc (fun h_1 => ?_) (fun h_2 => ?_)
  · refine E_go (p' := 6) (L' := [some (aA (a + 1)), some (aI ((c : Nat) : Int)), some (aI (h))]) (st' := [aI 1]) rfl rfl rfl ?_
    refine E_s (p' := 9) rfl rfl ?_
    refine E_s (p' := 10) (st' := aA (a + 1) :: _) rfl rfl ?_
    refine E_gA (b := a + 8) rfl rfl rfl (kR_1 hR) (hR_1_6 hR) rfl ?_
    refine E_s (p' := 14) (st' := aI ((c : Nat) : Int) :: _) rfl rfl ?_
    refine E_s (p' := 16) (st' := aI 30 :: _) rfl rfl ?_
    refine E_mul (v := ((30 * c : Nat) : Int)) rfl (by omega) (by omega) ?_
    refine E_s (p' := 18) (st' := aA (a + 1) :: _) rfl rfl ?_
    refine E_gA (b := a + 7) rfl rfl rfl (kR_1 hR) (hR_1_5 hR) rfl ?_
    refine E_s (p' := 22) (st' := aI ((c : Nat) : Int) :: _) rfl rfl ?_
    refine E_ald (e := c) (N := 60) (v := ((Ck R c : Nat) : Int)) rfl (kR_7 hR) (rfl) (by omega) (CR_7 hC (by omega)) ?_
    refine E_s (p' := 24) (st' := aI (h) :: _) rfl rfl ?_
    refine E_callL (p' := 27) (L0 := [some (aA (a + 8)), some (aI ((30 * c : Nat) : Int)), some (aI ((Ck R c : Nat) : Int)), some (aI (h)), none]) rfl rfl rfl ?_
    refine c_isAt (N := 1800) (P := Cp R c) (kR_8 hR) (by omega) (by decide) (fun e k hk he => CR_8 hC hc hk he) (fun k hk => by have := kok_lt hV hc hk rfl; omega) (fun i j hi hj => hV.mono hc hi hj) (fun k1 hk1 hk2 hk3 => ?_) (fun hno => ?_)
    · refine E_go (p' := 27) (L' := [some (aA (a + 1)), some (aI ((c : Nat) : Int)), some (aI (h))]) (st' := [aI 1]) rfl rfl rfl ?_
      refine E_s (p' := 34) rfl rfl ?_
      refine E_s (p' := 35) (st' := aI 0 :: _) rfl rfl ?_
      refine E_ret rfl rfl ?_
      first | exact q0 (Or.inr ⟨k1, hk1, hk3⟩) | exact q0 (Or.inl (by assumption))
    · refine E_go (p' := 27) (L' := [some (aA (a + 1)), some (aI ((c : Nat) : Int)), some (aI (h))]) (st' := [aI 0]) rfl rfl rfl ?_
      refine E_s (p' := 30) rfl rfl ?_
      refine E_s (p' := 31) (st' := aI 1 :: _) rfl rfl ?_
      refine E_s (p' := 35) rfl rfl ?_
      refine E_ret rfl rfl ?_
      exact q1 (by assumption) (fun ⟨k, hk, e⟩ => hno k hk e)
  · refine E_go (p' := 6) (L' := [some (aA (a + 1)), some (aI ((c : Nat) : Int)), some (aI (h))]) (st' := [aI 0]) rfl rfl rfl ?_
    refine E_s (p' := 34) rfl rfl ?_
    refine E_s (p' := 35) (st' := aI 0 :: _) rfl rfl ?_
    refine E_ret rfl rfl ?_
    first | exact q0 (Or.inr ⟨k1, hk1, hk3⟩) | exact q0 (Or.inl (by assumption))
theorem c_insert (hR : isR a) (hC : CR R a m) (hV : VR R) (hc : c < Cn R) {x : Nat} (hx : x < 2147483648) (hk : Ck R c < 30) (q : ∀ m1, CR (Rkn R c (Ck R c + 1) (insP (Cp R c) (posn (Cp R c) (ht x) (Ck R c)) x)) a m1 → Fx (a + 7) (a + 8) m m1 → Q none (m1, tl len)) : E 27 0 [some (aA (a + 1)), some (aI ((c : Nat) : Int)), some (aI ((x : Nat) : Int))] [] (m, tl len) Q := by
  have hn60 := hV.1
  have hab := isR_b hR
  obtain ⟨⟨vg1, vg2⟩, ⟨vo1, vo2⟩, vc1, ⟨vl1, vl2⟩, vt1, vk1⟩ := hV.2.2.1 c hc
  refine E_s (p' := 1) (st' := aA (a + 1) :: _) rfl rfl ?_
  refine E_gA (b := a + 8) rfl rfl rfl (kR_1 hR) (hR_1_6 hR) rfl ?_
  refine E_s (p' := 5) (st' := aI ((c : Nat) : Int) :: _) rfl rfl ?_
  refine E_s (p' := 7) (st' := aI 30 :: _) rfl rfl ?_
  refine E_mul (v := ((30 * c : Nat) : Int)) rfl (by omega) (by omega) ?_
  refine E_s (p' := 9) (st' := aA (a + 1) :: _) rfl rfl ?_
  refine E_gA (b := a + 7) rfl rfl rfl (kR_1 hR) (hR_1_5 hR) rfl ?_
  refine E_s (p' := 13) (st' := aI ((c : Nat) : Int) :: _) rfl rfl ?_
  refine E_ald (e := c) (N := 60) (v := ((Ck R c : Nat) : Int)) rfl (kR_7 hR) (rfl) (by omega) (CR_7 hC (by omega)) ?_
  refine E_s (p' := 15) (st' := aI ((x : Nat) : Int) :: _) rfl rfl ?_
  refine E_callL (p' := 18) (L0 := [some (aA (a + 8)), some (aI ((30 * c : Nat) : Int)), some (aI ((Ck R c : Nat) : Int)), some (aI ((x : Nat) : Int)), none]) rfl rfl rfl ?_
  refine c_insertInto (N := 1800) (P := Cp R c) (kR_8 hR) (by omega) (by decide) (fun e k hk he => CR_8 hC hc hk he) (fun k hk => by have := kok_lt hV hc hk rfl; omega) hx (fun k1 m1 hk1 hk2 hk3 hF ho hi => ?_)
  refine E_go (p' := 18) (L' := [some (aA (a + 1)), some (aI ((c : Nat) : Int)), some (aI ((x : Nat) : Int))]) (st' := []) rfl rfl rfl ?_
  refine E_s (p' := 19) (st' := aA (a + 1) :: _) rfl rfl ?_
  refine E_gA (b := a + 7) rfl rfl rfl (kR_1 hR) (hR_1_5 hR) rfl ?_
  refine E_s (p' := 23) (st' := aI ((c : Nat) : Int) :: _) rfl rfl ?_
  refine E_s (p' := 24) rfl rfl ?_
  refine E_ald (e := c) (N := 60) (v := ((Ck R c : Nat) : Int)) rfl (kR_7 hR) (rfl) (by omega) ((hF _ _ (by omega)).trans ((CR_7 hC (by omega)))) ?_
  refine E_s (p' := 26) (st' := aI 1 :: _) rfl rfl ?_
  refine E_add (v := ((Ck R c + 1 : Nat) : Int)) rfl (by omega) (by omega) ?_
  refine E_ast (e := c) (N := 60) rfl (kR_7 hR) (rfl) (by omega) ?_
  refine E_ret rfl rfl ?_
  have e := posn_u hk1 hk2 hk3
  subst e
  exact q _ (CR.kn hC hV (by omega) up2_eq (fun i hi9 => (up2_ne (by omega)).trans (hi i (by omega))) (fun b j h1 h2 h3 h4 h5 => by
    by_cases g : b = a + 7
    · subst g; rw [up2_sl (fun g => h3 ⟨rfl, g⟩)]; exact hF _ _ (by omega)
    · rw [up2_ne g]
      by_cases g2 : b = a + 8
      · subst g2; exact ho j (by omega)
      · exact hF _ _ (by omega))) ((hF.wide (by omega) (by omega)).up (by omega) (by omega))
theorem c_cutAt (hR : isR a) (hC : CR R a m) (hV : VR R) (hc : c < Cn R) {h9 : Nat} (q : ∀ m1, CR (Rtr R c h9 (posn (Cp R c) h9 (Ck R c))) a m1 → Fx (a + 6) (a + 7) m m1 → Q none (m1, tl len)) : E 32 0 [some (aA (a + 1)), some (aI ((c : Nat) : Int)), some (aI ((h9 : Nat) : Int))] [] (m, tl len) Q := by
  have hn60 := hV.1
  have hab := isR_b hR
  obtain ⟨⟨vg1, vg2⟩, ⟨vo1, vo2⟩, vc1, ⟨vl1, vl2⟩, vt1, vk1⟩ := hV.2.2.1 c hc
  refine E_s (p' := 1) (st' := aA (a + 1) :: _) rfl rfl ?_
  refine E_gA (b := a + 6) rfl rfl rfl (kR_1 hR) (hR_1_4 hR) rfl ?_
  refine E_s (p' := 5) (st' := aI ((c : Nat) : Int) :: _) rfl rfl ?_
  refine E_s (p' := 6) (st' := aI ((h9 : Nat) : Int) :: _) rfl rfl ?_
  refine E_ast (e := c) (N := 60) rfl (kR_6 hR) (rfl) (by omega) ?_
  refine E_s (p' := 8) (st' := aA (a + 1) :: _) rfl rfl ?_
  refine E_gA (b := a + 7) rfl rfl rfl (kR_1 hR) (hR_1_5 hR) rfl ?_
  refine E_s (p' := 12) (st' := aI ((c : Nat) : Int) :: _) rfl rfl ?_
  refine E_s (p' := 13) (st' := aA (a + 1) :: _) rfl rfl ?_
  refine E_gA (b := a + 8) rfl rfl rfl (kR_1 hR) (hR_1_6 hR) rfl ?_
  refine E_s (p' := 17) (st' := aI ((c : Nat) : Int) :: _) rfl rfl ?_
  refine E_s (p' := 19) (st' := aI 30 :: _) rfl rfl ?_
  refine E_mul (v := ((30 * c : Nat) : Int)) rfl (by omega) (by omega) ?_
  refine E_s (p' := 21) (st' := aA (a + 1) :: _) rfl rfl ?_
  refine E_gA (b := a + 7) rfl rfl rfl (kR_1 hR) (hR_1_5 hR) rfl ?_
  refine E_s (p' := 25) (st' := aI ((c : Nat) : Int) :: _) rfl rfl ?_
  refine E_ald (e := c) (N := 60) (v := ((Ck R c : Nat) : Int)) rfl (kR_7 hR) (rfl) (by omega) ((up2_ne (by omega)).trans ((CR_7 hC (by omega)))) ?_
  refine E_s (p' := 27) (st' := aI ((h9 : Nat) : Int) :: _) rfl rfl ?_
  refine E_callL (p' := 30) (L0 := [some (aA (a + 8)), some (aI ((30 * c : Nat) : Int)), some (aI ((Ck R c : Nat) : Int)), some (aI ((h9 : Nat) : Int)), none]) rfl rfl rfl ?_
  refine c_countAbove (N := 1800) (P := Cp R c) (kR_8 hR) (by omega) (by decide) (fun e k hk he => (up2_ne (by omega)).trans (CR_8 hC hc hk he)) (fun k hk => by have := kok_lt hV hc hk rfl; omega) (fun k1 hk1 hk2 hk3 => ?_)
  refine E_go (p' := 30) (L' := [some (aA (a + 1)), some (aI ((c : Nat) : Int)), some (aI ((h9 : Nat) : Int))]) (st' := [aI ((k1 : Nat) : Int), aI ((c : Nat) : Int), aA (a + 7)]) rfl rfl rfl ?_
  refine E_ast (e := c) (N := 60) rfl (kR_7 hR) (rfl) (by omega) ?_
  refine E_ret rfl rfl ?_
  have e := posn_u (P := Cp R c) (h := h9) hk1 (fun i hi => by have := hk2 i hi; omega) (fun g => by have := hk3 g; omega)
  subst e
  exact q _ (CR.tr hC (posn_le _ _ _) ((up2_ne (by omega)).trans up2_eq) up2_eq (fun b j h1 h2 h3 h4 h5 => by
    by_cases g : b = a + 7
    · subst g; rw [up2_sl (by omega)]; exact up2_ne (by omega)
    · rw [up2_ne g]
      by_cases g2 : b = a + 6
      · subst g2; exact up2_sl (by omega)
      · exact up2_ne g2)) ((Fx.rf.up (by omega) (by omega)).up (by omega) (by omega))
theorem c_remove (hR : isR a) (hC : CR R a m) (hV : VR R) (hc : c < Cn R) (q1 : ∀ k m1, k < Ck R c → (ht (Cp R c k) : Int) = h → CR (Rkn R c (Ck R c - 1) (remP (Cp R c) k)) a m1 → Fx (a + 7) (a + 8) m m1 → Q (some (aI 1)) (m1, tl len)) (q0 : ¬ tied R c h → Q (some (aI 0)) (m, tl len)) : E 30 0 [some (aA (a + 1)), some (aI ((c : Nat) : Int)), some (aI (h)), none, none] [] (m, tl len) Q := by
  have hn60 := hV.1
  have hab := isR_b hR
  obtain ⟨⟨vg1, vg2⟩, ⟨vo1, vo2⟩, vc1, ⟨vl1, vl2⟩, vt1, vk1⟩ := hV.2.2.1 c hc
  refine E_s (p' := 1) (st' := aI ((c : Nat) : Int) :: _) rfl rfl ?_
  refine E_s (p' := 3) (st' := aI 30 :: _) rfl rfl ?_
  refine E_mul (v := ((30 * c : Nat) : Int)) rfl (by omega) (by omega) ?_
  refine E_s (p' := 5) (L' := [some (aA (a + 1)), some (aI ((c : Nat) : Int)), some (aI (h)), some (aI ((30 * c : Nat) : Int)), none]) rfl rfl ?_
  refine E_s (p' := 6) (st' := aA (a + 1) :: _) rfl rfl ?_
  refine E_gA (b := a + 8) rfl rfl rfl (kR_1 hR) (hR_1_6 hR) rfl ?_
  refine E_s (p' := 10) (st' := aI ((30 * c : Nat) : Int) :: _) rfl rfl ?_
  refine E_s (p' := 11) (st' := aA (a + 1) :: _) rfl rfl ?_
  refine E_gA (b := a + 7) rfl rfl rfl (kR_1 hR) (hR_1_5 hR) rfl ?_
  refine E_s (p' := 15) (st' := aI ((c : Nat) : Int) :: _) rfl rfl ?_
  refine E_ald (e := c) (N := 60) (v := ((Ck R c : Nat) : Int)) rfl (kR_7 hR) (rfl) (by omega) (CR_7 hC (by omega)) ?_
  refine E_s (p' := 17) (st' := aI (h) :: _) rfl rfl ?_
  refine E_callL (p' := 20) (L0 := [some (aA (a + 8)), some (aI ((30 * c : Nat) : Int)), some (aI ((Ck R c : Nat) : Int)), some (aI (h)), none]) rfl rfl rfl ?_
  refine c_isAt (N := 1800) (P := Cp R c) (kR_8 hR) (by omega) (by decide) (fun e k hk he => CR_8 hC hc hk he) (fun k hk => by have := kok_lt hV hc hk rfl; omega) (fun i j hi hj => hV.mono hc hi hj) (fun k1 hk1 hk2 hk3 => ?_) (fun hno => ?_)
  · refine E_go (p' := 20) (L' := [some (aA (a + 1)), some (aI ((c : Nat) : Int)), some (aI (h)), some (aI ((30 * c : Nat) : Int)), none]) (st' := [aI 1]) rfl rfl rfl ?_
    refine E_s (p' := 25) rfl rfl ?_
    refine E_s (p' := 26) (st' := aA (a + 1) :: _) rfl rfl ?_
    refine E_gA (b := a + 8) rfl rfl rfl (kR_1 hR) (hR_1_6 hR) rfl ?_
    refine E_s (p' := 30) (st' := aI ((30 * c : Nat) : Int) :: _) rfl rfl ?_
    refine E_s (p' := 31) (st' := aA (a + 1) :: _) rfl rfl ?_
    refine E_gA (b := a + 7) rfl rfl rfl (kR_1 hR) (hR_1_5 hR) rfl ?_
    refine E_s (p' := 35) (st' := aI ((c : Nat) : Int) :: _) rfl rfl ?_
    refine E_ald (e := c) (N := 60) (v := ((Ck R c : Nat) : Int)) rfl (kR_7 hR) (rfl) (by omega) (CR_7 hC (by omega)) ?_
    refine E_s (p' := 37) (st' := aI (h) :: _) rfl rfl ?_
    refine E_callL (p' := 40) (L0 := [some (aA (a + 8)), some (aI ((30 * c : Nat) : Int)), some (aI ((Ck R c : Nat) : Int)), some (aI (h)), none]) rfl rfl rfl ?_
    refine c_countAbove (N := 1800) (P := Cp R c) (kR_8 hR) (by omega) (by decide) (fun e k hk he => CR_8 hC hc hk he) (fun k hk => by have := kok_lt hV hc hk rfl; omega) (fun k2 hj1 hj2 hj3 => ?_)
    refine E_go (p' := 40) (L' := [some (aA (a + 1)), some (aI ((c : Nat) : Int)), some (aI (h)), some (aI ((30 * c : Nat) : Int)), none]) (st' := [aI ((k2 : Nat) : Int)]) rfl rfl rfl ?_
    have e12 : k2 = k1 := by
      rcases Nat.lt_or_ge k2 k1 with g | g
      · have := hk2 k2 g; have := hj3 (by omega); omega
      · rcases Nat.lt_or_ge k1 k2 with g2 | g2
        · have := hj2 k1 g2; omega
        · omega
    refine E_s (p' := 42) (L' := [some (aA (a + 1)), some (aI ((c : Nat) : Int)), some (aI (h)), some (aI ((30 * c : Nat) : Int)), some (aI ((k2 : Nat) : Int))]) rfl rfl ?_
    refine E_s (p' := 43) (st' := aA (a + 1) :: _) rfl rfl ?_
    refine E_gA (b := a + 8) rfl rfl rfl (kR_1 hR) (hR_1_6 hR) rfl ?_
    refine E_s (p' := 47) (st' := aI ((30 * c : Nat) : Int) :: _) rfl rfl ?_
    refine E_s (p' := 49) (st' := aI ((k2 : Nat) : Int) :: _) rfl rfl ?_
    refine E_add (v := ((30 * c + k2 : Nat) : Int)) rfl (by omega) (by omega) ?_
    refine E_s (p' := 51) (st' := aI 1 :: _) rfl rfl ?_
    refine E_add (v := ((30 * c + k2 + 1 : Nat) : Int)) rfl (by omega) (by omega) ?_
    refine E_s (p' := 53) (st' := aA (a + 1) :: _) rfl rfl ?_
    refine E_gA (b := a + 8) rfl rfl rfl (kR_1 hR) (hR_1_6 hR) rfl ?_
    refine E_s (p' := 57) (st' := aI ((30 * c : Nat) : Int) :: _) rfl rfl ?_
    refine E_s (p' := 59) (st' := aI ((k2 : Nat) : Int) :: _) rfl rfl ?_
    refine E_add (v := ((30 * c + k2 : Nat) : Int)) rfl (by omega) (by omega) ?_
    refine E_s (p' := 61) (st' := aA (a + 1) :: _) rfl rfl ?_
    refine E_gA (b := a + 7) rfl rfl rfl (kR_1 hR) (hR_1_5 hR) rfl ?_
    refine E_s (p' := 65) (st' := aI ((c : Nat) : Int) :: _) rfl rfl ?_
    refine E_ald (e := c) (N := 60) (v := ((Ck R c : Nat) : Int)) rfl (kR_7 hR) (rfl) (by omega) (CR_7 hC (by omega)) ?_
    refine E_s (p' := 68) (st' := aI ((k2 : Nat) : Int) :: _) rfl rfl ?_
    refine E_sub (v := ((Ck R c : Int) - (k2 : Int))) rfl (by omega) (by omega) ?_
    refine E_s (p' := 70) (st' := aI 1 :: _) rfl rfl ?_
    refine E_sub (v := ((Ck R c : Int) - (k2 : Int) - 1)) rfl (by omega) (by omega) ?_
    refine E_acp (e1 := 30 * c + k2 + 1) (e2 := 30 * c + k2) (e3 := ((Ck R c : Int) - (k2 : Int) - 1).toNat) rfl rfl (kR_8 hR) (kR_8 hR) (rfl) (rfl) (by omega) (by omega) (by omega) rfl ?_
    refine E_go (p' := 74) (L' := [some (aA (a + 1)), some (aI ((c : Nat) : Int)), some (aI (h)), some (aI ((30 * c : Nat) : Int)), some (aI ((k2 : Nat) : Int))]) (st' := []) rfl rfl rfl ?_
    refine E_s (p' := 75) (st' := aA (a + 1) :: _) rfl rfl ?_
    refine E_gA (b := a + 7) rfl rfl rfl (kR_1 hR) (hR_1_5 hR) rfl ?_
    refine E_s (p' := 79) (st' := aI ((c : Nat) : Int) :: _) rfl rfl ?_
    refine E_s (p' := 80) rfl rfl ?_
    refine E_ald (e := c) (N := 60) (v := ((Ck R c : Nat) : Int)) rfl (kR_7 hR) (rfl) (by omega) ((cpm_ne (by omega)).trans (CR_7 hC hc)) ?_
    refine E_s (p' := 82) (st' := aI 1 :: _) rfl rfl ?_
    refine E_sub (v := ((Ck R c : Int) - 1)) rfl (by omega) (by omega) ?_
    refine E_ast (e := c) (N := 60) rfl (kR_7 hR) (rfl) (by omega) ?_
    refine E_s (p' := 85) (st' := aI 1 :: _) rfl rfl ?_
    refine E_ret rfl rfl ?_
    exact q1 k1 _ hk1 hk3 (CR.kn hC hV (by omega) (up2_eq.trans (by omega)) (fun i hi9 => (up2_ne (by omega)).trans (rem_in e12 hk1 (by omega) (fun e k hk he => CR_8 hC hc hk he) i hi9)) (fun b j h1 h2 h3 h4 h5 => by
      by_cases g : b = a + 7
      · subst g; rw [up2_sl (fun g => h3 ⟨rfl, g⟩)]; exact cpm_ne (by omega)
      · rw [up2_ne g]
        by_cases g2 : b = a + 8
        · subst g2; exact cpm_out (by omega)
        · exact cpm_ne g2)) ((Fx.rf.cp (by omega) (by omega)).up (by omega) (by omega))
  · refine E_go (p' := 20) (L' := [some (aA (a + 1)), some (aI ((c : Nat) : Int)), some (aI (h)), some (aI ((30 * c : Nat) : Int)), none]) (st' := [aI 0]) rfl rfl rfl ?_
    refine E_s (p' := 23) rfl rfl ?_
    refine E_s (p' := 24) (st' := aI 0 :: _) rfl rfl ?_
    refine E_ret rfl rfl ?_
    exact q0 (fun ⟨k, hk, e⟩ => hno k hk e)
end

theorem CR.add {R : RD} {a col l : Nat} {g o : Int} {m m' : Mm} (h : CR R a m) (e0 : m' (a + 1) 7 = ((Cn R + 1 : Nat) : Int)) (e1 : m' (a + 2) (Cn R) = g) (e2 : m' (a + 3) (Cn R) = o) (e3 : m' (a + 4) (Cn R) = (col : Int)) (e4 : m' (a + 5) (Cn R) = (l : Int)) (e5 : m' (a + 6) (Cn R) = 0) (e6 : m' (a + 7) (Cn R) = 0) (e : ∀ b j, a ≤ b → b ≤ a + 12 → ¬ (a + 2 ≤ b ∧ b ≤ a + 7 ∧ j = Cn R) → (b = a → j = 5) → (b = a + 1 → j ≠ 7) → m' b j = m b j) : CR (Radd R g o col l) a m' := by
  obtain ⟨h1, h2, h3, h4, h5, h6, h7⟩ := h
  refine ⟨e0, (e _ _ (by omega) (by omega) (by omega) (by omega) (by omega)).trans h2, fun d hd => ?_, fun d k hd hk => ?_, (e _ _ (by omega) (by omega) (by omega) (by omega) (by omega)).trans h5, fun s hs => ?_, fun s p hs hp => ?_⟩
  · have hd' : d < Cn R + 1 := hd
    show m' (a + 2) d = upf (Cg R) (Cn R) g d ∧ m' (a + 3) d = upf (Co R) (Cn R) o d ∧ m' (a + 4) d = ((upf (Cc R) (Cn R) col d : Nat) : Int) ∧ m' (a + 5) d = ((upf (Cl R) (Cn R) l d : Nat) : Int) ∧ m' (a + 6) d = ((upf (Ct R) (Cn R) 0 d : Nat) : Int) ∧ m' (a + 7) d = ((upf (Ck R) (Cn R) 0 d : Nat) : Int)
    by_cases q : d = Cn R
    · subst q
      simp only [upf_eq]
      exact ⟨e1, e2, e3, e4, e5, e6⟩
    · obtain ⟨g1, g2, g3, g4, g5, g6⟩ := h3 d (by omega)
      simp only [upf_ne q]
      exact ⟨(e _ _ (by omega) (by omega) (by omega) (by omega) (by omega)).trans g1, (e _ _ (by omega) (by omega) (by omega) (by omega) (by omega)).trans g2, (e _ _ (by omega) (by omega) (by omega) (by omega) (by omega)).trans g3, (e _ _ (by omega) (by omega) (by omega) (by omega) (by omega)).trans g4, (e _ _ (by omega) (by omega) (by omega) (by omega) (by omega)).trans g5, (e _ _ (by omega) (by omega) (by omega) (by omega) (by omega)).trans g6⟩
  · have hd' : d < Cn R + 1 := hd
    have hk' : k < upf (Ck R) (Cn R) 0 d := hk
    by_cases q : d = Cn R
    · subst q; rw [upf_eq] at hk'; omega
    · rw [upf_ne q] at hk'
      exact (e _ _ (by omega) (by omega) (by omega) (by omega) (by omega)).trans (h4 d k (by omega) hk')
  · exact ⟨(e _ _ (by omega) (by omega) (by omega) (by omega) (by omega)).trans (h6 s hs).1, (e _ _ (by omega) (by omega) (by omega) (by omega) (by omega)).trans (h6 s hs).2⟩
  · exact (e _ _ (by omega) (by omega) (by omega) (by omega) (by omega)).trans (h7 s p hs hp)
theorem CR.clr {R : RD} {a : Nat} {m : Mm} (e1 : m (a + 1) 7 = 0) (e2 : m a 5 = 15) (e3 : m (a + 9) 3 = 0) : CR (Rclr R) a m :=
  ⟨e1, e2, fun c hc => absurd hc (Nat.not_lt_zero _), fun c k hc => absurd hc (Nat.not_lt_zero _), e3, fun s hs => absurd hs (Nat.not_lt_zero _), fun s p hs => absurd hs (Nat.not_lt_zero _)⟩
theorem CR.gp {R : RD} {a q : Nat} {m m' : Mm} (h : CR R a m) (e1 : m' a 5 = (q : Int)) (e : ∀ b j, a < b → b ≤ a + 12 → m' b j = m b j) : CR (Rgp R q) a m' := by
  obtain ⟨h1, h2, h3, h4, h5, h6, h7⟩ := h
  refine ⟨(e _ _ (by omega) (by omega)).trans h1, e1, fun d hd => ?_, fun d k hd hk => (e _ _ (by omega) (by omega)).trans (h4 d k hd hk), (e _ _ (by omega) (by omega)).trans h5, fun s hs => ⟨(e _ _ (by omega) (by omega)).trans (h6 s hs).1, (e _ _ (by omega) (by omega)).trans (h6 s hs).2⟩, fun s p hs hp => (e _ _ (by omega) (by omega)).trans (h7 s p hs hp)⟩
  obtain ⟨g1, g2, g3, g4, g5, g6⟩ := h3 d hd
  exact ⟨(e _ _ (by omega) (by omega)).trans g1, (e _ _ (by omega) (by omega)).trans g2, (e _ _ (by omega) (by omega)).trans g3, (e _ _ (by omega) (by omega)).trans g4, (e _ _ (by omega) (by omega)).trans g5, (e _ _ (by omega) (by omega)).trans g6⟩
theorem CR.sm {R : RD} {a n : Nat} {w p : Nat → Nat} {t : Nat → Nat → Nat} {m m' : Mm} (h : CR R a m) (e1 : m' (a + 9) 3 = (n : Int)) (e2 : ∀ s, s < n → m' (a + 10) s = (w s : Int) ∧ m' (a + 11) s = (p s : Int)) (e3 : ∀ s k, s < n → k < p s → m' (a + 12) (12 * s + k) = (t s k : Int)) (e : ∀ b j, a ≤ b → b ≤ a + 8 → (b = a → j = 5) → m' b j = m b j) : CR (Rsm R n w p t) a m' := by
  obtain ⟨h1, h2, h3, h4, -, -, -⟩ := h
  refine ⟨(e _ _ (by omega) (by omega) (by omega)).trans h1, (e _ _ (by omega) (by omega) (by omega)).trans h2, fun d hd => ?_, fun d k hd hk => (e _ _ (by omega) (by omega) (by omega)).trans (h4 d k hd hk), e1, e2, e3⟩
  obtain ⟨g1, g2, g3, g4, g5, g6⟩ := h3 d hd
  exact ⟨(e _ _ (by omega) (by omega) (by omega)).trans g1, (e _ _ (by omega) (by omega) (by omega)).trans g2, (e _ _ (by omega) (by omega) (by omega)).trans g3, (e _ _ (by omega) (by omega) (by omega)).trans g4, (e _ _ (by omega) (by omega) (by omega)).trans g5, (e _ _ (by omega) (by omega) (by omega)).trans g6⟩
/-- how many CORDS one would be below that hung on c -/
def depF (R : RD) : Nat → Nat → Nat
  | 0, _ => 0
  | f + 1, c => if Co R c < 0 then 1 else 1 + depF R f (Co R c).toNat
def dep (R : RD) (c : Nat) : Nat := depF R (c + 1) c
theorem depF_u {R : RD} (hV : VR R) : ∀ f c, c < Cn R → c < f → depF R f c = dep R c := by
  intro f
  induction f using Nat.strongRecOn with
  | ind f ih =>
    intro c hc hf
    obtain ⟨-, ⟨o1, o2⟩, -⟩ := hV.2.2.1 c hc
    obtain ⟨f, rfl⟩ : ∃ g, f = g + 1 := ⟨f - 1, by omega⟩
    unfold dep depF
    by_cases q : Co R c < 0
    · rw [if_pos q, if_pos q]
    · rw [if_neg q, if_neg q, ih f (by omega) _ (by omega) (by omega)]
      rcases Nat.lt_or_ge c f with g | g
      · rw [ih c (by omega) _ (by omega) (by omega)]
      · have e : c = f := by omega
        subst e
        rw [ih c (by omega) _ (by omega) (by omega)]
theorem dep_eq {R : RD} (hV : VR R) {c : Nat} (hc : c < Cn R) : dep R c = if Co R c < 0 then 1 else 1 + dep R (Co R c).toNat := by
  obtain ⟨-, ⟨o1, o2⟩, -⟩ := hV.2.2.1 c hc
  show depF R (c + 1) c = _
  unfold depF
  by_cases q : Co R c < 0
  · rw [if_pos q, if_pos q]
  · rw [if_neg q, if_neg q, depF_u hV c _ (by omega) (by omega)]
/-- how many of the first n are so -/
def cntN (p : Nat → Bool) : Nat → Nat
  | 0 => 0
  | n + 1 => cntN p n + bn (p n)
def sumN (f : Nat → Nat) : Nat → Nat
  | 0 => 0
  | n + 1 => sumN f n + f n
theorem cntN_le (p : Nat → Bool) : ∀ n, cntN p n ≤ n := by
  intro n
  induction n with
  | zero => exact Nat.le_refl _
  | succ n ih => unfold cntN; have := bn_le (p n); omega
theorem sumN_le {f : Nat → Nat} {b : Nat} : ∀ n, (∀ i, i < n → f i ≤ b) → sumN f n ≤ n * b := by
  intro n
  induction n with
  | zero => intro _; exact Nat.zero_le _
  | succ n ih => intro h; unfold sumN; have := ih (fun i hi => h i (by omega)); have := h n (by omega); rw [Nat.add_mul]; omega
/-- the CORDS of a GROUP among the first n -/
def gmem (R : RD) (g : Int) : Nat → List Nat
  | 0 => []
  | n + 1 => if Cg R n = g then gmem R g n ++ [n] else gmem R g n
theorem gmem_le (R : RD) (g : Int) : ∀ n, (gmem R g n).length ≤ n := by
  intro n
  induction n with
  | zero => exact Nat.le_refl _
  | succ n ih => unfold gmem; split; rw [List.length_append]; show _ + 1 ≤ _; omega; omega
section
variable {len : Nat} {m : Mm} {Q : Option AV → Sx → Prop} {R : RD} {a c : Nat} {h : Int}
theorem c_changed (hR : isR a) (q : Q none (up2 (up2 m a 7 0) a 6 0, tl len)) : E 15 0 [some (aA a)] [] (m, tl len) Q := by
  refine E_s (p' := 1) (st' := aA a :: _) rfl rfl ?_
  refine E_s (p' := 2) (st' := aI 0 :: _) rfl rfl ?_
  refine E_pI rfl rfl rfl (kR_0 hR) (Or.inr (by decide)) ?_
  refine E_s (p' := 6) (st' := aA a :: _) rfl rfl ?_
  refine E_s (p' := 7) (st' := aI 0 :: _) rfl rfl ?_
  refine E_pI rfl rfl rfl (kR_0 hR) (Or.inr (by decide)) ?_
  refine E_ret rfl rfl ?_
  exact q
theorem c_readAgain (hR : isR a) (q : Q none (up2 m a 7 0, tl len)) : E 57 0 [some (aA a)] [] (m, tl len) Q := by
  refine E_s (p' := 1) (st' := aA a :: _) rfl rfl ?_
  refine E_s (p' := 2) (st' := aI 0 :: _) rfl rfl ?_
  refine E_pI rfl rfl rfl (kR_0 hR) (Or.inr (by decide)) ?_
  refine E_ret rfl rfl ?_
  exact q
theorem c_addCord (hR : isR a) (hC : CR R a m) (hV : VR R) {g o col l : Int} (hcol : 0 ≤ col) (hl : 0 ≤ l) (q : ∀ m1, Cn R < 60 → CR (Radd R g o col.toNat l.toNat) a m1 → m1 a 7 = 0 → Fx a (a + 7) m m1 → Q (some (aI (Cn R : Int))) (m1, tl len)) (q0 : Cn R = 60 → Q (some (aI (-3))) (m, tl len)) : E 14 0 [some (aA a), some (aI (g)), some (aI (o)), some (aI (col)), some (aI (l)), none] [] (m, tl len) Q := by
  have hn60 := hV.1
  have hab := isR_b hR
  refine E_s (p' := 1) (st' := aA a :: _) rfl rfl ?_
  refine E_gA (b := a + 1) rfl rfl rfl (kR_0 hR) (hR_0_0 hR) rfl ?_
  refine E_gI (v := ((Cn R : Nat) : Int)) rfl rfl rfl (kR_1 hR) hC.1 ?_
  refine E_s (p' := 9) (L' := [some (aA a), some (aI (g)), some (aI (o)), some (aI (col)), some (aI (l)), some (aI ((Cn R : Nat) : Int))]) rfl rfl ?_
  refine E_s (p' := 11) (st' := aI ((Cn R : Nat) : Int) :: _) rfl rfl ?_
  refine E_s (p' := 13) (st' := aI 60 :: _) rfl rfl ?_
  refine E_icmp_lt (x := ((Cn R : Nat) : Int)) (y := 60) rfl (by decide) (fun h_1 => ?_) (fun h_1 => ?_)
  · refine E_go (p' := 19) (L' := [some (aA a), some (aI (g)), some (aI (o)), some (aI (col)), some (aI (l)), some (aI ((Cn R : Nat) : Int))]) (st' := []) rfl rfl rfl ?_
    refine E_s (p' := 20) (st' := aA a :: _) rfl rfl ?_
    refine E_gA (b := a + 1) rfl rfl rfl (kR_0 hR) (hR_0_0 hR) rfl ?_
    refine E_gA (b := a + 2) rfl rfl rfl (kR_1 hR) (hR_1_0 hR) rfl ?_
    refine E_s (p' := 28) (st' := aI ((Cn R : Nat) : Int) :: _) rfl rfl ?_
    refine E_s (p' := 29) (st' := aI (g) :: _) rfl rfl ?_
    refine E_ast (e := Cn R) (N := 60) rfl (kR_2 hR) (rfl) (by omega) ?_
    refine E_s (p' := 31) (st' := aA a :: _) rfl rfl ?_
    refine E_gA (b := a + 1) rfl rfl rfl (kR_0 hR) (hR_0_0 hR) rfl ?_
    refine E_gA (b := a + 3) rfl rfl rfl (kR_1 hR) (hR_1_1 hR) rfl ?_
    refine E_s (p' := 39) (st' := aI ((Cn R : Nat) : Int) :: _) rfl rfl ?_
    refine E_s (p' := 40) (st' := aI (o) :: _) rfl rfl ?_
    refine E_ast (e := Cn R) (N := 60) rfl (kR_3 hR) (rfl) (by omega) ?_
    refine E_s (p' := 42) (st' := aA a :: _) rfl rfl ?_
    refine E_gA (b := a + 1) rfl rfl rfl (kR_0 hR) (hR_0_0 hR) rfl ?_
    refine E_gA (b := a + 4) rfl rfl rfl (kR_1 hR) (hR_1_2 hR) rfl ?_
    refine E_s (p' := 50) (st' := aI ((Cn R : Nat) : Int) :: _) rfl rfl ?_
    refine E_s (p' := 51) (st' := aI (col) :: _) rfl rfl ?_
    refine E_ast (e := Cn R) (N := 60) rfl (kR_4 hR) (rfl) (by omega) ?_
    refine E_s (p' := 53) (st' := aA a :: _) rfl rfl ?_
    refine E_gA (b := a + 1) rfl rfl rfl (kR_0 hR) (hR_0_0 hR) rfl ?_
    refine E_gA (b := a + 5) rfl rfl rfl (kR_1 hR) (hR_1_3 hR) rfl ?_
    refine E_s (p' := 61) (st' := aI ((Cn R : Nat) : Int) :: _) rfl rfl ?_
    refine E_s (p' := 63) (st' := aI (l) :: _) rfl rfl ?_
    refine E_ast (e := Cn R) (N := 60) rfl (kR_5 hR) (rfl) (by omega) ?_
    refine E_s (p' := 65) (st' := aA a :: _) rfl rfl ?_
    refine E_gA (b := a + 1) rfl rfl rfl (kR_0 hR) (hR_0_0 hR) rfl ?_
    refine E_gA (b := a + 6) rfl rfl rfl (kR_1 hR) (hR_1_4 hR) rfl ?_
    refine E_s (p' := 73) (st' := aI ((Cn R : Nat) : Int) :: _) rfl rfl ?_
    refine E_s (p' := 74) (st' := aI 0 :: _) rfl rfl ?_
    refine E_ast (e := Cn R) (N := 60) rfl (kR_6 hR) (rfl) (by omega) ?_
    refine E_s (p' := 76) (st' := aA a :: _) rfl rfl ?_
    refine E_gA (b := a + 1) rfl rfl rfl (kR_0 hR) (hR_0_0 hR) rfl ?_
    refine E_gA (b := a + 7) rfl rfl rfl (kR_1 hR) (hR_1_5 hR) rfl ?_
    refine E_s (p' := 84) (st' := aI ((Cn R : Nat) : Int) :: _) rfl rfl ?_
    refine E_s (p' := 85) (st' := aI 0 :: _) rfl rfl ?_
    refine E_ast (e := Cn R) (N := 60) rfl (kR_7 hR) (rfl) (by omega) ?_
    refine E_s (p' := 87) (st' := aA a :: _) rfl rfl ?_
    refine E_gA (b := a + 1) rfl rfl rfl (kR_0 hR) (hR_0_0 hR) rfl ?_
    refine E_s (p' := 91) (st' := aA (a + 1) :: _) rfl rfl ?_
    refine E_gI (v := ((Cn R : Nat) : Int)) rfl rfl rfl (kR_1 hR) ((up2_ne (by omega)).trans ((up2_ne (by omega)).trans ((up2_ne (by omega)).trans ((up2_ne (by omega)).trans ((up2_ne (by omega)).trans ((up2_ne (by omega)).trans (hC.1))))))) ?_
    refine E_s (p' := 95) (st' := aI 1 :: _) rfl rfl ?_
    refine E_add (v := ((Cn R + 1 : Nat) : Int)) rfl (by omega) (by omega) ?_
    refine E_pI rfl rfl rfl (kR_1 hR) (Or.inl rfl) ?_
    refine E_s (p' := 100) (st' := aA a :: _) rfl rfl ?_
    refine E_callV (k' := 15) (a := a) (r := []) (L0 := [some (aA a)]) rfl rfl rfl rfl rfl (kR_0 hR) rfl rfl rfl rfl ?_
    refine c_changed hR ?_
    refine E_go (p' := 103) (L' := [some (aA a), some (aI (g)), some (aI (o)), some (aI (col)), some (aI (l)), some (aI ((Cn R : Nat) : Int))]) (st' := []) rfl rfl rfl ?_
    refine E_s (p' := 105) (st' := aI ((Cn R : Nat) : Int) :: _) rfl rfl ?_
    refine E_ret rfl rfl ?_
    exact q _ (by omega) (CR.add hC ((up2_ne (by omega)).trans ((up2_ne (by omega)).trans (up2_eq))) ((up2_ne (by omega)).trans ((up2_ne (by omega)).trans ((up2_ne (by omega)).trans ((up2_ne (by omega)).trans ((up2_ne (by omega)).trans ((up2_ne (by omega)).trans ((up2_ne (by omega)).trans ((up2_ne (by omega)).trans (up2_eq))))))))) ((up2_ne (by omega)).trans ((up2_ne (by omega)).trans ((up2_ne (by omega)).trans ((up2_ne (by omega)).trans ((up2_ne (by omega)).trans ((up2_ne (by omega)).trans ((up2_ne (by omega)).trans (up2_eq)))))))) (((up2_ne (by omega)).trans ((up2_ne (by omega)).trans ((up2_ne (by omega)).trans ((up2_ne (by omega)).trans ((up2_ne (by omega)).trans ((up2_ne (by omega)).trans (up2_eq))))))).trans (by omega)) (((up2_ne (by omega)).trans ((up2_ne (by omega)).trans ((up2_ne (by omega)).trans ((up2_ne (by omega)).trans ((up2_ne (by omega)).trans (up2_eq)))))).trans (by omega)) ((up2_ne (by omega)).trans ((up2_ne (by omega)).trans ((up2_ne (by omega)).trans ((up2_ne (by omega)).trans (up2_eq))))) ((up2_ne (by omega)).trans ((up2_ne (by omega)).trans ((up2_ne (by omega)).trans (up2_eq)))) (fun b j h1 h2 h3 h4 h5 => ((up2_o (by omega)).trans ((up2_o (by omega)).trans ((up2_o (by omega)).trans ((up2_o (by omega)).trans ((up2_o (by omega)).trans ((up2_o (by omega)).trans ((up2_o (by omega)).trans ((up2_o (by omega)).trans (up2_o (by omega)))))))))))) ((up2_sl (by omega)).trans (up2_eq)) (fun b j hb => ((up2_ne (by omega)).trans ((up2_ne (by omega)).trans ((up2_ne (by omega)).trans ((up2_ne (by omega)).trans ((up2_ne (by omega)).trans ((up2_ne (by omega)).trans ((up2_ne (by omega)).trans ((up2_ne (by omega)).trans (up2_ne (by omega)))))))))))
  · refine E_go (p' := 16) (L' := [some (aA a), some (aI (g)), some (aI (o)), some (aI (col)), some (aI (l)), some (aI ((Cn R : Nat) : Int))]) (st' := []) rfl rfl rfl ?_
    refine E_s (p' := 18) (st' := aI (-3) :: _) rfl rfl ?_
    refine E_ret rfl rfl ?_
    exact q0 (by omega)
theorem c_makeEmpty (hR : isR a) (q : ∀ m1, CR (Rclr R) a m1 → m1 a 7 = 0 → Fx a (a + 9) m m1 → Q none (m1, tl len)) : E 61 0 [some (aA a)] [] (m, tl len) Q := by
  refine E_s (p' := 1) (st' := aA a :: _) rfl rfl ?_
  refine E_gA (b := a + 1) rfl rfl rfl (kR_0 hR) (hR_0_0 hR) rfl ?_
  refine E_s (p' := 5) (st' := aI 0 :: _) rfl rfl ?_
  refine E_pI rfl rfl rfl (kR_1 hR) (Or.inl rfl) ?_
  refine E_s (p' := 9) (st' := aA a :: _) rfl rfl ?_
  refine E_gA (b := a + 9) rfl rfl rfl (kR_0 hR) (hR_0_1 hR) rfl ?_
  refine E_s (p' := 13) (st' := aI 0 :: _) rfl rfl ?_
  refine E_pI rfl rfl rfl (kR_9 hR) (Or.inl rfl) ?_
  refine E_s (p' := 17) (st' := aA a :: _) rfl rfl ?_
  refine E_s (p' := 19) (st' := aI 15 :: _) rfl rfl ?_
  refine E_pI rfl rfl rfl (kR_0 hR) (Or.inl rfl) ?_
  refine E_s (p' := 23) (st' := aA a :: _) rfl rfl ?_
  refine E_callV (k' := 15) (a := a) (r := []) (L0 := [some (aA a)]) rfl rfl rfl rfl rfl (kR_0 hR) rfl rfl rfl rfl ?_
  refine c_changed hR ?_
  refine E_go (p' := 26) (L' := [some (aA a)]) (st' := []) rfl rfl rfl ?_
  refine E_ret rfl rfl ?_
  exact q _ (CR.clr ((up2_ne (by omega)).trans ((up2_ne (by omega)).trans ((up2_ne (by omega)).trans ((up2_ne (by omega)).trans (up2_eq))))) ((up2_sl (by omega)).trans ((up2_sl (by omega)).trans (up2_eq))) ((up2_ne (by omega)).trans ((up2_ne (by omega)).trans ((up2_ne (by omega)).trans (up2_eq))))) ((up2_sl (by omega)).trans (up2_eq)) (fun b j hb => ((up2_ne (by omega)).trans ((up2_ne (by omega)).trans ((up2_ne (by omega)).trans ((up2_ne (by omega)).trans (up2_ne (by omega)))))))
theorem l_above (hR : isR a) (hC : CR R a m) (hV : VR R) (hc : c < Cn R) (q : Q (some (aI ((min 4 (dep R c) : Nat) : Int))) (m, tl len)) : ∀ (d : Nat) (i : Nat) (z : Int), (4 < i + d) → (i ≤ 4) → ((z = -1 ∧ dep R c = i) ∨ ∃ e : Nat, z = e ∧ e < Cn R ∧ dep R c = i + dep R e) → E 18 7 [some (aA (a + 1)), some (aI ((c : Nat) : Int)), some (aI ((i : Nat) : Int)), some (aI (z)), some (aI ((i : Nat) : Int))] [] (m, tl len) Q := by
  intro d
  induction d with
  | zero => intro i z hd hi hz; omega
  | succ d ih =>
    intro i z hd hi hz
    refine E_s (p' := 9) (st' := aI ((i : Nat) : Int) :: _) rfl rfl ?_
    refine E_s (p' := 10) (st' := aI 3 :: _) rfl rfl ?_
    refine E_icmp_gt (x := ((i : Nat) : Int)) (y := 3) rfl (by decide) (fun h_1 => ?_) (fun h_1 => ?_)
    · refine E_go (p' := 37) (L' := [some (aA (a + 1)), some (aI ((c : Nat) : Int)), some (aI ((i : Nat) : Int)), some (aI (z)), some (aI ((i : Nat) : Int))]) (st' := []) rfl rfl rfl ?_
      refine E_s (p' := 38) (st' := aI ((i : Nat) : Int) :: _) rfl rfl ?_
      refine E_ret rfl rfl ?_
      have e4 : i = min 4 (dep R c) := by
        rcases hz with ⟨z1, z2⟩ | ⟨e9, z1, z2, z3⟩
        · omega
        · have hd9 := dep_eq hV z2
          have : 1 ≤ dep R e9 := by rw [hd9]; split <;> omega
          omega
      rw [← e4] at q
      exact q
    · refine E_go (p' := 13) (L' := [some (aA (a + 1)), some (aI ((c : Nat) : Int)), some (aI ((i : Nat) : Int)), some (aI (z)), some (aI ((i : Nat) : Int))]) (st' := []) rfl rfl rfl ?_
      refine E_s (p' := 14) (st' := aA (a + 1) :: _) rfl rfl ?_
      refine E_s (p' := 15) (st' := aI (z) :: _) rfl rfl ?_
      refine E_callV (k' := 17) (a := a + 1) (r := []) (L0 := [some (aA (a + 1)), some (aI (z))]) rfl rfl rfl rfl rfl (kR_1 hR) rfl rfl rfl rfl ?_
      refine c_has hR hC (fun e he1 he2 => ?_) (fun hno => ?_)
      · refine E_go (p' := 18) (L' := [some (aA (a + 1)), some (aI ((c : Nat) : Int)), some (aI ((i : Nat) : Int)), some (aI (z)), some (aI ((i : Nat) : Int))]) (st' := [aI 1]) rfl rfl rfl ?_
        have hd2 := dep_eq hV he2
        obtain ⟨-, ⟨vo1, vo2⟩, -⟩ := hV.2.2.1 e he2
        have hn60 := hV.1
        refine E_s (p' := 21) rfl rfl ?_
        refine E_inc (x := ((i : Nat) : Int)) (w := ((i + 1 : Nat) : Int)) (L' := [some (aA (a + 1)), some (aI ((c : Nat) : Int)), some (aI ((i + 1 : Nat) : Int)), some (aI (z)), some (aI ((i : Nat) : Int))]) rfl rfl rfl (by omega) (by omega) rfl ?_
        refine E_s (p' := 25) (st' := aA (a + 1) :: _) rfl rfl ?_
        refine E_gA (b := a + 3) rfl rfl rfl (kR_1 hR) (hR_1_1 hR) rfl ?_
        refine E_s (p' := 29) (st' := aI (z) :: _) rfl rfl ?_
        refine E_ald (e := (z).toNat) (N := 60) (v := ((Co R e))) rfl (kR_3 hR) (by omega) (by omega) (by rw [show (z).toNat = e by omega]; exact CR_3 hC (by omega)) ?_
        refine E_s (p' := 31) (L' := [some (aA (a + 1)), some (aI ((c : Nat) : Int)), some (aI ((i + 1 : Nat) : Int)), some (aI ((Co R e))), some (aI ((i : Nat) : Int))]) rfl rfl ?_
        refine E_inc (x := ((i : Nat) : Int)) (w := ((i + 1 : Nat) : Int)) (L' := [some (aA (a + 1)), some (aI ((c : Nat) : Int)), some (aI ((i + 1 : Nat) : Int)), some (aI ((Co R e))), some (aI ((i + 1 : Nat) : Int))]) rfl rfl rfl (by omega) (by omega) rfl ?_
        refine E_s (p' := 7) rfl rfl ?_
        refine ih (i + 1) (Co R e) (by omega) (by omega) ?_
        rcases hz with ⟨z1, z2⟩ | ⟨e9, z1, z2, z3⟩
        · omega
        · have ee : e9 = e := by omega
          subst ee
          rcases (show Co R e9 < 0 ∨ 0 ≤ Co R e9 by omega) with g | g
          · rw [if_pos g] at hd2; exact Or.inl ⟨by omega, by omega⟩
          · rw [if_neg (by omega)] at hd2; exact Or.inr ⟨(Co R e9).toNat, by omega, by omega, by omega⟩
      · refine E_go (p' := 18) (L' := [some (aA (a + 1)), some (aI ((c : Nat) : Int)), some (aI ((i : Nat) : Int)), some (aI (z)), some (aI ((i : Nat) : Int))]) (st' := [aI 0]) rfl rfl rfl ?_
        refine E_s (p' := 37) rfl rfl ?_
        refine E_s (p' := 38) (st' := aI ((i : Nat) : Int) :: _) rfl rfl ?_
        refine E_ret rfl rfl ?_
        have e4 : i = min 4 (dep R c) := by
          rcases hz with ⟨z1, z2⟩ | ⟨e9, z1, z2, z3⟩
          · omega
          · have hd9 := dep_eq hV z2
            have : 1 ≤ dep R e9 := by rw [hd9]; split <;> omega
            omega
        rw [← e4] at q
        exact q
theorem c_above (hR : isR a) (hC : CR R a m) (hV : VR R) (hc : c < Cn R) (q : Q (some (aI ((min 4 (dep R c) : Nat) : Int))) (m, tl len)) : E 18 0 [some (aA (a + 1)), some (aI ((c : Nat) : Int)), none, none, none] [] (m, tl len) Q := by
  refine E_s (p' := 1) (st' := aI 0 :: _) rfl rfl ?_
  refine E_s (p' := 2) (L' := [some (aA (a + 1)), some (aI ((c : Nat) : Int)), some (aI 0), none, none]) rfl rfl ?_
  refine E_s (p' := 3) (st' := aI ((c : Nat) : Int) :: _) rfl rfl ?_
  refine E_s (p' := 4) (L' := [some (aA (a + 1)), some (aI ((c : Nat) : Int)), some (aI 0), some (aI ((c : Nat) : Int)), none]) rfl rfl ?_
  refine E_s (p' := 5) (st' := aI 0 :: _) rfl rfl ?_
  refine E_s (p' := 7) (L' := [some (aA (a + 1)), some (aI ((c : Nat) : Int)), some (aI 0), some (aI ((c : Nat) : Int)), some (aI 0)]) rfl rfl ?_
  exact l_above hR hC hV hc q 5 0 c (by omega) (by omega) (Or.inr ⟨c, rfl, hc, by omega⟩)
theorem l_howManyOn (hR : isR a) (hC : CR R a m) (hV : VR R) (q : Q (some (aI ((cntN (fun d => decide (Co R d = h)) (Cn R) : Nat) : Int))) (m, tl len)) : ∀ (d : Nat) (i : Nat) (t : Nat), (Cn R < i + d) → (i ≤ Cn R) → (t = cntN (fun d => decide (Co R d = h)) i) → E 68 4 [some (aA (a + 1)), some (aI (h)), some (aI ((t : Nat) : Int)), some (aI ((i : Nat) : Int))] [] (m, tl len) Q := by
  intro d
  induction d with
  | zero => intro i t hd hi hz; omega
  | succ d ih =>
    intro i t hd hi hz
    have hn60 := hV.1
    have ht9 := cntN_le (fun d => decide (Co R d = h)) i
    refine E_s (p' := 5) (st' := aI ((i : Nat) : Int) :: _) rfl rfl ?_
    refine E_s (p' := 6) (st' := aA (a + 1) :: _) rfl rfl ?_
    refine E_gI (v := ((Cn R : Nat) : Int)) rfl rfl rfl (kR_1 hR) hC.1 ?_
    refine E_icmp_ge (x := ((i : Nat) : Int)) (y := ((Cn R : Nat) : Int)) rfl (by decide) (fun h_1 => ?_) (fun h_1 => ?_)
    · refine E_go (p' := 36) (L' := [some (aA (a + 1)), some (aI (h)), some (aI ((t : Nat) : Int)), some (aI ((i : Nat) : Int))]) (st' := []) rfl rfl rfl ?_
      refine E_s (p' := 37) (st' := aI ((t : Nat) : Int) :: _) rfl rfl ?_
      refine E_ret rfl rfl ?_
      have ei : i = Cn R := by omega
      subst ei hz
      exact q
    · refine E_go (p' := 12) (L' := [some (aA (a + 1)), some (aI (h)), some (aI ((t : Nat) : Int)), some (aI ((i : Nat) : Int))]) (st' := []) rfl rfl rfl ?_
      refine E_s (p' := 13) (st' := aI ((t : Nat) : Int) :: _) rfl rfl ?_
      refine E_s (p' := 14) (st' := aA (a + 1) :: _) rfl rfl ?_
      refine E_gA (b := a + 3) rfl rfl rfl (kR_1 hR) (hR_1_1 hR) rfl ?_
      refine E_s (p' := 18) (st' := aI ((i : Nat) : Int) :: _) rfl rfl ?_
      refine E_ald (e := i) (N := 60) (v := ((Co R i))) rfl (kR_3 hR) (rfl) (by omega) (CR_3 hC (by omega)) ?_
      refine E_s (p' := 20) (st' := aI (h) :: _) rfl rfl ?_
      suffices h_2 : E 68 28 [some (aA (a + 1)), some (aI (h)), some (aI ((t : Nat) : Int)), some (aI ((i : Nat) : Int))] [aI (bi (!decide (((Co R i)) ≠ (h)))), aI ((t : Nat) : Int)] (m, tl len) Q by
        refine E_icmp_ne (x := ((Co R i))) (y := (h)) rfl (by decide) (fun h_3 => ?_) (fun h_3 => ?_)
        · refine E_go (p' := 27) (L' := [some (aA (a + 1)), some (aI (h)), some (aI ((t : Nat) : Int)), some (aI ((i : Nat) : Int))]) (st' := [aI ((t : Nat) : Int)]) rfl rfl rfl ?_
          refine E_s (p' := 28) (st' := aI 0 :: _) rfl rfl ?_
          rw [decide_eq_true (p := ((Co R i)) ≠ (h)) (by omega)] at h_2
          exact h_2
        · refine E_go (p' := 23) (L' := [some (aA (a + 1)), some (aI (h)), some (aI ((t : Nat) : Int)), some (aI ((i : Nat) : Int))]) (st' := [aI ((t : Nat) : Int)]) rfl rfl rfl ?_
          refine E_s (p' := 24) (st' := aI 1 :: _) rfl rfl ?_
          refine E_s (p' := 28) rfl rfl ?_
          rw [decide_eq_false (p := ((Co R i)) ≠ (h)) (by omega)] at h_2
          exact h_2
      refine E_add (v := ((t + bn (!decide (((Co R i)) ≠ (h))) : Nat) : Int)) rfl add_bn (by have := bn_le (!decide (((Co R i)) ≠ (h))); omega) ?_
      refine E_s (p' := 30) (L' := [some (aA (a + 1)), some (aI (h)), some (aI ((t + bn (!decide (((Co R i)) ≠ (h))) : Nat) : Int)), some (aI ((i : Nat) : Int))]) rfl rfl ?_
      refine E_inc (x := ((i : Nat) : Int)) (w := ((i + 1 : Nat) : Int)) (L' := [some (aA (a + 1)), some (aI (h)), some (aI ((t + bn (!decide (((Co R i)) ≠ (h))) : Nat) : Int)), some (aI ((i + 1 : Nat) : Int))]) rfl rfl rfl (by omega) (by omega) rfl ?_
      refine E_s (p' := 4) rfl rfl ?_
      exact ih (i + 1) _ (by omega) (by omega) (by rw [hz]; simp [cntN])
theorem c_howManyOn (hR : isR a) (hC : CR R a m) (hV : VR R) (q : Q (some (aI ((cntN (fun d => decide (Co R d = h)) (Cn R) : Nat) : Int))) (m, tl len)) : E 68 0 [some (aA (a + 1)), some (aI (h)), none, none] [] (m, tl len) Q := by
  refine E_s (p' := 1) (st' := aI 0 :: _) rfl rfl ?_
  refine E_s (p' := 2) (L' := [some (aA (a + 1)), some (aI (h)), some (aI 0), none]) rfl rfl ?_
  refine E_s (p' := 3) (st' := aI 0 :: _) rfl rfl ?_
  refine E_s (p' := 4) (L' := [some (aA (a + 1)), some (aI (h)), some (aI 0), some (aI 0)]) rfl rfl ?_
  exact l_howManyOn hR hC hV q (Cn R + 1) 0 0 (by omega) (by omega) rfl
theorem l_howManyTorn (hR : isR a) (hC : CR R a m) (hV : VR R) (q : Q (some (aI ((cntN (fun d => decide (Ct R d ≠ 0)) (Cn R) : Nat) : Int))) (m, tl len)) : ∀ (d : Nat) (i : Nat) (t : Nat), (Cn R < i + d) → (i ≤ Cn R) → (t = cntN (fun d => decide (Ct R d ≠ 0)) i) → E 125 4 [some (aA (a + 1)), some (aI ((t : Nat) : Int)), some (aI ((i : Nat) : Int))] [] (m, tl len) Q := by
  intro d
  induction d with
  | zero => intro i t hd hi hz; omega
  | succ d ih =>
    intro i t hd hi hz
    have hn60 := hV.1
    have ht9 := cntN_le (fun d => decide (Ct R d ≠ 0)) i
    refine E_s (p' := 5) (st' := aI ((i : Nat) : Int) :: _) rfl rfl ?_
    refine E_s (p' := 6) (st' := aA (a + 1) :: _) rfl rfl ?_
    refine E_gI (v := ((Cn R : Nat) : Int)) rfl rfl rfl (kR_1 hR) hC.1 ?_
    refine E_icmp_ge (x := ((i : Nat) : Int)) (y := ((Cn R : Nat) : Int)) rfl (by decide) (fun h_1 => ?_) (fun h_1 => ?_)
    · refine E_go (p' := 35) (L' := [some (aA (a + 1)), some (aI ((t : Nat) : Int)), some (aI ((i : Nat) : Int))]) (st' := []) rfl rfl rfl ?_
      refine E_s (p' := 36) (st' := aI ((t : Nat) : Int) :: _) rfl rfl ?_
      refine E_ret rfl rfl ?_
      have ei : i = Cn R := by omega
      subst ei hz
      exact q
    · refine E_go (p' := 12) (L' := [some (aA (a + 1)), some (aI ((t : Nat) : Int)), some (aI ((i : Nat) : Int))]) (st' := []) rfl rfl rfl ?_
      refine E_s (p' := 13) (st' := aI ((t : Nat) : Int) :: _) rfl rfl ?_
      refine E_s (p' := 14) (st' := aA (a + 1) :: _) rfl rfl ?_
      refine E_gA (b := a + 6) rfl rfl rfl (kR_1 hR) (hR_1_4 hR) rfl ?_
      refine E_s (p' := 18) (st' := aI ((i : Nat) : Int) :: _) rfl rfl ?_
      refine E_ald (e := i) (N := 60) (v := ((Ct R i : Nat) : Int)) rfl (kR_6 hR) (rfl) (by omega) (CR_6 hC (by omega)) ?_
      suffices h_2 : E 125 27 [some (aA (a + 1)), some (aI ((t : Nat) : Int)), some (aI ((i : Nat) : Int))] [aI (bi (!decide (((Ct R i : Nat) : Int) = 0))), aI ((t : Nat) : Int)] (m, tl len) Q by
        refine E_if_eq (x := ((Ct R i : Nat) : Int)) rfl (by decide) (fun h_3 => ?_) (fun h_3 => ?_)
        · refine E_go (p' := 26) (L' := [some (aA (a + 1)), some (aI ((t : Nat) : Int)), some (aI ((i : Nat) : Int))]) (st' := [aI ((t : Nat) : Int)]) rfl rfl rfl ?_
          refine E_s (p' := 27) (st' := aI 0 :: _) rfl rfl ?_
          rw [decide_eq_true (p := ((Ct R i : Nat) : Int) = 0) (by omega)] at h_2
          exact h_2
        · refine E_go (p' := 22) (L' := [some (aA (a + 1)), some (aI ((t : Nat) : Int)), some (aI ((i : Nat) : Int))]) (st' := [aI ((t : Nat) : Int)]) rfl rfl rfl ?_
          refine E_s (p' := 23) (st' := aI 1 :: _) rfl rfl ?_
          refine E_s (p' := 27) rfl rfl ?_
          rw [decide_eq_false (p := ((Ct R i : Nat) : Int) = 0) (by omega)] at h_2
          exact h_2
      refine E_add (v := ((t + bn (!decide (((Ct R i : Nat) : Int) = 0)) : Nat) : Int)) rfl add_bn (by have := bn_le (!decide (((Ct R i : Nat) : Int) = 0)); omega) ?_
      refine E_s (p' := 29) (L' := [some (aA (a + 1)), some (aI ((t + bn (!decide (((Ct R i : Nat) : Int) = 0)) : Nat) : Int)), some (aI ((i : Nat) : Int))]) rfl rfl ?_
      refine E_inc (x := ((i : Nat) : Int)) (w := ((i + 1 : Nat) : Int)) (L' := [some (aA (a + 1)), some (aI ((t + bn (!decide (((Ct R i : Nat) : Int) = 0)) : Nat) : Int)), some (aI ((i + 1 : Nat) : Int))]) rfl rfl rfl (by omega) (by omega) rfl ?_
      refine E_s (p' := 4) rfl rfl ?_
      exact ih (i + 1) _ (by omega) (by omega) (by rw [hz]; simp [cntN])
theorem c_howManyTorn (hR : isR a) (hC : CR R a m) (hV : VR R) (q : Q (some (aI ((cntN (fun d => decide (Ct R d ≠ 0)) (Cn R) : Nat) : Int))) (m, tl len)) : E 125 0 [some (aA (a + 1)), none, none] [] (m, tl len) Q := by
  refine E_s (p' := 1) (st' := aI 0 :: _) rfl rfl ?_
  refine E_s (p' := 2) (L' := [some (aA (a + 1)), some (aI 0), none]) rfl rfl ?_
  refine E_s (p' := 3) (st' := aI 0 :: _) rfl rfl ?_
  refine E_s (p' := 4) (L' := [some (aA (a + 1)), some (aI 0), some (aI 0)]) rfl rfl ?_
  exact l_howManyTorn hR hC hV q (Cn R + 1) 0 0 (by omega) (by omega) rfl
theorem l_allKnots (hR : isR a) (hC : CR R a m) (hV : VR R) (q : Q (some (aI ((sumN (Ck R) (Cn R) : Nat) : Int))) (m, tl len)) : ∀ (d : Nat) (i : Nat) (t : Nat), (Cn R < i + d) → (i ≤ Cn R) → (t = sumN (Ck R) i) → E 124 4 [some (aA (a + 1)), some (aI ((t : Nat) : Int)), some (aI ((i : Nat) : Int))] [] (m, tl len) Q := by
  intro d
  induction d with
  | zero => intro i t hd hi hz; omega
  | succ d ih =>
    intro i t hd hi hz
    have hn60 := hV.1
    have ht9 := sumN_le (f := Ck R) (b := 30) i (fun j hj => (hV.2.2.1 j (by omega)).2.2.2.2.2)
    refine E_s (p' := 5) (st' := aI ((i : Nat) : Int) :: _) rfl rfl ?_
    refine E_s (p' := 6) (st' := aA (a + 1) :: _) rfl rfl ?_
    refine E_gI (v := ((Cn R : Nat) : Int)) rfl rfl rfl (kR_1 hR) hC.1 ?_
    refine E_icmp_ge (x := ((i : Nat) : Int)) (y := ((Cn R : Nat) : Int)) rfl (by decide) (fun h_1 => ?_) (fun h_1 => ?_)
    · refine E_go (p' := 27) (L' := [some (aA (a + 1)), some (aI ((t : Nat) : Int)), some (aI ((i : Nat) : Int))]) (st' := []) rfl rfl rfl ?_
      refine E_s (p' := 28) (st' := aI ((t : Nat) : Int) :: _) rfl rfl ?_
      refine E_ret rfl rfl ?_
      have ei : i = Cn R := by omega
      subst ei hz
      exact q
    · refine E_go (p' := 12) (L' := [some (aA (a + 1)), some (aI ((t : Nat) : Int)), some (aI ((i : Nat) : Int))]) (st' := []) rfl rfl rfl ?_
      have hk30 := (hV.2.2.1 i (by omega)).2.2.2.2.2
      refine E_s (p' := 13) (st' := aI ((t : Nat) : Int) :: _) rfl rfl ?_
      refine E_s (p' := 14) (st' := aA (a + 1) :: _) rfl rfl ?_
      refine E_gA (b := a + 7) rfl rfl rfl (kR_1 hR) (hR_1_5 hR) rfl ?_
      refine E_s (p' := 18) (st' := aI ((i : Nat) : Int) :: _) rfl rfl ?_
      refine E_ald (e := i) (N := 60) (v := ((Ck R i : Nat) : Int)) rfl (kR_7 hR) (rfl) (by omega) (CR_7 hC (by omega)) ?_
      refine E_add (v := ((t + Ck R i : Nat) : Int)) rfl (by omega) (by omega) ?_
      refine E_s (p' := 21) (L' := [some (aA (a + 1)), some (aI ((t + Ck R i : Nat) : Int)), some (aI ((i : Nat) : Int))]) rfl rfl ?_
      refine E_inc (x := ((i : Nat) : Int)) (w := ((i + 1 : Nat) : Int)) (L' := [some (aA (a + 1)), some (aI ((t + Ck R i : Nat) : Int)), some (aI ((i + 1 : Nat) : Int))]) rfl rfl rfl (by omega) (by omega) rfl ?_
      refine E_s (p' := 4) rfl rfl ?_
      exact ih (i + 1) _ (by omega) (by omega) (by rw [hz]; rfl)
theorem c_allKnots (hR : isR a) (hC : CR R a m) (hV : VR R) (q : Q (some (aI ((sumN (Ck R) (Cn R) : Nat) : Int))) (m, tl len)) : E 124 0 [some (aA (a + 1)), none, none] [] (m, tl len) Q := by
  refine E_s (p' := 1) (st' := aI 0 :: _) rfl rfl ?_
  refine E_s (p' := 2) (L' := [some (aA (a + 1)), some (aI 0), none]) rfl rfl ?_
  refine E_s (p' := 3) (st' := aI 0 :: _) rfl rfl ?_
  refine E_s (p' := 4) (L' := [some (aA (a + 1)), some (aI 0), some (aI 0)]) rfl rfl ?_
  exact l_allKnots hR hC hV q (Cn R + 1) 0 0 (by omega) (by omega) rfl
end

/-- two RECORDS are alike as far as either is told -/
def agr (R R' : RD) : Prop := Cn R = Cn R' ∧ Cq R = Cq R' ∧ (∀ c, c < Cn R → Cg R c = Cg R' c ∧ Co R c = Co R' c ∧ Cc R c = Cc R' c ∧ Cl R c = Cl R' c ∧ Ct R c = Ct R' c ∧ Ck R c = Ck R' c) ∧ (∀ c k, c < Cn R → k < Ck R c → Cp R c k = Cp R' c k) ∧ Sn R = Sn R' ∧ (∀ s, s < Sn R → Sw R s = Sw R' s ∧ Sp R s = Sp R' s) ∧ (∀ s p, s < Sn R → p < Sp R s → Sq R s p = Sq R' s p)
theorem CR.agr {R R' : RD} {a : Nat} {m : Mm} (h : CR R a m) (h' : CR R' a m) : agr R R' := by
  have en : Cn R = Cn R' := by have := h.1.symm.trans h'.1; omega
  have es : Sn R = Sn R' := by have := (CRS h).symm.trans (CRS h'); omega
  refine ⟨en, by have := h.2.1.symm.trans h'.2.1; omega, fun c hc => ?_, fun c k hc hk => ?_, es, fun s hs => ?_, fun s p hs hp => ?_⟩
  · have hc' : c < Cn R' := by omega
    exact ⟨(CR_2 h hc).symm.trans (CR_2 h' hc'), (CR_3 h hc).symm.trans (CR_3 h' hc'), by have := (CR_4 h hc).symm.trans (CR_4 h' hc'); omega, by have := (CR_5 h hc).symm.trans (CR_5 h' hc'); omega, by have := (CR_6 h hc).symm.trans (CR_6 h' hc'); omega, by have := (CR_7 h hc).symm.trans (CR_7 h' hc'); omega⟩
  · have hc' : c < Cn R' := by omega
    have ek : Ck R c = Ck R' c := by have := (CR_7 h hc).symm.trans (CR_7 h' hc'); omega
    have := (CR_8 h hc hk rfl).symm.trans (CR_8 h' hc' (show k < Ck R' c by omega) rfl); omega
  · exact ⟨by have := (CR_10 h hs).symm.trans (CR_10 h' (show s < Sn R' by omega)); omega, by have := (CR_11 h hs).symm.trans (CR_11 h' (show s < Sn R' by omega)); omega⟩
  · have ep : Sp R s = Sp R' s := by have := (CR_11 h hs).symm.trans (CR_11 h' (show s < Sn R' by omega)); omega
    have := (CR_12 h hs hp rfl).symm.trans (CR_12 h' (show s < Sn R' by omega) (show p < Sp R' s by omega) rfl); omega
theorem agr.symm {R R' : RD} (h : agr R R') : agr R' R := by
  obtain ⟨h1, h2, h3, h4, h5, h6, h7⟩ := h
  refine ⟨h1.symm, h2.symm, fun c hc => ?_, fun c k hc hk => ?_, h5.symm, fun s hs => ?_, fun s p hs hp => ?_⟩
  · obtain ⟨g1, g2, g3, g4, g5, g6⟩ := h3 c (by omega)
    exact ⟨g1.symm, g2.symm, g3.symm, g4.symm, g5.symm, g6.symm⟩
  · obtain ⟨-, -, -, -, -, g6⟩ := h3 c (by omega)
    exact (h4 c k (by omega) (by omega)).symm
  · exact ⟨(h6 s (by omega)).1.symm, (h6 s (by omega)).2.symm⟩
  · have := (h6 s (by omega)).2
    exact (h7 s p (by omega) (by omega)).symm
theorem MR.agr {R R' : RD} {r : Nat} {m : Mm} (h : MR R r m) (g : agr R R') : MR R' r m := by
  obtain ⟨g1, g2, g3, g4, g5, g6, g7⟩ := g.symm
  obtain ⟨h1, h2, h3, h4, h5, h6, h7⟩ := h
  refine ⟨by rw [g1]; exact h1, by rw [g2]; exact h2, fun c hc => ?_, fun c k hc hk => ?_, by rw [g5]; exact h5, fun s hs => ?_, fun s p hs hp => ?_⟩
  · obtain ⟨k1, k2, k3, k4, k5, k6⟩ := g3 c hc
    unfold MC
    rw [k1, k2, k3, k4, k5, k6]
    exact h3 c (by omega)
  · obtain ⟨-, -, -, -, -, k6⟩ := g3 c hc
    unfold MK
    rw [g4 c k hc hk]
    exact h4 c k (by omega) (by omega)
  · rw [(g6 s hs).1, (g6 s hs).2]; exact h6 s (by omega)
  · rw [g7 s p hs hp]; exact h7 s p (by omega) (by have := (g6 s hs).2; omega)
section
variable {len : Nat} {m : Mm} {Q : Option AV → Sx → Prop} {R : RD} {a s : Nat} {h : Int}
theorem c_partOf (hR : isR a) (hC : CR R a m) (hV : VR R) (hs : s < Sn R) {p : Nat} (hp : p < Sp R s) (q : Q (some (aI (Sq R s p : Int))) (m, tl len)) : E 79 0 [some (aA (a + 9)), some (aI ((s : Nat) : Int)), some (aI ((p : Nat) : Int))] [] (m, tl len) Q := by
  have hs40 := hV.2.2.2.2.1
  have hab := isR_b hR
  have hp12 := (hV.2.2.2.2.2.1 s hs).2
  refine E_s (p' := 1) (st' := aA (a + 9) :: _) rfl rfl ?_
  refine E_gA (b := a + 12) rfl rfl rfl (kR_9 hR) (hR_9_2 hR) rfl ?_
  refine E_s (p' := 5) (st' := aI ((s : Nat) : Int) :: _) rfl rfl ?_
  refine E_s (p' := 7) (st' := aI 12 :: _) rfl rfl ?_
  refine E_mul (v := ((12 * s : Nat) : Int)) rfl (by omega) (by omega) ?_
  refine E_s (p' := 9) (st' := aI ((p : Nat) : Int) :: _) rfl rfl ?_
  refine E_add (v := ((12 * s + p : Nat) : Int)) rfl (by omega) (by omega) ?_
  refine E_ald (e := 12 * s + p) (N := 480) (v := ((Sq R s p : Nat) : Int)) rfl (kR_12 hR) (rfl) (by omega) (CR_12 hC (by omega) (by omega) (by omega)) ?_
  refine E_ret rfl rfl ?_
  exact q
theorem c_counts (hR : isR a) (hC : CR R a m) (hV : VR R) (hs : s < Sn R) (q1 : 2 ≤ Sp R s → Q (some (aI 1)) (m, tl len)) (q0 : Sp R s < 2 → Q (some (aI 0)) (m, tl len)) : E 84 0 [some (aA (a + 9)), some (aI ((s : Nat) : Int))] [] (m, tl len) Q := by
  have hs40 := hV.2.2.2.2.1
  have hab := isR_b hR
  have hp12 := (hV.2.2.2.2.2.1 s hs).2
  refine E_s (p' := 1) (st' := aA (a + 9) :: _) rfl rfl ?_
  refine E_gA (b := a + 11) rfl rfl rfl (kR_9 hR) (hR_9_1 hR) rfl ?_
  refine E_s (p' := 5) (st' := aI ((s : Nat) : Int) :: _) rfl rfl ?_
  refine E_ald (e := s) (N := 40) (v := ((Sp R s : Nat) : Int)) rfl (kR_11 hR) (rfl) (by omega) (CR_11 hC (by omega)) ?_
  refine E_s (p' := 7) (st' := aI 2 :: _) rfl rfl ?_
  refine E_icmp_lt (x := ((Sp R s : Nat) : Int)) (y := 2) rfl (by decide) (fun h_1 => ?_) (fun h_1 => ?_)
  · refine E_go (p' := 14) (L' := [some (aA (a + 9)), some (aI ((s : Nat) : Int))]) (st' := []) rfl rfl rfl ?_
    refine E_s (p' := 15) (st' := aI 0 :: _) rfl rfl ?_
    refine E_ret rfl rfl ?_
    exact q0 (by omega)
  · refine E_go (p' := 10) (L' := [some (aA (a + 9)), some (aI ((s : Nat) : Int))]) (st' := []) rfl rfl rfl ?_
    refine E_s (p' := 11) (st' := aI 1 :: _) rfl rfl ?_
    refine E_s (p' := 15) rfl rfl ?_
    refine E_ret rfl rfl ?_
    exact q1 (by omega)
theorem c_begin (hR : isR a) (hC : CR R a m) (hV : VR R) {c : Nat} (hs : Sn R < 40) (q : ∀ m1, CR (Rsm R (Sn R + 1) (upf (Sw R) (Sn R) c) (upf (Sp R) (Sn R) 0) (Sq R)) a m1 → Fx (a + 9) (a + 11) m m1 → Q none (m1, tl len)) : E 76 0 [some (aA (a + 9)), some (aI ((c : Nat) : Int))] [] (m, tl len) Q := by
  have hab := isR_b hR
  refine E_s (p' := 1) (st' := aA (a + 9) :: _) rfl rfl ?_
  refine E_gA (b := a + 10) rfl rfl rfl (kR_9 hR) (hR_9_0 hR) rfl ?_
  refine E_s (p' := 5) (st' := aA (a + 9) :: _) rfl rfl ?_
  refine E_gI (v := ((Sn R : Nat) : Int)) rfl rfl rfl (kR_9 hR) (CRS hC) ?_
  refine E_s (p' := 9) (st' := aI ((c : Nat) : Int) :: _) rfl rfl ?_
  refine E_ast (e := Sn R) (N := 40) rfl (kR_10 hR) (rfl) (by omega) ?_
  refine E_s (p' := 11) (st' := aA (a + 9) :: _) rfl rfl ?_
  refine E_gA (b := a + 11) rfl rfl rfl (kR_9 hR) (hR_9_1 hR) rfl ?_
  refine E_s (p' := 15) (st' := aA (a + 9) :: _) rfl rfl ?_
  refine E_gI (v := ((Sn R : Nat) : Int)) rfl rfl rfl (kR_9 hR) ((up2_ne (by omega)).trans ((CRS hC))) ?_
  refine E_s (p' := 19) (st' := aI 0 :: _) rfl rfl ?_
  refine E_ast (e := Sn R) (N := 40) rfl (kR_11 hR) (rfl) (by omega) ?_
  refine E_s (p' := 21) (st' := aA (a + 9) :: _) rfl rfl ?_
  refine E_s (p' := 22) (st' := aA (a + 9) :: _) rfl rfl ?_
  refine E_gI (v := ((Sn R : Nat) : Int)) rfl rfl rfl (kR_9 hR) ((up2_ne (by omega)).trans ((up2_ne (by omega)).trans ((CRS hC)))) ?_
  refine E_s (p' := 26) (st' := aI 1 :: _) rfl rfl ?_
  refine E_add (v := ((Sn R + 1 : Nat) : Int)) rfl (by omega) (by omega) ?_
  refine E_pI rfl rfl rfl (kR_9 hR) (Or.inl rfl) ?_
  refine E_ret rfl rfl ?_
  refine q _ (CR.sm hC (up2_eq) (fun s hs => ?_) (fun s k hs hk => ?_) (fun b j h1 h2 h3 => ((up2_ne (by omega)).trans ((up2_ne (by omega)).trans (up2_ne (by omega)))))) (fun b j hb => ((up2_ne (by omega)).trans ((up2_ne (by omega)).trans (up2_ne (by omega)))))
  · by_cases g : s = Sn R
    · subst g; rw [upf_eq, upf_eq]; exact ⟨((up2_ne (by omega)).trans ((up2_ne (by omega)).trans (up2_eq))), ((up2_ne (by omega)).trans (up2_eq))⟩
    · rw [upf_ne g, upf_ne g]
      exact ⟨((up2_ne (by omega)).trans ((up2_ne (by omega)).trans (up2_sl g))).trans (CR_10 hC (by omega)), ((up2_ne (by omega)).trans ((up2_sl g).trans (up2_ne (by omega)))).trans (CR_11 hC (by omega))⟩
  · by_cases g : s = Sn R
    · subst g; rw [upf_eq] at hk; omega
    · rw [upf_ne g] at hk
      exact ((up2_ne (by omega)).trans ((up2_ne (by omega)).trans (up2_ne (by omega)))).trans (CR_12 hC (by omega) hk rfl)
end
/-- whether a CORD is the whole, or one of the first k parts -/
def hld (R : RD) (s : Nat) (h : Int) : Nat → Bool
  | 0 => decide ((Sw R s : Int) = h)
  | k + 1 => hld R s h k || decide ((Sq R s k : Int) = h)
section
variable {len : Nat} {m : Mm} {Q : Option AV → Sx → Prop} {R : RD} {a s : Nat} {h : Int}
theorem yl_holds (hR : isR a) (hC : CR R a m) (hV : VR R) (hs : s < Sn R) (q : Q (some (aI (bi (hld R s h (Sp R s))))) (m, tl len)) : ∀ (d : Nat) (i : Nat) (b : Bool), (Sp R s < i + d) → (i ≤ Sp R s) → (b = hld R s h i) → E 78 19 [some (aA (a + 9)), some (aI ((s : Nat) : Int)), some (aI (h)), some (aI (bi b)), some (aI ((i : Nat) : Int))] [] (m, tl len) Q := by
  intro d
  induction d with
  | zero => intro i b hd hi hz; omega
  | succ d ih =>
    intro i b hd hi hz
    have hs40 := hV.2.2.2.2.1
    have hab := isR_b hR
    have hp12 := (hV.2.2.2.2.2.1 s hs).2
    refine E_s (p' := 21) (st' := aI ((i : Nat) : Int) :: _) rfl rfl ?_
    refine E_s (p' := 22) (st' := aA (a + 9) :: _) rfl rfl ?_
    refine E_gA (b := a + 11) rfl rfl rfl (kR_9 hR) (hR_9_1 hR) rfl ?_
    refine E_s (p' := 26) (st' := aI ((s : Nat) : Int) :: _) rfl rfl ?_
    refine E_ald (e := s) (N := 40) (v := ((Sp R s : Nat) : Int)) rfl (kR_11 hR) (rfl) (by omega) (CR_11 hC (by omega)) ?_
    refine E_icmp_ge (x := ((i : Nat) : Int)) (y := ((Sp R s : Nat) : Int)) rfl (by decide) (fun h_1 => ?_) (fun h_1 => ?_)
    · refine E_go (p' := 55) (L' := [some (aA (a + 9)), some (aI ((s : Nat) : Int)), some (aI (h)), some (aI (bi b)), some (aI ((i : Nat) : Int))]) (st' := []) rfl rfl rfl ?_
      refine E_s (p' := 56) (st' := aI (bi b) :: _) rfl rfl ?_
      refine E_retB rfl rfl (bi01 _) ?_
      have ei : i = Sp R s := by omega
      rw [hz, ei]
      exact q
    · refine E_go (p' := 30) (L' := [some (aA (a + 9)), some (aI ((s : Nat) : Int)), some (aI (h)), some (aI (bi b)), some (aI ((i : Nat) : Int))]) (st' := []) rfl rfl rfl ?_
      refine E_s (p' := 31) (st' := aI (bi b) :: _) rfl rfl ?_
      refine E_s (p' := 32) (st' := aA (a + 9) :: _) rfl rfl ?_
      refine E_s (p' := 33) (st' := aI ((s : Nat) : Int) :: _) rfl rfl ?_
      refine E_s (p' := 35) (st' := aI ((i : Nat) : Int) :: _) rfl rfl ?_
      refine E_callV (k' := 79) (a := a + 9) (r := [aI (bi b)]) (L0 := [some (aA (a + 9)), some (aI ((s : Nat) : Int)), some (aI ((i : Nat) : Int))]) rfl rfl rfl rfl rfl (kR_9 hR) rfl rfl rfl rfl ?_
      refine c_partOf hR hC hV (s := s) (p := i) (by omega) (by omega) ?_
      refine E_go (p' := 38) (L' := [some (aA (a + 9)), some (aI ((s : Nat) : Int)), some (aI (h)), some (aI (bi b)), some (aI ((i : Nat) : Int))]) (st' := [aI ((Sq R s i : Nat) : Int), aI (bi b)]) rfl rfl rfl ?_
      refine E_s (p' := 39) (st' := aI (h) :: _) rfl rfl ?_
      suffices h_2 : E 78 47 [some (aA (a + 9)), some (aI ((s : Nat) : Int)), some (aI (h)), some (aI (bi b)), some (aI ((i : Nat) : Int))] [aI (bi (!decide (((Sq R s i : Nat) : Int) ≠ (h)))), aI (bi b)] (m, tl len) Q by
        refine E_icmp_ne (x := ((Sq R s i : Nat) : Int)) (y := (h)) rfl (by decide) (fun h_3 => ?_) (fun h_3 => ?_)
        · refine E_go (p' := 46) (L' := [some (aA (a + 9)), some (aI ((s : Nat) : Int)), some (aI (h)), some (aI (bi b)), some (aI ((i : Nat) : Int))]) (st' := [aI (bi b)]) rfl rfl rfl ?_
          refine E_s (p' := 47) (st' := aI 0 :: _) rfl rfl ?_
          rw [decide_eq_true (p := ((Sq R s i : Nat) : Int) ≠ (h)) (by omega)] at h_2
          exact h_2
        · refine E_go (p' := 42) (L' := [some (aA (a + 9)), some (aI ((s : Nat) : Int)), some (aI (h)), some (aI (bi b)), some (aI ((i : Nat) : Int))]) (st' := [aI (bi b)]) rfl rfl rfl ?_
          refine E_s (p' := 43) (st' := aI 1 :: _) rfl rfl ?_
          refine E_s (p' := 47) rfl rfl ?_
          rw [decide_eq_false (p := ((Sq R s i : Nat) : Int) ≠ (h)) (by omega)] at h_2
          exact h_2
      refine E_orb (x := b) (y := (!decide (((Sq R s i : Nat) : Int) ≠ (h)))) rfl ?_
      refine E_s (p' := 49) (L' := [some (aA (a + 9)), some (aI ((s : Nat) : Int)), some (aI (h)), some (aI (bi (b || (!decide (((Sq R s i : Nat) : Int) ≠ (h)))))), some (aI ((i : Nat) : Int))]) rfl rfl ?_
      refine E_inc (x := ((i : Nat) : Int)) (w := ((i + 1 : Nat) : Int)) (L' := [some (aA (a + 9)), some (aI ((s : Nat) : Int)), some (aI (h)), some (aI (bi (b || (!decide (((Sq R s i : Nat) : Int) ≠ (h)))))), some (aI ((i + 1 : Nat) : Int))]) rfl rfl rfl (by omega) (by omega) rfl ?_
      refine E_s (p' := 19) rfl rfl ?_
      exact ih (i + 1) _ (by omega) (by omega) (by rw [hz]; simp [hld])
theorem c_holds (hR : isR a) (hC : CR R a m) (hV : VR R) (hs : s < Sn R) (q : Q (some (aI (bi (hld R s h (Sp R s))))) (m, tl len)) : E 78 0 [some (aA (a + 9)), some (aI ((s : Nat) : Int)), some (aI (h)), none, none] [] (m, tl len) Q := by
  have hs40 := hV.2.2.2.2.1
  have hab := isR_b hR
  have hp12 := (hV.2.2.2.2.2.1 s hs).2
  refine E_s (p' := 1) (st' := aA (a + 9) :: _) rfl rfl ?_
  refine E_gA (b := a + 10) rfl rfl rfl (kR_9 hR) (hR_9_0 hR) rfl ?_
  refine E_s (p' := 5) (st' := aI ((s : Nat) : Int) :: _) rfl rfl ?_
  refine E_ald (e := s) (N := 40) (v := ((Sw R s : Nat) : Int)) rfl (kR_10 hR) (rfl) (by omega) (CR_10 hC (by omega)) ?_
  refine E_s (p' := 7) (st' := aI (h) :: _) rfl rfl ?_
  suffices h_1 : E 78 15 [some (aA (a + 9)), some (aI ((s : Nat) : Int)), some (aI (h)), none, none] [aI (bi (!decide (((Sw R s : Nat) : Int) ≠ (h))))] (m, tl len) Q by
    refine E_icmp_ne (x := ((Sw R s : Nat) : Int)) (y := (h)) rfl (by decide) (fun h_2 => ?_) (fun h_2 => ?_)
    · refine E_go (p' := 14) (L' := [some (aA (a + 9)), some (aI ((s : Nat) : Int)), some (aI (h)), none, none]) (st' := []) rfl rfl rfl ?_
      refine E_s (p' := 15) (st' := aI 0 :: _) rfl rfl ?_
      rw [decide_eq_true (p := ((Sw R s : Nat) : Int) ≠ (h)) (by omega)] at h_1
      exact h_1
    · refine E_go (p' := 10) (L' := [some (aA (a + 9)), some (aI ((s : Nat) : Int)), some (aI (h)), none, none]) (st' := []) rfl rfl rfl ?_
      refine E_s (p' := 11) (st' := aI 1 :: _) rfl rfl ?_
      refine E_s (p' := 15) rfl rfl ?_
      rw [decide_eq_false (p := ((Sw R s : Nat) : Int) ≠ (h)) (by omega)] at h_1
      exact h_1
  refine E_s (p' := 16) (L' := [some (aA (a + 9)), some (aI ((s : Nat) : Int)), some (aI (h)), some (aI (bi (!decide (((Sw R s : Nat) : Int) ≠ (h))))), none]) rfl rfl ?_
  refine E_s (p' := 17) (st' := aI 0 :: _) rfl rfl ?_
  refine E_s (p' := 19) (L' := [some (aA (a + 9)), some (aI ((s : Nat) : Int)), some (aI (h)), some (aI (bi (!decide (((Sw R s : Nat) : Int) ≠ (h))))), some (aI 0)]) rfl rfl ?_
  exact yl_holds hR hC hV hs q (Sp R s + 1) 0 _ (by omega) (by omega) (by simp [hld])
theorem c_addPart (hR : isR a) (hC : CR R a m) (hV : VR R) (hs : s < Sn R) {c : Nat} (hp : Sp R s < 12) (q : ∀ m1, CR (Rsm R (Sn R) (Sw R) (upf (Sp R) s (Sp R s + 1)) (upf (Sq R) s (upf (Sq R s) (Sp R s) c))) a m1 → Fx (a + 11) (a + 12) m m1 → Q none (m1, tl len)) : E 80 0 [some (aA (a + 9)), some (aI ((s : Nat) : Int)), some (aI ((c : Nat) : Int))] [] (m, tl len) Q := by
  have hs40 := hV.2.2.2.2.1
  have hab := isR_b hR
  have hp12 := (hV.2.2.2.2.2.1 s hs).2
  refine E_s (p' := 1) (st' := aA (a + 9) :: _) rfl rfl ?_
  refine E_gA (b := a + 12) rfl rfl rfl (kR_9 hR) (hR_9_2 hR) rfl ?_
  refine E_s (p' := 5) (st' := aI ((s : Nat) : Int) :: _) rfl rfl ?_
  refine E_s (p' := 7) (st' := aI 12 :: _) rfl rfl ?_
  refine E_mul (v := ((12 * s : Nat) : Int)) rfl (by omega) (by omega) ?_
  refine E_s (p' := 9) (st' := aA (a + 9) :: _) rfl rfl ?_
  refine E_gA (b := a + 11) rfl rfl rfl (kR_9 hR) (hR_9_1 hR) rfl ?_
  refine E_s (p' := 13) (st' := aI ((s : Nat) : Int) :: _) rfl rfl ?_
  refine E_ald (e := s) (N := 40) (v := ((Sp R s : Nat) : Int)) rfl (kR_11 hR) (rfl) (by omega) (CR_11 hC (by omega)) ?_
  refine E_add (v := ((12 * s + Sp R s : Nat) : Int)) rfl (by omega) (by omega) ?_
  refine E_s (p' := 16) (st' := aI ((c : Nat) : Int) :: _) rfl rfl ?_
  refine E_ast (e := 12 * s + Sp R s) (N := 480) rfl (kR_12 hR) (rfl) (by omega) ?_
  refine E_s (p' := 18) (st' := aA (a + 9) :: _) rfl rfl ?_
  refine E_gA (b := a + 11) rfl rfl rfl (kR_9 hR) (hR_9_1 hR) rfl ?_
  refine E_s (p' := 22) (st' := aI ((s : Nat) : Int) :: _) rfl rfl ?_
  refine E_s (p' := 23) rfl rfl ?_
  refine E_ald (e := s) (N := 40) (v := ((Sp R s : Nat) : Int)) rfl (kR_11 hR) (rfl) (by omega) ((up2_ne (by omega)).trans ((CR_11 hC (by omega)))) ?_
  refine E_s (p' := 25) (st' := aI 1 :: _) rfl rfl ?_
  refine E_add (v := ((Sp R s + 1 : Nat) : Int)) rfl (by omega) (by omega) ?_
  refine E_ast (e := s) (N := 40) rfl (kR_11 hR) (rfl) (by omega) ?_
  refine E_ret rfl rfl ?_
  refine q _ (CR.sm hC (((up2_ne (by omega)).trans (up2_ne (by omega))).trans (CRS hC)) (fun t ht => ?_) (fun t k ht hk => ?_) (fun b j h1 h2 h3 => ((up2_ne (by omega)).trans (up2_ne (by omega))))) (fun b j hb => ((up2_ne (by omega)).trans (up2_ne (by omega))))
  · refine ⟨((up2_ne (by omega)).trans (up2_ne (by omega))).trans (CR_10 hC ht), ?_⟩
    by_cases g : t = s
    · subst g; rw [upf_eq]; exact up2_eq
    · rw [upf_ne g]; exact ((up2_sl g).trans (up2_ne (by omega))).trans (CR_11 hC ht)
  · refine (up2_ne (by omega)).trans ?_
    by_cases g : t = s
    · subst g
      rw [upf_eq] at hk
      rw [upf_eq]
      by_cases g2 : k = Sp R t
      · subst g2; rw [upf_eq]; exact up2_eq
      · rw [upf_ne g2]; exact (up2_sl (by omega)).trans (CR_12 hC ht (by omega) rfl)
    · rw [upf_ne g] at hk
      rw [upf_ne g]
      have := (hV.2.2.2.2.2.1 t ht).2
      exact (up2_sl (by omega)).trans (CR_12 hC ht hk rfl)
end
section
variable {len : Nat} {m0 : Mm} {Q : Option AV → Sx → Prop} {t l f n N1 N2 : Nat}
theorem l_takeRow (ht : kd t = (1, N1)) (hl : kd l = (1, N2)) (hf1 : f + n ≤ N1) (hf2 : f + n ≤ N2) (hN : N1 ≤ 100000) (q : ∀ (b : Bool) (m1 : Mm), Fx t t m0 m1 → (∀ j, j < f ∨ f + n ≤ j → m1 t j = m0 t j) → (∀ j, f ≤ j → j < f + n → m1 t j = m0 l j) → (b = false → ∀ j, m1 t j = m0 t j) → Q (some (aI (bi b))) (m1, tl len)) : ∀ (d : Nat) (i : Nat) (b : Bool) (m : Mm), (f + n < i + d) → (f ≤ i ∧ i ≤ f + n) → (Fx t t m0 m) → (∀ j, j < f ∨ i ≤ j → m t j = m0 t j) → (∀ j, f ≤ j → j < i → m t j = m0 l j) → (b = false → ∀ j, m t j = m0 t j) → E 65 6 [some (aA t), some (aA l), some (aI ((f : Nat) : Int)), some (aI ((n : Nat) : Int)), some (aI (bi b)), some (aI ((i : Nat) : Int))] [] (m, tl len) Q := by
  intro d
  induction d with
  | zero => intro i b m hd hi hF ho hw hb; omega
  | succ d ih =>
    intro i b m hd hi hF ho hw hb
    refine E_s (p' := 8) (st' := aI ((i : Nat) : Int) :: _) rfl rfl ?_
    refine E_s (p' := 9) (st' := aI ((f : Nat) : Int) :: _) rfl rfl ?_
    refine E_s (p' := 10) (st' := aI ((n : Nat) : Int) :: _) rfl rfl ?_
    refine E_add (v := ((f + n : Nat) : Int)) rfl (by omega) (by omega) ?_
    refine E_icmp_ge (x := ((i : Nat) : Int)) (y := ((f + n : Nat) : Int)) rfl (by decide) (fun h_1 => ?_) (fun h_1 => ?_)
    · refine E_go (p' := 49) (L' := [some (aA t), some (aA l), some (aI ((f : Nat) : Int)), some (aI ((n : Nat) : Int)), some (aI (bi b)), some (aI ((i : Nat) : Int))]) (st' := []) rfl rfl rfl ?_
      refine E_s (p' := 51) (st' := aI (bi b) :: _) rfl rfl ?_
      refine E_retB rfl rfl (bi01 _) ?_
      have ei : i = f + n := by omega
      subst ei
      exact q b m hF ho hw hb
    · refine E_go (p' := 14) (L' := [some (aA t), some (aA l), some (aI ((f : Nat) : Int)), some (aI ((n : Nat) : Int)), some (aI (bi b)), some (aI ((i : Nat) : Int))]) (st' := []) rfl rfl rfl ?_
      have hml : m l i = m0 l i := by
        by_cases g : l = t
        · subst g; exact ho i (by omega)
        · exact hF l i (by omega)
      refine E_s (p' := 16) (st' := aI (bi b) :: _) rfl rfl ?_
      refine E_s (p' := 17) (st' := aA t :: _) rfl rfl ?_
      refine E_s (p' := 19) (st' := aI ((i : Nat) : Int) :: _) rfl rfl ?_
      refine E_ald (e := i) (N := N1) (v := ((m t i))) rfl ht (rfl) (by omega) rfl ?_
      refine E_s (p' := 21) (st' := aA l :: _) rfl rfl ?_
      refine E_s (p' := 23) (st' := aI ((i : Nat) : Int) :: _) rfl rfl ?_
      refine E_ald (e := i) (N := N2) (v := ((m l i))) rfl hl (rfl) (by omega) rfl ?_
      suffices h_2 : E 65 32 [some (aA t), some (aA l), some (aI ((f : Nat) : Int)), some (aI ((n : Nat) : Int)), some (aI (bi b)), some (aI ((i : Nat) : Int))] [aI (bi (!decide (((m t i)) = ((m l i))))), aI (bi b)] (m, tl len) Q by
        refine E_icmp_eq (x := ((m t i))) (y := ((m l i))) rfl (by decide) (fun h_3 => ?_) (fun h_3 => ?_)
        · refine E_go (p' := 31) (L' := [some (aA t), some (aA l), some (aI ((f : Nat) : Int)), some (aI ((n : Nat) : Int)), some (aI (bi b)), some (aI ((i : Nat) : Int))]) (st' := [aI (bi b)]) rfl rfl rfl ?_
          refine E_s (p' := 32) (st' := aI 0 :: _) rfl rfl ?_
          rw [decide_eq_true (p := ((m t i)) = ((m l i))) (by omega)] at h_2
          exact h_2
        · refine E_go (p' := 27) (L' := [some (aA t), some (aA l), some (aI ((f : Nat) : Int)), some (aI ((n : Nat) : Int)), some (aI (bi b)), some (aI ((i : Nat) : Int))]) (st' := [aI (bi b)]) rfl rfl rfl ?_
          refine E_s (p' := 28) (st' := aI 1 :: _) rfl rfl ?_
          refine E_s (p' := 32) rfl rfl ?_
          rw [decide_eq_false (p := ((m t i)) = ((m l i))) (by omega)] at h_2
          exact h_2
      refine E_orb (x := b) (y := (!decide (((m t i)) = ((m l i))))) rfl ?_
      refine E_s (p' := 35) (L' := [some (aA t), some (aA l), some (aI ((f : Nat) : Int)), some (aI ((n : Nat) : Int)), some (aI (bi (b || (!decide (((m t i)) = ((m l i))))))), some (aI ((i : Nat) : Int))]) rfl rfl ?_
      refine E_s (p' := 36) (st' := aA t :: _) rfl rfl ?_
      refine E_s (p' := 38) (st' := aI ((i : Nat) : Int) :: _) rfl rfl ?_
      refine E_s (p' := 39) (st' := aA l :: _) rfl rfl ?_
      refine E_s (p' := 41) (st' := aI ((i : Nat) : Int) :: _) rfl rfl ?_
      refine E_ald (e := i) (N := N2) (v := ((m l i))) rfl hl (rfl) (by omega) rfl ?_
      refine E_ast (e := i) (N := N1) rfl ht (rfl) (by omega) ?_
      refine E_inc (x := ((i : Nat) : Int)) (w := ((i + 1 : Nat) : Int)) (L' := [some (aA t), some (aA l), some (aI ((f : Nat) : Int)), some (aI ((n : Nat) : Int)), some (aI (bi (b || (!decide (((m t i)) = ((m l i))))))), some (aI ((i + 1 : Nat) : Int))]) rfl rfl rfl (by omega) (by omega) rfl ?_
      refine E_s (p' := 6) rfl rfl ?_
      refine ih (i + 1) _ _ (by omega) (by omega) (hF.up (by omega) (by omega)) (fun j hj => ?_) (fun j h1 h2 => ?_) (fun hb2 j => ?_)
      · exact (up2_sl (by omega)).trans (ho j (by omega))
      · by_cases g : j = i
        · subst g; exact up2_eq.trans hml
        · exact (up2_sl g).trans (hw j h1 (by omega))
      · have hb3 := Bool.or_eq_false_iff.mp hb2
        by_cases g : j = i
        · subst g
          have he : m t j = m l j := by have := hb3.2; simpa using this
          exact up2_eq.trans (he.symm.trans (hb hb3.1 j))
        · exact (up2_sl g).trans (hb hb3.1 j)
theorem c_takeRow (ht : kd t = (1, N1)) (hl : kd l = (1, N2)) (hf1 : f + n ≤ N1) (hf2 : f + n ≤ N2) (hN : N1 ≤ 100000) (q : ∀ (b : Bool) (m1 : Mm), Fx t t m0 m1 → (∀ j, j < f ∨ f + n ≤ j → m1 t j = m0 t j) → (∀ j, f ≤ j → j < f + n → m1 t j = m0 l j) → (b = false → ∀ j, m1 t j = m0 t j) → Q (some (aI (bi b))) (m1, tl len)) : E 65 0 [some (aA t), some (aA l), some (aI ((f : Nat) : Int)), some (aI ((n : Nat) : Int)), none, none] [] (m0, tl len) Q := by
  refine E_s (p' := 1) (st' := aI 0 :: _) rfl rfl ?_
  refine E_s (p' := 3) (L' := [some (aA t), some (aA l), some (aI ((f : Nat) : Int)), some (aI ((n : Nat) : Int)), some (aI 0), none]) rfl rfl ?_
  refine E_s (p' := 4) (st' := aI ((f : Nat) : Int) :: _) rfl rfl ?_
  refine E_s (p' := 6) (L' := [some (aA t), some (aA l), some (aI ((f : Nat) : Int)), some (aI ((n : Nat) : Int)), some (aI 0), some (aI ((f : Nat) : Int))]) rfl rfl ?_
  exact l_takeRow ht hl hf1 hf2 hN q (n + 1) f false m0 (by omega) (by omega) Fx.rf (fun j _ => rfl) (fun j h1 h2 => absurd h1 (by omega)) (fun _ j => rfl)
end

theorem isR_2 {a l : Nat} (h : isR a) (h' : isR l) : l = a ∨ l + 26 ≤ a ∨ a + 26 ≤ l := by
  rcases h with rfl | rfl | rfl | rfl <;> rcases h' with rfl | rfl | rfl | rfl <;> decide
/-- the CORDS' part of CR -/
theorem CR.mk3 {R0 R : RD} {a : Nat} {m m' : Mm} (h : CR R0 a m) (hq : m' a 5 = (Cq R : Int)) (h1 : m' (a + 1) 7 = (Cn R : Int)) (h2 : ∀ c, c < Cn R → CC R a m' c) (h3 : ∀ c k, c < Cn R → k < Ck R c → m' (a + 8) (30 * c + k) = (Cp R c k : Int)) (h4 : m' (a + 9) 3 = (Sn R : Int)) (h5 : ∀ s, s < Sn R → m' (a + 10) s = (Sw R s : Int) ∧ m' (a + 11) s = (Sp R s : Int)) (h6 : ∀ s p, s < Sn R → p < Sp R s → m' (a + 12) (12 * s + p) = (Sq R s p : Int)) : CR R a m' := ⟨h1, hq, h2, h3, h4, h5, h6⟩
section
variable {len : Nat} {m0 : Mm} {Q : Option AV → Sx → Prop} {R : RD} {a l : Nat}
theorem l_blc (hR : isR a) (hL : isR l) (hC : CR R l m0) (hV : VR R) (q : ∀ (b : Bool) (m1 : Mm), Fx (a + 1) (a + 8) m0 m1 → m1 (a + 1) 7 = (Cn R : Int) → (∀ c, c < Cn R → CC R a m1 c) → (∀ c k, c < Cn R → k < Ck R c → m1 (a + 8) (30 * c + k) = (Cp R c k : Int)) → (b = false → ∀ p j, a + 1 ≤ p → p ≤ a + 8 → m1 p j = m0 p j) → Q (some (aI (bi b))) (m1, tl len)) : ∀ (d : Nat) (i : Nat) (b : Bool) (m : Mm), (Cn R < i + d) → (i ≤ Cn R) → (Fx (a + 1) (a + 8) m0 m) → (m (a + 1) 7 = (Cn R : Int)) → (∀ c, c < Cn R → CC R a m c) → (∀ c k, c < i → k < Ck R c → m (a + 8) (30 * c + k) = (Cp R c k : Int)) → (∀ j, 30 * i ≤ j → m (a + 8) j = m0 (a + 8) j) → (b = false → ∀ p j, a + 1 ≤ p → p ≤ a + 8 → m p j = m0 p j) → E 64 141 [some (aA (a + 1)), some (aA (l + 1)), some (aI (bi b)), some (aI ((i : Nat) : Int))] [] (m, tl len) Q := by
  intro d
  induction d with
  | zero => intro i b m hd hi h1 h2 h3 h4 h5 h6; omega
  | succ d ih =>
    intro i b m hd hi h1 h2 h3 h4 h5 h6
    have hn60 := hV.1
    have hal := isR_2 hR hL
    have hab := isR_b hR
    refine E_s (p' := 142) (st' := aI ((i : Nat) : Int) :: _) rfl rfl ?_
    refine E_s (p' := 143) (st' := aA (a + 1) :: _) rfl rfl ?_
    refine E_gI (v := ((Cn R : Nat) : Int)) rfl rfl rfl (kR_1 hR) h2 ?_
    refine E_icmp_ge (x := ((i : Nat) : Int)) (y := ((Cn R : Nat) : Int)) rfl (by decide) (fun h_1 => ?_) (fun h_1 => ?_)
    · refine E_go (p' := 179) (L' := [some (aA (a + 1)), some (aA (l + 1)), some (aI (bi b)), some (aI ((i : Nat) : Int))]) (st' := []) rfl rfl rfl ?_
      refine E_s (p' := 180) (st' := aI (bi b) :: _) rfl rfl ?_
      refine E_retB rfl rfl (bi01 _) ?_
      have ei : i = Cn R := by omega
      subst ei
      exact q b m h1 h2 h3 h4 h6
    · refine E_go (p' := 149) (L' := [some (aA (a + 1)), some (aA (l + 1)), some (aI (bi b)), some (aI ((i : Nat) : Int))]) (st' := []) rfl rfl rfl ?_
      have hk30 := (hV.2.2.1 i (by omega)).2.2.2.2.2
      refine E_s (p' := 150) (st' := aI (bi b) :: _) rfl rfl ?_
      refine E_s (p' := 151) (st' := aA (a + 1) :: _) rfl rfl ?_
      refine E_gA (b := a + 8) rfl rfl rfl (kR_1 hR) (hR_1_6 hR) rfl ?_
      refine E_s (p' := 155) (st' := aA (l + 1) :: _) rfl rfl ?_
      refine E_gA (b := l + 8) rfl rfl rfl (kR_1 hL) (hR_1_6 hL) rfl ?_
      refine E_s (p' := 159) (st' := aI ((i : Nat) : Int) :: _) rfl rfl ?_
      refine E_s (p' := 161) (st' := aI 30 :: _) rfl rfl ?_
      refine E_mul (v := ((30 * i : Nat) : Int)) rfl (by omega) (by omega) ?_
      refine E_s (p' := 163) (st' := aA (a + 1) :: _) rfl rfl ?_
      refine E_gA (b := a + 7) rfl rfl rfl (kR_1 hR) (hR_1_5 hR) rfl ?_
      refine E_s (p' := 167) (st' := aI ((i : Nat) : Int) :: _) rfl rfl ?_
      refine E_ald (e := i) (N := 60) (v := ((Ck R i : Nat) : Int)) rfl (kR_7 hR) (rfl) (by omega) (h3 _ (by omega)).2.2.2.2.2 ?_
      refine E_callL (p' := 171) (L0 := [some (aA (a + 8)), some (aA (l + 8)), some (aI ((30 * i : Nat) : Int)), some (aI ((Ck R i : Nat) : Int)), none, none]) rfl rfl rfl ?_
      refine c_takeRow (f := 30 * i) (n := Ck R i) (N1 := 1800) (N2 := 1800) (kR_8 hR) (kR_8 hL) (by omega) (by omega) (by decide) (fun b1 m1 hF1 ho1 hw1 hb1 => ?_)
      refine E_go (p' := 171) (L' := [some (aA (a + 1)), some (aA (l + 1)), some (aI (bi b)), some (aI ((i : Nat) : Int))]) (st' := [aI (bi b1), aI (bi b)]) rfl rfl rfl ?_
      refine E_orb (x := b) (y := b1) rfl ?_
      refine E_s (p' := 173) (L' := [some (aA (a + 1)), some (aA (l + 1)), some (aI (bi (b || b1))), some (aI ((i : Nat) : Int))]) rfl rfl ?_
      refine E_inc (x := ((i : Nat) : Int)) (w := ((i + 1 : Nat) : Int)) (L' := [some (aA (a + 1)), some (aA (l + 1)), some (aI (bi (b || b1))), some (aI ((i + 1 : Nat) : Int))]) rfl rfl rfl (by omega) (by omega) rfl ?_
      refine E_s (p' := 141) rfl rfl ?_
      refine ih (i + 1) _ m1 (by omega) (by omega) (fun p j hp => (hF1 p j (by omega)).trans (h1 p j hp)) ((hF1 _ _ (by omega)).trans h2) (fun c hc => ?_) (fun c k hc hk => ?_) (fun j hj => ?_) (fun hb9 p j hp1 hp2 => ?_)
      · obtain ⟨g1, g2, g3, g4, g5, g6⟩ := h3 c hc
        exact ⟨(hF1 _ _ (by omega)).trans g1, (hF1 _ _ (by omega)).trans g2, (hF1 _ _ (by omega)).trans g3, (hF1 _ _ (by omega)).trans g4, (hF1 _ _ (by omega)).trans g5, (hF1 _ _ (by omega)).trans g6⟩
      · by_cases g : c = i
        · subst g
          refine (hw1 _ (by omega) (by omega)).trans (Eq.trans ?_ (CR_8 hC (by omega) hk rfl))
          rcases hal with e | e
          · subst e; exact h5 _ (by omega)
          · exact h1 _ _ (by omega)
        · have := (hV.2.2.1 c (by omega)).2.2.2.2.2
          exact (ho1 _ (by omega)).trans (h4 c k (by omega) hk)
      · exact (ho1 _ (by omega)).trans (h5 j (by omega))
      · have hb3 := Bool.or_eq_false_iff.mp hb9
        by_cases g : p = a + 8
        · subst g; exact (hb1 hb3.2 j).trans (h6 hb3.1 _ j hp1 hp2)
        · exact (hF1 _ _ (by omega)).trans (h6 hb3.1 p j hp1 hp2)
theorem c_becomeC (hR : isR a) (hL : isR l) (hC : CR R l m0) (hV : VR R) (q : ∀ (b : Bool) (m1 : Mm), Fx (a + 1) (a + 8) m0 m1 → m1 (a + 1) 7 = (Cn R : Int) → (∀ c, c < Cn R → CC R a m1 c) → (∀ c k, c < Cn R → k < Ck R c → m1 (a + 8) (30 * c + k) = (Cp R c k : Int)) → (b = false → ∀ p j, a + 1 ≤ p → p ≤ a + 8 → m1 p j = m0 p j) → Q (some (aI (bi b))) (m1, tl len)) : E 64 0 [some (aA (a + 1)), some (aA (l + 1)), none, none] [] (m0, tl len) Q := by
  have hn60 := hV.1
  have hal := isR_2 hR hL
  have hab := isR_b hR
  refine E_s (p' := 1) (st' := aA (a + 1) :: _) rfl rfl ?_
  refine E_gI (v := ((m0 (a + 1) 7))) rfl rfl rfl (kR_1 hR) rfl ?_
  refine E_s (p' := 5) (st' := aA (l + 1) :: _) rfl rfl ?_
  refine E_gI (v := ((Cn R : Nat) : Int)) rfl rfl rfl (kR_1 hL) hC.1 ?_
  suffices h_1 : E 64 16 [some (aA (a + 1)), some (aA (l + 1)), none, none] [aI (bi (!decide (((m0 (a + 1) 7)) = ((Cn R : Nat) : Int))))] (m0, tl len) Q by
    refine E_icmp_eq (x := ((m0 (a + 1) 7))) (y := ((Cn R : Nat) : Int)) rfl (by decide) (fun h_2 => ?_) (fun h_2 => ?_)
    · refine E_go (p' := 15) (L' := [some (aA (a + 1)), some (aA (l + 1)), none, none]) (st' := []) rfl rfl rfl ?_
      refine E_s (p' := 16) (st' := aI 0 :: _) rfl rfl ?_
      rw [decide_eq_true (p := ((m0 (a + 1) 7)) = ((Cn R : Nat) : Int)) (by omega)] at h_1
      exact h_1
    · refine E_go (p' := 11) (L' := [some (aA (a + 1)), some (aA (l + 1)), none, none]) (st' := []) rfl rfl rfl ?_
      refine E_s (p' := 12) (st' := aI 1 :: _) rfl rfl ?_
      refine E_s (p' := 16) rfl rfl ?_
      rw [decide_eq_false (p := ((m0 (a + 1) 7)) = ((Cn R : Nat) : Int)) (by omega)] at h_1
      exact h_1
  refine E_s (p' := 17) (L' := [some (aA (a + 1)), some (aA (l + 1)), some (aI (bi (!decide (((m0 (a + 1) 7)) = ((Cn R : Nat) : Int))))), none]) rfl rfl ?_
  refine E_s (p' := 18) (st' := aA (a + 1) :: _) rfl rfl ?_
  refine E_s (p' := 19) (st' := aA (l + 1) :: _) rfl rfl ?_
  refine E_gI (v := ((Cn R : Nat) : Int)) rfl rfl rfl (kR_1 hL) hC.1 ?_
  refine E_pI rfl rfl rfl (kR_1 hR) (Or.inl rfl) ?_
  refine E_s (p' := 26) (st' := aI (bi (!decide (((m0 (a + 1) 7)) = ((Cn R : Nat) : Int)))) :: _) rfl rfl ?_
  refine E_s (p' := 27) (st' := aA (a + 1) :: _) rfl rfl ?_
  refine E_gA (b := a + 2) rfl rfl rfl (kR_1 hR) (hR_1_0 hR) rfl ?_
  refine E_s (p' := 31) (st' := aA (l + 1) :: _) rfl rfl ?_
  refine E_gA (b := l + 2) rfl rfl rfl (kR_1 hL) (hR_1_0 hL) rfl ?_
  refine E_s (p' := 35) (st' := aI 0 :: _) rfl rfl ?_
  refine E_s (p' := 36) (st' := aA (a + 1) :: _) rfl rfl ?_
  refine E_gI (v := ((Cn R : Nat) : Int)) rfl rfl rfl (kR_1 hR) up2_eq ?_
  refine E_callL (p' := 42) (L0 := [some (aA (a + 2)), some (aA (l + 2)), some (aI 0), some (aI ((Cn R : Nat) : Int)), none, none]) rfl rfl rfl ?_
  refine c_takeRow (f := 0) (n := Cn R) (N1 := 60) (N2 := 60) (kR_2 hR) (kR_2 hL) (by omega) (by omega) (by decide) (fun b1 m1 hF1 ho1 hw1 hb1 => ?_)
  refine E_go (p' := 42) (L' := [some (aA (a + 1)), some (aA (l + 1)), some (aI (bi (!decide (((m0 (a + 1) 7)) = ((Cn R : Nat) : Int))))), none]) (st' := [aI (bi b1), aI (bi (!decide (((m0 (a + 1) 7)) = ((Cn R : Nat) : Int))))]) rfl rfl rfl ?_
  refine E_orb (x := (!decide (((m0 (a + 1) 7)) = ((Cn R : Nat) : Int)))) (y := b1) rfl ?_
  refine E_s (p' := 44) (L' := [some (aA (a + 1)), some (aA (l + 1)), some (aI (bi ((!decide (((m0 (a + 1) 7)) = ((Cn R : Nat) : Int))) || b1))), none]) rfl rfl ?_
  refine E_s (p' := 45) (st' := aI (bi ((!decide (((m0 (a + 1) 7)) = ((Cn R : Nat) : Int))) || b1)) :: _) rfl rfl ?_
  refine E_s (p' := 46) (st' := aA (a + 1) :: _) rfl rfl ?_
  refine E_gA (b := a + 3) rfl rfl rfl (kR_1 hR) (hR_1_1 hR) rfl ?_
  refine E_s (p' := 50) (st' := aA (l + 1) :: _) rfl rfl ?_
  refine E_gA (b := l + 3) rfl rfl rfl (kR_1 hL) (hR_1_1 hL) rfl ?_
  refine E_s (p' := 54) (st' := aI 0 :: _) rfl rfl ?_
  refine E_s (p' := 55) (st' := aA (a + 1) :: _) rfl rfl ?_
  refine E_gI (v := ((Cn R : Nat) : Int)) rfl rfl rfl (kR_1 hR) ((hF1 _ _ (by omega)).trans (up2_eq)) ?_
  refine E_callL (p' := 61) (L0 := [some (aA (a + 3)), some (aA (l + 3)), some (aI 0), some (aI ((Cn R : Nat) : Int)), none, none]) rfl rfl rfl ?_
  refine c_takeRow (f := 0) (n := Cn R) (N1 := 60) (N2 := 60) (kR_3 hR) (kR_3 hL) (by omega) (by omega) (by decide) (fun b2 m2 hF2 ho2 hw2 hb2 => ?_)
  refine E_go (p' := 61) (L' := [some (aA (a + 1)), some (aA (l + 1)), some (aI (bi ((!decide (((m0 (a + 1) 7)) = ((Cn R : Nat) : Int))) || b1))), none]) (st' := [aI (bi b2), aI (bi ((!decide (((m0 (a + 1) 7)) = ((Cn R : Nat) : Int))) || b1))]) rfl rfl rfl ?_
  refine E_orb (x := ((!decide (((m0 (a + 1) 7)) = ((Cn R : Nat) : Int))) || b1)) (y := b2) rfl ?_
  refine E_s (p' := 63) (L' := [some (aA (a + 1)), some (aA (l + 1)), some (aI (bi (((!decide (((m0 (a + 1) 7)) = ((Cn R : Nat) : Int))) || b1) || b2))), none]) rfl rfl ?_
  refine E_s (p' := 64) (st' := aI (bi (((!decide (((m0 (a + 1) 7)) = ((Cn R : Nat) : Int))) || b1) || b2)) :: _) rfl rfl ?_
  refine E_s (p' := 65) (st' := aA (a + 1) :: _) rfl rfl ?_
  refine E_gA (b := a + 4) rfl rfl rfl (kR_1 hR) (hR_1_2 hR) rfl ?_
  refine E_s (p' := 69) (st' := aA (l + 1) :: _) rfl rfl ?_
  refine E_gA (b := l + 4) rfl rfl rfl (kR_1 hL) (hR_1_2 hL) rfl ?_
  refine E_s (p' := 73) (st' := aI 0 :: _) rfl rfl ?_
  refine E_s (p' := 74) (st' := aA (a + 1) :: _) rfl rfl ?_
  refine E_gI (v := ((Cn R : Nat) : Int)) rfl rfl rfl (kR_1 hR) ((hF2 _ _ (by omega)).trans ((hF1 _ _ (by omega)).trans (up2_eq))) ?_
  refine E_callL (p' := 80) (L0 := [some (aA (a + 4)), some (aA (l + 4)), some (aI 0), some (aI ((Cn R : Nat) : Int)), none, none]) rfl rfl rfl ?_
  refine c_takeRow (f := 0) (n := Cn R) (N1 := 60) (N2 := 60) (kR_4 hR) (kR_4 hL) (by omega) (by omega) (by decide) (fun b3 m3 hF3 ho3 hw3 hb3 => ?_)
  refine E_go (p' := 80) (L' := [some (aA (a + 1)), some (aA (l + 1)), some (aI (bi (((!decide (((m0 (a + 1) 7)) = ((Cn R : Nat) : Int))) || b1) || b2))), none]) (st' := [aI (bi b3), aI (bi (((!decide (((m0 (a + 1) 7)) = ((Cn R : Nat) : Int))) || b1) || b2))]) rfl rfl rfl ?_
  refine E_orb (x := (((!decide (((m0 (a + 1) 7)) = ((Cn R : Nat) : Int))) || b1) || b2)) (y := b3) rfl ?_
  refine E_s (p' := 82) (L' := [some (aA (a + 1)), some (aA (l + 1)), some (aI (bi ((((!decide (((m0 (a + 1) 7)) = ((Cn R : Nat) : Int))) || b1) || b2) || b3))), none]) rfl rfl ?_
  refine E_s (p' := 83) (st' := aI (bi ((((!decide (((m0 (a + 1) 7)) = ((Cn R : Nat) : Int))) || b1) || b2) || b3)) :: _) rfl rfl ?_
  refine E_s (p' := 84) (st' := aA (a + 1) :: _) rfl rfl ?_
  refine E_gA (b := a + 5) rfl rfl rfl (kR_1 hR) (hR_1_3 hR) rfl ?_
  refine E_s (p' := 88) (st' := aA (l + 1) :: _) rfl rfl ?_
  refine E_gA (b := l + 5) rfl rfl rfl (kR_1 hL) (hR_1_3 hL) rfl ?_
  refine E_s (p' := 92) (st' := aI 0 :: _) rfl rfl ?_
  refine E_s (p' := 93) (st' := aA (a + 1) :: _) rfl rfl ?_
  refine E_gI (v := ((Cn R : Nat) : Int)) rfl rfl rfl (kR_1 hR) ((hF3 _ _ (by omega)).trans ((hF2 _ _ (by omega)).trans ((hF1 _ _ (by omega)).trans (up2_eq)))) ?_
  refine E_callL (p' := 99) (L0 := [some (aA (a + 5)), some (aA (l + 5)), some (aI 0), some (aI ((Cn R : Nat) : Int)), none, none]) rfl rfl rfl ?_
  refine c_takeRow (f := 0) (n := Cn R) (N1 := 60) (N2 := 60) (kR_5 hR) (kR_5 hL) (by omega) (by omega) (by decide) (fun b4 m4 hF4 ho4 hw4 hb4 => ?_)
  refine E_go (p' := 99) (L' := [some (aA (a + 1)), some (aA (l + 1)), some (aI (bi ((((!decide (((m0 (a + 1) 7)) = ((Cn R : Nat) : Int))) || b1) || b2) || b3))), none]) (st' := [aI (bi b4), aI (bi ((((!decide (((m0 (a + 1) 7)) = ((Cn R : Nat) : Int))) || b1) || b2) || b3))]) rfl rfl rfl ?_
  refine E_orb (x := ((((!decide (((m0 (a + 1) 7)) = ((Cn R : Nat) : Int))) || b1) || b2) || b3)) (y := b4) rfl ?_
  refine E_s (p' := 101) (L' := [some (aA (a + 1)), some (aA (l + 1)), some (aI (bi (((((!decide (((m0 (a + 1) 7)) = ((Cn R : Nat) : Int))) || b1) || b2) || b3) || b4))), none]) rfl rfl ?_
  refine E_s (p' := 102) (st' := aI (bi (((((!decide (((m0 (a + 1) 7)) = ((Cn R : Nat) : Int))) || b1) || b2) || b3) || b4)) :: _) rfl rfl ?_
  refine E_s (p' := 103) (st' := aA (a + 1) :: _) rfl rfl ?_
  refine E_gA (b := a + 6) rfl rfl rfl (kR_1 hR) (hR_1_4 hR) rfl ?_
  refine E_s (p' := 107) (st' := aA (l + 1) :: _) rfl rfl ?_
  refine E_gA (b := l + 6) rfl rfl rfl (kR_1 hL) (hR_1_4 hL) rfl ?_
  refine E_s (p' := 111) (st' := aI 0 :: _) rfl rfl ?_
  refine E_s (p' := 112) (st' := aA (a + 1) :: _) rfl rfl ?_
  refine E_gI (v := ((Cn R : Nat) : Int)) rfl rfl rfl (kR_1 hR) ((hF4 _ _ (by omega)).trans ((hF3 _ _ (by omega)).trans ((hF2 _ _ (by omega)).trans ((hF1 _ _ (by omega)).trans (up2_eq))))) ?_
  refine E_callL (p' := 118) (L0 := [some (aA (a + 6)), some (aA (l + 6)), some (aI 0), some (aI ((Cn R : Nat) : Int)), none, none]) rfl rfl rfl ?_
  refine c_takeRow (f := 0) (n := Cn R) (N1 := 60) (N2 := 60) (kR_6 hR) (kR_6 hL) (by omega) (by omega) (by decide) (fun b5 m5 hF5 ho5 hw5 hb5 => ?_)
  refine E_go (p' := 118) (L' := [some (aA (a + 1)), some (aA (l + 1)), some (aI (bi (((((!decide (((m0 (a + 1) 7)) = ((Cn R : Nat) : Int))) || b1) || b2) || b3) || b4))), none]) (st' := [aI (bi b5), aI (bi (((((!decide (((m0 (a + 1) 7)) = ((Cn R : Nat) : Int))) || b1) || b2) || b3) || b4))]) rfl rfl rfl ?_
  refine E_orb (x := (((((!decide (((m0 (a + 1) 7)) = ((Cn R : Nat) : Int))) || b1) || b2) || b3) || b4)) (y := b5) rfl ?_
  refine E_s (p' := 120) (L' := [some (aA (a + 1)), some (aA (l + 1)), some (aI (bi ((((((!decide (((m0 (a + 1) 7)) = ((Cn R : Nat) : Int))) || b1) || b2) || b3) || b4) || b5))), none]) rfl rfl ?_
  refine E_s (p' := 121) (st' := aI (bi ((((((!decide (((m0 (a + 1) 7)) = ((Cn R : Nat) : Int))) || b1) || b2) || b3) || b4) || b5)) :: _) rfl rfl ?_
  refine E_s (p' := 122) (st' := aA (a + 1) :: _) rfl rfl ?_
  refine E_gA (b := a + 7) rfl rfl rfl (kR_1 hR) (hR_1_5 hR) rfl ?_
  refine E_s (p' := 126) (st' := aA (l + 1) :: _) rfl rfl ?_
  refine E_gA (b := l + 7) rfl rfl rfl (kR_1 hL) (hR_1_5 hL) rfl ?_
  refine E_s (p' := 130) (st' := aI 0 :: _) rfl rfl ?_
  refine E_s (p' := 131) (st' := aA (a + 1) :: _) rfl rfl ?_
  refine E_gI (v := ((Cn R : Nat) : Int)) rfl rfl rfl (kR_1 hR) ((hF5 _ _ (by omega)).trans ((hF4 _ _ (by omega)).trans ((hF3 _ _ (by omega)).trans ((hF2 _ _ (by omega)).trans ((hF1 _ _ (by omega)).trans (up2_eq)))))) ?_
  refine E_callL (p' := 137) (L0 := [some (aA (a + 7)), some (aA (l + 7)), some (aI 0), some (aI ((Cn R : Nat) : Int)), none, none]) rfl rfl rfl ?_
  refine c_takeRow (f := 0) (n := Cn R) (N1 := 60) (N2 := 60) (kR_7 hR) (kR_7 hL) (by omega) (by omega) (by decide) (fun b6 m6 hF6 ho6 hw6 hb6 => ?_)
  refine E_go (p' := 137) (L' := [some (aA (a + 1)), some (aA (l + 1)), some (aI (bi ((((((!decide (((m0 (a + 1) 7)) = ((Cn R : Nat) : Int))) || b1) || b2) || b3) || b4) || b5))), none]) (st' := [aI (bi b6), aI (bi ((((((!decide (((m0 (a + 1) 7)) = ((Cn R : Nat) : Int))) || b1) || b2) || b3) || b4) || b5))]) rfl rfl rfl ?_
  refine E_orb (x := ((((((!decide (((m0 (a + 1) 7)) = ((Cn R : Nat) : Int))) || b1) || b2) || b3) || b4) || b5)) (y := b6) rfl ?_
  refine E_s (p' := 139) (L' := [some (aA (a + 1)), some (aA (l + 1)), some (aI (bi (((((((!decide (((m0 (a + 1) 7)) = ((Cn R : Nat) : Int))) || b1) || b2) || b3) || b4) || b5) || b6))), none]) rfl rfl ?_
  refine E_s (p' := 140) (st' := aI 0 :: _) rfl rfl ?_
  refine E_s (p' := 141) (L' := [some (aA (a + 1)), some (aA (l + 1)), some (aI (bi (((((((!decide (((m0 (a + 1) 7)) = ((Cn R : Nat) : Int))) || b1) || b2) || b3) || b4) || b5) || b6))), some (aI 0)]) rfl rfl ?_
  have hal := isR_2 hR hL
  have hab := isR_b hR
  have hr1 : ∀ c, c < Cn R → m6 (a + 2) c = m0 (l + 2) c := fun c hc => (hF6 _ _ (by omega)).trans ((hF5 _ _ (by omega)).trans ((hF4 _ _ (by omega)).trans ((hF3 _ _ (by omega)).trans ((hF2 _ _ (by omega)).trans ((hw1 c (by omega) (by omega)).trans (up2_ne (by omega)))))))
  have hr2 : ∀ c, c < Cn R → m6 (a + 3) c = m0 (l + 3) c := fun c hc => (hF6 _ _ (by omega)).trans ((hF5 _ _ (by omega)).trans ((hF4 _ _ (by omega)).trans ((hF3 _ _ (by omega)).trans ((hw2 c (by omega) (by omega)).trans ((hF1 _ _ (by omega)).trans (up2_ne (by omega)))))))
  have hr3 : ∀ c, c < Cn R → m6 (a + 4) c = m0 (l + 4) c := fun c hc => (hF6 _ _ (by omega)).trans ((hF5 _ _ (by omega)).trans ((hF4 _ _ (by omega)).trans ((hw3 c (by omega) (by omega)).trans ((hF2 _ _ (by omega)).trans ((hF1 _ _ (by omega)).trans (up2_ne (by omega)))))))
  have hr4 : ∀ c, c < Cn R → m6 (a + 5) c = m0 (l + 5) c := fun c hc => (hF6 _ _ (by omega)).trans ((hF5 _ _ (by omega)).trans ((hw4 c (by omega) (by omega)).trans ((hF3 _ _ (by omega)).trans ((hF2 _ _ (by omega)).trans ((hF1 _ _ (by omega)).trans (up2_ne (by omega)))))))
  have hr5 : ∀ c, c < Cn R → m6 (a + 6) c = m0 (l + 6) c := fun c hc => (hF6 _ _ (by omega)).trans ((hw5 c (by omega) (by omega)).trans ((hF4 _ _ (by omega)).trans ((hF3 _ _ (by omega)).trans ((hF2 _ _ (by omega)).trans ((hF1 _ _ (by omega)).trans (up2_ne (by omega)))))))
  have hr6 : ∀ c, c < Cn R → m6 (a + 7) c = m0 (l + 7) c := fun c hc => (hw6 c (by omega) (by omega)).trans ((hF5 _ _ (by omega)).trans ((hF4 _ _ (by omega)).trans ((hF3 _ _ (by omega)).trans ((hF2 _ _ (by omega)).trans ((hF1 _ _ (by omega)).trans (up2_ne (by omega)))))))
  have hFx : Fx (a + 1) (a + 8) m0 m6 := fun p j hp => (hF6 _ _ (by omega)).trans ((hF5 _ _ (by omega)).trans ((hF4 _ _ (by omega)).trans ((hF3 _ _ (by omega)).trans ((hF2 _ _ (by omega)).trans ((hF1 _ _ (by omega)).trans (up2_ne (by omega)))))))
  have h8 : ∀ j, m6 (a + 8) j = m0 (a + 8) j := fun j => (hF6 _ _ (by omega)).trans ((hF5 _ _ (by omega)).trans ((hF4 _ _ (by omega)).trans ((hF3 _ _ (by omega)).trans ((hF2 _ _ (by omega)).trans ((hF1 _ _ (by omega)).trans (up2_ne (by omega)))))))
  have h17 : m6 (a + 1) 7 = (Cn R : Int) := (hF6 _ _ (by omega)).trans ((hF5 _ _ (by omega)).trans ((hF4 _ _ (by omega)).trans ((hF3 _ _ (by omega)).trans ((hF2 _ _ (by omega)).trans ((hF1 _ _ (by omega)).trans (up2_eq))))))
  refine l_blc hR hL hC hV q (Cn R + 1) 0 _ m6 (by omega) (by omega) hFx h17 (fun c hc => ⟨(hr1 c hc).trans (CR_2 hC hc), (hr2 c hc).trans (CR_3 hC hc), (hr3 c hc).trans (CR_4 hC hc), (hr4 c hc).trans (CR_5 hC hc), (hr5 c hc).trans (CR_6 hC hc), (hr6 c hc).trans (CR_7 hC hc)⟩) (fun c k hc => absurd hc (by omega)) (fun j _ => h8 j) (fun hb9 p j hp1 hp2 => ?_)
  simp only [Bool.or_eq_false_iff] at hb9
  obtain ⟨⟨⟨⟨⟨⟨c0, c1⟩, c2⟩, c3⟩, c4⟩, c5⟩, c6⟩ := hb9
  have hs0 : m0 (a + 1) 7 = (Cn R : Int) := by simpa using c0
  rcases (show p = a + 1 ∨ p = a + 2 ∨ p = a + 3 ∨ p = a + 4 ∨ p = a + 5 ∨ p = a + 6 ∨ p = a + 7 ∨ p = a + 8 by omega) with e | e | e | e | e | e | e | e
  · subst e
    refine (hF6 _ _ (by omega)).trans ((hF5 _ _ (by omega)).trans ((hF4 _ _ (by omega)).trans ((hF3 _ _ (by omega)).trans ((hF2 _ _ (by omega)).trans ((hF1 _ _ (by omega)).trans (?_))))))
    by_cases g : j = 7
    · subst g; exact up2_eq.trans hs0.symm
    · exact up2_sl g
  · subst e
    exact (hF6 _ _ (by omega)).trans ((hF5 _ _ (by omega)).trans ((hF4 _ _ (by omega)).trans ((hF3 _ _ (by omega)).trans ((hF2 _ _ (by omega)).trans ((hb1 c1 j).trans (up2_ne (by omega)))))))
  · subst e
    exact (hF6 _ _ (by omega)).trans ((hF5 _ _ (by omega)).trans ((hF4 _ _ (by omega)).trans ((hF3 _ _ (by omega)).trans ((hb2 c2 j).trans ((hF1 _ _ (by omega)).trans (up2_ne (by omega)))))))
  · subst e
    exact (hF6 _ _ (by omega)).trans ((hF5 _ _ (by omega)).trans ((hF4 _ _ (by omega)).trans ((hb3 c3 j).trans ((hF2 _ _ (by omega)).trans ((hF1 _ _ (by omega)).trans (up2_ne (by omega)))))))
  · subst e
    exact (hF6 _ _ (by omega)).trans ((hF5 _ _ (by omega)).trans ((hb4 c4 j).trans ((hF3 _ _ (by omega)).trans ((hF2 _ _ (by omega)).trans ((hF1 _ _ (by omega)).trans (up2_ne (by omega)))))))
  · subst e
    exact (hF6 _ _ (by omega)).trans ((hb5 c5 j).trans ((hF4 _ _ (by omega)).trans ((hF3 _ _ (by omega)).trans ((hF2 _ _ (by omega)).trans ((hF1 _ _ (by omega)).trans (up2_ne (by omega)))))))
  · subst e
    exact (hb6 c6 j).trans ((hF5 _ _ (by omega)).trans ((hF4 _ _ (by omega)).trans ((hF3 _ _ (by omega)).trans ((hF2 _ _ (by omega)).trans ((hF1 _ _ (by omega)).trans (up2_ne (by omega)))))))
  · subst e; exact h8 j
theorem l_bls (hR : isR a) (hL : isR l) (hC : CR R l m0) (hV : VR R) (q : ∀ (b : Bool) (m1 : Mm), Fx (a + 9) (a + 12) m0 m1 → m1 (a + 9) 3 = (Sn R : Int) → (∀ s, s < Sn R → m1 (a + 10) s = (Sw R s : Int) ∧ m1 (a + 11) s = (Sp R s : Int)) → (∀ s k, s < Sn R → k < Sp R s → m1 (a + 12) (12 * s + k) = (Sq R s k : Int)) → (b = false → ∀ p j, a + 9 ≤ p → p ≤ a + 12 → m1 p j = m0 p j) → Q (some (aI (bi b))) (m1, tl len)) : ∀ (d : Nat) (i : Nat) (b : Bool) (m : Mm), (Sn R < i + d) → (i ≤ Sn R) → (Fx (a + 9) (a + 12) m0 m) → (m (a + 9) 3 = (Sn R : Int)) → (∀ s, s < Sn R → m (a + 10) s = (Sw R s : Int) ∧ m (a + 11) s = (Sp R s : Int)) → (∀ s k, s < i → k < Sp R s → m (a + 12) (12 * s + k) = (Sq R s k : Int)) → (∀ j, 12 * i ≤ j → m (a + 12) j = m0 (a + 12) j) → (b = false → ∀ p j, a + 9 ≤ p → p ≤ a + 12 → m p j = m0 p j) → E 66 65 [some (aA (a + 9)), some (aA (l + 9)), some (aI (bi b)), some (aI ((i : Nat) : Int))] [] (m, tl len) Q := by
  intro d
  induction d with
  | zero => intro i b m hd hi h1 h2 h3 h4 h5 h6; omega
  | succ d ih =>
    intro i b m hd hi h1 h2 h3 h4 h5 h6
    have hs40 := hV.2.2.2.2.1
    have hal := isR_2 hR hL
    have hab := isR_b hR
    refine E_s (p' := 66) (st' := aI ((i : Nat) : Int) :: _) rfl rfl ?_
    refine E_s (p' := 67) (st' := aA (a + 9) :: _) rfl rfl ?_
    refine E_gI (v := ((Sn R : Nat) : Int)) rfl rfl rfl (kR_9 hR) h2 ?_
    refine E_icmp_ge (x := ((i : Nat) : Int)) (y := ((Sn R : Nat) : Int)) rfl (by decide) (fun h_1 => ?_) (fun h_1 => ?_)
    · refine E_go (p' := 103) (L' := [some (aA (a + 9)), some (aA (l + 9)), some (aI (bi b)), some (aI ((i : Nat) : Int))]) (st' := []) rfl rfl rfl ?_
      refine E_s (p' := 104) (st' := aI (bi b) :: _) rfl rfl ?_
      refine E_retB rfl rfl (bi01 _) ?_
      have ei : i = Sn R := by omega
      subst ei
      exact q b m h1 h2 h3 h4 h6
    · refine E_go (p' := 73) (L' := [some (aA (a + 9)), some (aA (l + 9)), some (aI (bi b)), some (aI ((i : Nat) : Int))]) (st' := []) rfl rfl rfl ?_
      have hp12 := (hV.2.2.2.2.2.1 i (by omega)).2
      refine E_s (p' := 74) (st' := aI (bi b) :: _) rfl rfl ?_
      refine E_s (p' := 75) (st' := aA (a + 9) :: _) rfl rfl ?_
      refine E_gA (b := a + 12) rfl rfl rfl (kR_9 hR) (hR_9_2 hR) rfl ?_
      refine E_s (p' := 79) (st' := aA (l + 9) :: _) rfl rfl ?_
      refine E_gA (b := l + 12) rfl rfl rfl (kR_9 hL) (hR_9_2 hL) rfl ?_
      refine E_s (p' := 83) (st' := aI ((i : Nat) : Int) :: _) rfl rfl ?_
      refine E_s (p' := 85) (st' := aI 12 :: _) rfl rfl ?_
      refine E_mul (v := ((12 * i : Nat) : Int)) rfl (by omega) (by omega) ?_
      refine E_s (p' := 87) (st' := aA (a + 9) :: _) rfl rfl ?_
      refine E_gA (b := a + 11) rfl rfl rfl (kR_9 hR) (hR_9_1 hR) rfl ?_
      refine E_s (p' := 91) (st' := aI ((i : Nat) : Int) :: _) rfl rfl ?_
      refine E_ald (e := i) (N := 40) (v := ((Sp R i : Nat) : Int)) rfl (kR_11 hR) (rfl) (by omega) (h3 _ (by omega)).2 ?_
      refine E_callL (p' := 95) (L0 := [some (aA (a + 12)), some (aA (l + 12)), some (aI ((12 * i : Nat) : Int)), some (aI ((Sp R i : Nat) : Int)), none, none]) rfl rfl rfl ?_
      refine c_takeRow (f := 12 * i) (n := Sp R i) (N1 := 480) (N2 := 480) (kR_12 hR) (kR_12 hL) (by omega) (by omega) (by decide) (fun b1 m1 hF1 ho1 hw1 hb1 => ?_)
      refine E_go (p' := 95) (L' := [some (aA (a + 9)), some (aA (l + 9)), some (aI (bi b)), some (aI ((i : Nat) : Int))]) (st' := [aI (bi b1), aI (bi b)]) rfl rfl rfl ?_
      refine E_orb (x := b) (y := b1) rfl ?_
      refine E_s (p' := 97) (L' := [some (aA (a + 9)), some (aA (l + 9)), some (aI (bi (b || b1))), some (aI ((i : Nat) : Int))]) rfl rfl ?_
      refine E_inc (x := ((i : Nat) : Int)) (w := ((i + 1 : Nat) : Int)) (L' := [some (aA (a + 9)), some (aA (l + 9)), some (aI (bi (b || b1))), some (aI ((i + 1 : Nat) : Int))]) rfl rfl rfl (by omega) (by omega) rfl ?_
      refine E_s (p' := 65) rfl rfl ?_
      refine ih (i + 1) _ m1 (by omega) (by omega) (fun p j hp => (hF1 p j (by omega)).trans (h1 p j hp)) ((hF1 _ _ (by omega)).trans h2) (fun c hc => ⟨(hF1 _ _ (by omega)).trans (h3 c hc).1, (hF1 _ _ (by omega)).trans (h3 c hc).2⟩) (fun c k hc hk => ?_) (fun j hj => ?_) (fun hb9 p j hp1 hp2 => ?_)
      · by_cases g : c = i
        · subst g
          refine (hw1 _ (by omega) (by omega)).trans (Eq.trans ?_ (CR_12 hC (by omega) hk rfl))
          rcases hal with e | e
          · subst e; exact h5 _ (by omega)
          · exact h1 _ _ (by omega)
        · have := (hV.2.2.2.2.2.1 c (by omega)).2
          exact (ho1 _ (by omega)).trans (h4 c k (by omega) hk)
      · exact (ho1 _ (by omega)).trans (h5 j (by omega))
      · have hb3 := Bool.or_eq_false_iff.mp hb9
        by_cases g : p = a + 12
        · subst g; exact (hb1 hb3.2 j).trans (h6 hb3.1 _ j hp1 hp2)
        · exact (hF1 _ _ (by omega)).trans (h6 hb3.1 p j hp1 hp2)
theorem c_becomeS (hR : isR a) (hL : isR l) (hC : CR R l m0) (hV : VR R) (q : ∀ (b : Bool) (m1 : Mm), Fx (a + 9) (a + 12) m0 m1 → m1 (a + 9) 3 = (Sn R : Int) → (∀ s, s < Sn R → m1 (a + 10) s = (Sw R s : Int) ∧ m1 (a + 11) s = (Sp R s : Int)) → (∀ s k, s < Sn R → k < Sp R s → m1 (a + 12) (12 * s + k) = (Sq R s k : Int)) → (b = false → ∀ p j, a + 9 ≤ p → p ≤ a + 12 → m1 p j = m0 p j) → Q (some (aI (bi b))) (m1, tl len)) : E 66 0 [some (aA (a + 9)), some (aA (l + 9)), none, none] [] (m0, tl len) Q := by
  have hs40 := hV.2.2.2.2.1
  have hal := isR_2 hR hL
  have hab := isR_b hR
  refine E_s (p' := 1) (st' := aA (a + 9) :: _) rfl rfl ?_
  refine E_gI (v := ((m0 (a + 9) 3))) rfl rfl rfl (kR_9 hR) rfl ?_
  refine E_s (p' := 5) (st' := aA (l + 9) :: _) rfl rfl ?_
  refine E_gI (v := ((Sn R : Nat) : Int)) rfl rfl rfl (kR_9 hL) (CRS hC) ?_
  suffices h_1 : E 66 16 [some (aA (a + 9)), some (aA (l + 9)), none, none] [aI (bi (!decide (((m0 (a + 9) 3)) = ((Sn R : Nat) : Int))))] (m0, tl len) Q by
    refine E_icmp_eq (x := ((m0 (a + 9) 3))) (y := ((Sn R : Nat) : Int)) rfl (by decide) (fun h_2 => ?_) (fun h_2 => ?_)
    · refine E_go (p' := 15) (L' := [some (aA (a + 9)), some (aA (l + 9)), none, none]) (st' := []) rfl rfl rfl ?_
      refine E_s (p' := 16) (st' := aI 0 :: _) rfl rfl ?_
      rw [decide_eq_true (p := ((m0 (a + 9) 3)) = ((Sn R : Nat) : Int)) (by omega)] at h_1
      exact h_1
    · refine E_go (p' := 11) (L' := [some (aA (a + 9)), some (aA (l + 9)), none, none]) (st' := []) rfl rfl rfl ?_
      refine E_s (p' := 12) (st' := aI 1 :: _) rfl rfl ?_
      refine E_s (p' := 16) rfl rfl ?_
      rw [decide_eq_false (p := ((m0 (a + 9) 3)) = ((Sn R : Nat) : Int)) (by omega)] at h_1
      exact h_1
  refine E_s (p' := 17) (L' := [some (aA (a + 9)), some (aA (l + 9)), some (aI (bi (!decide (((m0 (a + 9) 3)) = ((Sn R : Nat) : Int))))), none]) rfl rfl ?_
  refine E_s (p' := 18) (st' := aA (a + 9) :: _) rfl rfl ?_
  refine E_s (p' := 19) (st' := aA (l + 9) :: _) rfl rfl ?_
  refine E_gI (v := ((Sn R : Nat) : Int)) rfl rfl rfl (kR_9 hL) (CRS hC) ?_
  refine E_pI rfl rfl rfl (kR_9 hR) (Or.inl rfl) ?_
  refine E_s (p' := 26) (st' := aI (bi (!decide (((m0 (a + 9) 3)) = ((Sn R : Nat) : Int)))) :: _) rfl rfl ?_
  refine E_s (p' := 27) (st' := aA (a + 9) :: _) rfl rfl ?_
  refine E_gA (b := a + 10) rfl rfl rfl (kR_9 hR) (hR_9_0 hR) rfl ?_
  refine E_s (p' := 31) (st' := aA (l + 9) :: _) rfl rfl ?_
  refine E_gA (b := l + 10) rfl rfl rfl (kR_9 hL) (hR_9_0 hL) rfl ?_
  refine E_s (p' := 35) (st' := aI 0 :: _) rfl rfl ?_
  refine E_s (p' := 36) (st' := aA (a + 9) :: _) rfl rfl ?_
  refine E_gI (v := ((Sn R : Nat) : Int)) rfl rfl rfl (kR_9 hR) up2_eq ?_
  refine E_callL (p' := 42) (L0 := [some (aA (a + 10)), some (aA (l + 10)), some (aI 0), some (aI ((Sn R : Nat) : Int)), none, none]) rfl rfl rfl ?_
  refine c_takeRow (f := 0) (n := Sn R) (N1 := 40) (N2 := 40) (kR_10 hR) (kR_10 hL) (by omega) (by omega) (by decide) (fun b1 m1 hF1 ho1 hw1 hb1 => ?_)
  refine E_go (p' := 42) (L' := [some (aA (a + 9)), some (aA (l + 9)), some (aI (bi (!decide (((m0 (a + 9) 3)) = ((Sn R : Nat) : Int))))), none]) (st' := [aI (bi b1), aI (bi (!decide (((m0 (a + 9) 3)) = ((Sn R : Nat) : Int))))]) rfl rfl rfl ?_
  refine E_orb (x := (!decide (((m0 (a + 9) 3)) = ((Sn R : Nat) : Int)))) (y := b1) rfl ?_
  refine E_s (p' := 44) (L' := [some (aA (a + 9)), some (aA (l + 9)), some (aI (bi ((!decide (((m0 (a + 9) 3)) = ((Sn R : Nat) : Int))) || b1))), none]) rfl rfl ?_
  refine E_s (p' := 45) (st' := aI (bi ((!decide (((m0 (a + 9) 3)) = ((Sn R : Nat) : Int))) || b1)) :: _) rfl rfl ?_
  refine E_s (p' := 46) (st' := aA (a + 9) :: _) rfl rfl ?_
  refine E_gA (b := a + 11) rfl rfl rfl (kR_9 hR) (hR_9_1 hR) rfl ?_
  refine E_s (p' := 50) (st' := aA (l + 9) :: _) rfl rfl ?_
  refine E_gA (b := l + 11) rfl rfl rfl (kR_9 hL) (hR_9_1 hL) rfl ?_
  refine E_s (p' := 54) (st' := aI 0 :: _) rfl rfl ?_
  refine E_s (p' := 55) (st' := aA (a + 9) :: _) rfl rfl ?_
  refine E_gI (v := ((Sn R : Nat) : Int)) rfl rfl rfl (kR_9 hR) ((hF1 _ _ (by omega)).trans (up2_eq)) ?_
  refine E_callL (p' := 61) (L0 := [some (aA (a + 11)), some (aA (l + 11)), some (aI 0), some (aI ((Sn R : Nat) : Int)), none, none]) rfl rfl rfl ?_
  refine c_takeRow (f := 0) (n := Sn R) (N1 := 40) (N2 := 40) (kR_11 hR) (kR_11 hL) (by omega) (by omega) (by decide) (fun b2 m2 hF2 ho2 hw2 hb2 => ?_)
  refine E_go (p' := 61) (L' := [some (aA (a + 9)), some (aA (l + 9)), some (aI (bi ((!decide (((m0 (a + 9) 3)) = ((Sn R : Nat) : Int))) || b1))), none]) (st' := [aI (bi b2), aI (bi ((!decide (((m0 (a + 9) 3)) = ((Sn R : Nat) : Int))) || b1))]) rfl rfl rfl ?_
  refine E_orb (x := ((!decide (((m0 (a + 9) 3)) = ((Sn R : Nat) : Int))) || b1)) (y := b2) rfl ?_
  refine E_s (p' := 63) (L' := [some (aA (a + 9)), some (aA (l + 9)), some (aI (bi (((!decide (((m0 (a + 9) 3)) = ((Sn R : Nat) : Int))) || b1) || b2))), none]) rfl rfl ?_
  refine E_s (p' := 64) (st' := aI 0 :: _) rfl rfl ?_
  refine E_s (p' := 65) (L' := [some (aA (a + 9)), some (aA (l + 9)), some (aI (bi (((!decide (((m0 (a + 9) 3)) = ((Sn R : Nat) : Int))) || b1) || b2))), some (aI 0)]) rfl rfl ?_
  have hal := isR_2 hR hL
  have hab := isR_b hR
  have hr1 : ∀ c, c < Sn R → m2 (a + 10) c = m0 (l + 10) c := fun c hc => (hF2 _ _ (by omega)).trans ((hw1 c (by omega) (by omega)).trans (up2_ne (by omega)))
  have hr2 : ∀ c, c < Sn R → m2 (a + 11) c = m0 (l + 11) c := fun c hc => (hw2 c (by omega) (by omega)).trans ((hF1 _ _ (by omega)).trans (up2_ne (by omega)))
  have hFx : Fx (a + 9) (a + 12) m0 m2 := fun p j hp => (hF2 _ _ (by omega)).trans ((hF1 _ _ (by omega)).trans (up2_ne (by omega)))
  have h8 : ∀ j, m2 (a + 12) j = m0 (a + 12) j := fun j => (hF2 _ _ (by omega)).trans ((hF1 _ _ (by omega)).trans (up2_ne (by omega)))
  have h17 : m2 (a + 9) 3 = (Sn R : Int) := (hF2 _ _ (by omega)).trans ((hF1 _ _ (by omega)).trans up2_eq)
  refine l_bls hR hL hC hV q (Sn R + 1) 0 _ m2 (by omega) (by omega) hFx h17 (fun c hc => ⟨(hr1 c hc).trans (CR_10 hC hc), (hr2 c hc).trans (CR_11 hC hc)⟩) (fun c k hc => absurd hc (by omega)) (fun j _ => h8 j) (fun hb9 p j hp1 hp2 => ?_)
  simp only [Bool.or_eq_false_iff] at hb9
  obtain ⟨⟨c0, c1⟩, c2⟩ := hb9
  have hs0 : m0 (a + 9) 3 = (Sn R : Int) := by simpa using c0
  rcases (show p = a + 9 ∨ p = a + 10 ∨ p = a + 11 ∨ p = a + 12 by omega) with e | e | e | e
  · subst e
    refine (hF2 _ _ (by omega)).trans ((hF1 _ _ (by omega)).trans ?_)
    by_cases g : j = 3
    · subst g; exact up2_eq.trans hs0.symm
    · exact up2_sl g
  · subst e
    exact (hF2 _ _ (by omega)).trans ((hb1 c1 j).trans (up2_ne (by omega)))
  · subst e
    exact (hb2 c2 j).trans ((hF1 _ _ (by omega)).trans (up2_ne (by omega)))
  · subst e; exact h8 j
theorem up2_g {m : Mm} {R : RD} {a l b j : Nat} (g3 : b = l → j = 5) (hal : l = a ∨ l + 26 ≤ a ∨ a + 26 ≤ l) (hq : m l 5 = (Cq R : Int)) (g1 : l ≤ b := by omega) (g2 : b ≤ l + 12 := by omega) : up2 m a 5 (Cq R : Int) b j = m b j := by
  by_cases g : b = a ∧ j = 5
  · obtain ⟨rfl, rfl⟩ := g
    have e : l = b := by omega
    subst e
    rw [up2_eq, hq]
  · exact up2_o g
theorem CR_like {R : RD} {a l : Nat} {m m1 mc : Mm} (hal : l = a ∨ l + 26 ≤ a ∨ a + 26 ≤ l) (hC : CR R l m) (hF : Fx (a + 1) (a + 8) m1 mc) (h1 : mc (a + 1) 7 = (Cn R : Int)) (h2 : ∀ c, c < Cn R → CC R a mc c) (h3 : ∀ c k, c < Cn R → k < Ck R c → mc (a + 8) (30 * c + k) = (Cp R c k : Int)) (e : ∀ b j, l ≤ b → b ≤ l + 12 → (b = l → j = 5) → m1 b j = m b j) : CR R l mc := by
  rcases hal with g | g
  · subst g
    obtain ⟨-, k2, -, -, k5, k6, k7⟩ := hC
    exact ⟨h1, (hF _ _ (by omega)).trans ((e _ _ (by omega) (by omega) (by omega)).trans k2), h2, h3, (hF _ _ (by omega)).trans ((e _ _ (by omega) (by omega) (by omega)).trans k5), fun s hs => ⟨(hF _ _ (by omega)).trans ((e _ _ (by omega) (by omega) (by omega)).trans (k6 s hs).1), (hF _ _ (by omega)).trans ((e _ _ (by omega) (by omega) (by omega)).trans (k6 s hs).2)⟩, fun s p hs hp => (hF _ _ (by omega)).trans ((e _ _ (by omega) (by omega) (by omega)).trans (k7 s p hs hp))⟩
  · exact hC.of (fun b j g1 g2 g3 => (hF _ _ (by omega)).trans (e b j g1 g2 g3))
theorem c_becomeLike (hR : isR a) (hL : isR l) (hC : CR R l m0) (hV : VR R) (qA : CR R a m0 → Q none (m0, tl len)) (qB : ∀ m1, CR R a m1 → m1 a 7 = 0 → Fx a (a + 12) m0 m1 → Q none (m1, tl len)) : E 63 0 [some (aA a), some (aA l), none] [] (m0, tl len) Q := by
  have hal := isR_2 hR hL
  have hab := isR_b hR
  have hq0 := hC.2.1
  refine E_s (p' := 1) (st' := aA a :: _) rfl rfl ?_
  refine E_gI (v := ((m0 a 5))) rfl rfl rfl (kR_0 hR) rfl ?_
  refine E_s (p' := 5) (st' := aA l :: _) rfl rfl ?_
  refine E_gI (v := ((Cq R : Nat) : Int)) rfl rfl rfl (kR_0 hL) hC.2.1 ?_
  suffices h_1 : E 63 16 [some (aA a), some (aA l), none] [aI (bi (!decide (((m0 a 5)) = ((Cq R : Nat) : Int))))] (m0, tl len) Q by
    refine E_icmp_eq (x := ((m0 a 5))) (y := ((Cq R : Nat) : Int)) rfl (by decide) (fun h_2 => ?_) (fun h_2 => ?_)
    · refine E_go (p' := 15) (L' := [some (aA a), some (aA l), none]) (st' := []) rfl rfl rfl ?_
      refine E_s (p' := 16) (st' := aI 0 :: _) rfl rfl ?_
      rw [decide_eq_true (p := ((m0 a 5)) = ((Cq R : Nat) : Int)) (by omega)] at h_1
      exact h_1
    · refine E_go (p' := 11) (L' := [some (aA a), some (aA l), none]) (st' := []) rfl rfl rfl ?_
      refine E_s (p' := 12) (st' := aI 1 :: _) rfl rfl ?_
      refine E_s (p' := 16) rfl rfl ?_
      rw [decide_eq_false (p := ((m0 a 5)) = ((Cq R : Nat) : Int)) (by omega)] at h_1
      exact h_1
  refine E_s (p' := 17) (L' := [some (aA a), some (aA l), some (aI (bi (!decide (((m0 a 5)) = ((Cq R : Nat) : Int)))))]) rfl rfl ?_
  refine E_s (p' := 18) (st' := aA a :: _) rfl rfl ?_
  refine E_s (p' := 19) (st' := aA l :: _) rfl rfl ?_
  refine E_gI (v := ((Cq R : Nat) : Int)) rfl rfl rfl (kR_0 hL) hC.2.1 ?_
  refine E_pI rfl rfl rfl (kR_0 hR) (Or.inl rfl) ?_
  refine E_s (p' := 26) (st' := aI (bi (!decide (((m0 a 5)) = ((Cq R : Nat) : Int)))) :: _) rfl rfl ?_
  refine E_s (p' := 27) (st' := aA a :: _) rfl rfl ?_
  refine E_gA (b := a + 1) rfl rfl rfl (kR_0 hR) (hR_0_0 hR) rfl ?_
  refine E_s (p' := 31) (st' := aA l :: _) rfl rfl ?_
  refine E_gA (b := l + 1) rfl rfl rfl (kR_0 hL) (hR_0_0 hL) rfl ?_
  refine E_callV (k' := 64) (a := a + 1) (r := [aI (bi (!decide (((m0 a 5)) = ((Cq R : Nat) : Int))))]) (L0 := [some (aA (a + 1)), some (aA (l + 1)), none, none]) rfl rfl rfl rfl rfl (kR_1 hR) rfl rfl rfl rfl ?_
  refine c_becomeC hR hL (hC.of (fun b j g1 g2 g3 => up2_g g3 hal hq0)) hV (fun bc mc hFc hc1 hc2 hc3 hc4 => ?_)
  refine E_go (p' := 37) (L' := [some (aA a), some (aA l), some (aI (bi (!decide (((m0 a 5)) = ((Cq R : Nat) : Int)))))]) (st' := [aI (bi bc), aI (bi (!decide (((m0 a 5)) = ((Cq R : Nat) : Int))))]) rfl rfl rfl ?_
  have hCl : CR R l mc := CR_like hal hC hFc hc1 hc2 hc3 (fun b j g1 g2 g3 => up2_g g3 hal hq0)
  refine E_orb (x := (!decide (((m0 a 5)) = ((Cq R : Nat) : Int)))) (y := bc) rfl ?_
  refine E_s (p' := 39) (L' := [some (aA a), some (aA l), some (aI (bi ((!decide (((m0 a 5)) = ((Cq R : Nat) : Int))) || bc)))]) rfl rfl ?_
  refine E_s (p' := 40) (st' := aI (bi ((!decide (((m0 a 5)) = ((Cq R : Nat) : Int))) || bc)) :: _) rfl rfl ?_
  refine E_s (p' := 41) (st' := aA a :: _) rfl rfl ?_
  refine E_gA (b := a + 9) rfl rfl rfl (kR_0 hR) (hR_0_1 hR) rfl ?_
  refine E_s (p' := 45) (st' := aA l :: _) rfl rfl ?_
  refine E_gA (b := l + 9) rfl rfl rfl (kR_0 hL) (hR_0_1 hL) rfl ?_
  refine E_callV (k' := 66) (a := a + 9) (r := [aI (bi ((!decide (((m0 a 5)) = ((Cq R : Nat) : Int))) || bc))]) (L0 := [some (aA (a + 9)), some (aA (l + 9)), none, none]) rfl rfl rfl rfl rfl (kR_9 hR) rfl rfl rfl rfl ?_
  refine c_becomeS hR hL hCl hV (fun bs ms hFs hs1 hs2 hs3 hs4 => ?_)
  refine E_go (p' := 51) (L' := [some (aA a), some (aA l), some (aI (bi ((!decide (((m0 a 5)) = ((Cq R : Nat) : Int))) || bc)))]) (st' := [aI (bi bs), aI (bi ((!decide (((m0 a 5)) = ((Cq R : Nat) : Int))) || bc))]) rfl rfl rfl ?_
  refine E_orb (x := ((!decide (((m0 a 5)) = ((Cq R : Nat) : Int))) || bc)) (y := bs) rfl ?_
  refine E_s (p' := 53) (L' := [some (aA a), some (aA l), some (aI (bi (((!decide (((m0 a 5)) = ((Cq R : Nat) : Int))) || bc) || bs)))]) rfl rfl ?_
  have hCa : CR R a ms := ⟨(hFs _ _ (by omega)).trans hc1, (hFs _ _ (by omega)).trans ((hFc _ _ (by omega)).trans up2_eq), fun c hc => by obtain ⟨g1, g2, g3, g4, g5, g6⟩ := hc2 c hc; exact ⟨(hFs _ _ (by omega)).trans g1, (hFs _ _ (by omega)).trans g2, (hFs _ _ (by omega)).trans g3, (hFs _ _ (by omega)).trans g4, (hFs _ _ (by omega)).trans g5, (hFs _ _ (by omega)).trans g6⟩, fun c k hc hk => (hFs _ _ (by omega)).trans (hc3 c k hc hk), hs1, hs2, hs3⟩
  refine E_s (p' := 54) (st' := aI (bi (((!decide (((m0 a 5)) = ((Cq R : Nat) : Int))) || bc) || bs)) :: _) rfl rfl ?_
  refine E_b_eq0 (b := (((!decide (((m0 a 5)) = ((Cq R : Nat) : Int))) || bc) || bs)) rfl (by decide) (fun h_3 => ?_) (fun h_3 => ?_)
  · refine E_go (p' := 61) (L' := [some (aA a), some (aA l), some (aI (bi (((!decide (((m0 a 5)) = ((Cq R : Nat) : Int))) || bc) || bs)))]) (st' := []) rfl rfl rfl ?_
    have h_b := h_3
    refine E_ret rfl rfl ?_
    simp only [Bool.or_eq_false_iff] at h_b
    obtain ⟨⟨c0, c1⟩, c2⟩ := h_b
    have hg0 : m0 a 5 = (Cq R : Int) := by simpa using c0
    have e : ms = m0 := by
      funext p j
      by_cases g9 : a + 9 ≤ p ∧ p ≤ a + 12
      · rw [hs4 c2 p j g9.1 g9.2, hFc _ _ (by omega)]; exact up2_ne (by omega)
      · rw [hFs _ _ (by omega)]
        by_cases g1 : a + 1 ≤ p ∧ p ≤ a + 8
        · rw [hc4 c1 p j g1.1 g1.2]; exact up2_ne (by omega)
        · rw [hFc _ _ (by omega)]
          by_cases g : p = a ∧ j = 5
          · obtain ⟨rfl, rfl⟩ := g; exact up2_eq.trans hg0.symm
          · exact up2_o g
    subst e
    exact qA hCa
  · refine E_go (p' := 57) (L' := [some (aA a), some (aA l), some (aI (bi (((!decide (((m0 a 5)) = ((Cq R : Nat) : Int))) || bc) || bs)))]) (st' := []) rfl rfl rfl ?_
    refine E_s (p' := 58) (st' := aA a :: _) rfl rfl ?_
    refine E_callV (k' := 15) (a := a) (r := []) (L0 := [some (aA a)]) rfl rfl rfl rfl rfl (kR_0 hR) rfl rfl rfl rfl ?_
    refine c_changed hR ?_
    refine E_go (p' := 61) (L' := [some (aA a), some (aA l), some (aI (bi (((!decide (((m0 a 5)) = ((Cq R : Nat) : Int))) || bc) || bs)))]) (st' := []) rfl rfl rfl ?_
    refine E_ret rfl rfl ?_
    exact qB _ (hCa.of (fun b j g1 g2 g3 => (up2_o (by omega)).trans (up2_o (by omega)))) ((up2_sl (by decide)).trans up2_eq) (fun b j hb => (up2_ne (by omega)).trans ((up2_ne (by omega)).trans ((hFs _ _ (by omega)).trans ((hFc _ _ (by omega)).trans (up2_ne (by omega))))))
end

/-! the reading of a RECORD -/
def ends (R : RD) (c k : Nat) : Bool := !(decide (so (Cp R c k) = 0) && decide (k + 1 < Ck R c) && decide (so (Cp R c (k + 1)) = 0) && decide (ht (Cp R c (k + 1)) ≤ ht (Cp R c k) + 4))
def beg (R : RD) (c : Nat) : Nat → Nat
  | 0 => 0
  | k + 1 => if ends R c k then k + 1 else beg R c k
def clp (R : RD) (c k : Nat) : Nat := (ht (Cp R c (beg R c k)) + ht (Cp R c k)) / 2
def clw (R : RD) (c k : Nat) : Nat := if so (Cp R c k) = 0 then k - beg R c k + 1 else if so (Cp R c k) = 1 then tu (Cp R c k) else 1
/-- the CLUSTERS that end among the first k KNOTS: place, sort, worth -/
def cls (R : RD) (c : Nat) : Nat → List (Nat × (Nat × Nat))
  | 0 => []
  | k + 1 => if ends R c k then cls R c k ++ [(clp R c k, (so (Cp R c k), clw R c k))] else cls R c k
def clsA (R : RD) (c : Nat) : List (Nat × (Nat × Nat)) := cls R c (Ck R c)
def acl (R : RD) : Nat → List (Nat × (Nat × Nat))
  | 0 => []
  | c + 1 => acl R c ++ clsA R c
def atp (l : List (Nat × (Nat × Nat))) (h : Nat) : Nat := l.countP fun q => q.1 == h
def aun (l : List (Nat × (Nat × Nat))) : Bool := l.any fun q => q.2.1 != 0
abbrev Lv : Type := Nat × ((Nat → Nat) × ((Nat → Nat) × (Nat → Nat)))
/-- the LEVELS of the places below h: how many, first, last, members -/
def lvS (f : Nat → Nat) (gap : Nat) : Nat → Lv
  | 0 => (0, (fun _ => 0, (fun _ => 0, fun _ => 0)))
  | h + 1 => if f h = 0 then lvS f gap h else if (lvS f gap h).1 = 0 ∨ (lvS f gap h).2.2.1 ((lvS f gap h).1 - 1) + gap < h
    then ((lvS f gap h).1 + 1, (upf (lvS f gap h).2.1 (lvS f gap h).1 h, (upf (lvS f gap h).2.2.1 (lvS f gap h).1 h, upf (lvS f gap h).2.2.2 (lvS f gap h).1 (f h))))
    else ((lvS f gap h).1, ((lvS f gap h).2.1, (upf (lvS f gap h).2.2.1 ((lvS f gap h).1 - 1) h, upf (lvS f gap h).2.2.2 ((lvS f gap h).1 - 1) ((lvS f gap h).2.2.2 ((lvS f gap h).1 - 1) + f h))))
def RA (R : RD) : List (Nat × (Nat × Nat)) := acl R (Cn R)
def RLV (R : RD) : Lv := lvS (atp (RA R)) (Cq R) 601
def Run (R : RD) : Bool := aun (RA R)
def Rkt (R : RD) : Bool := !(RA R).isEmpty
def Rmx (R : RD) : Nat := bif Run R then 6 else 5
/-- how many LEVELS -/
def RL (R : RD) : Nat := if Rmx R < (RLV R).1 then 0 else (RLV R).1
def RF (R : RD) : Nat → Nat := (RLV R).2.1
def Rla (R : RD) : Nat → Nat := (RLV R).2.2.1
def Rme (R : RD) : Nat → Nat := (RLV R).2.2.2
def Rct (R : RD) (l : Nat) : Nat := 10 ^ (RL R - 1 - l) * (bif Run R then 1 else 10)
/-- the LEVEL of a place: the first whose last place is not ahead of it -/
def lvo (la : Nat → Nat) (p : Nat) : Nat → Nat → Nat
  | 0, l => l
  | d + 1, l => if la l < p then lvo la p d (l + 1) else l
def Rlo (R : RD) (p : Nat) : Nat := lvo (Rla R) p (RL R - 1) 0
def lst (R : RD) (c l : Nat) : Bool := decide (Ct R c ≠ 0) && decide (Ct R c ≤ Rla R l)
def rMany (R : RD) (l : List (Nat × (Nat × Nat))) : Bool := l.any fun q => decide (q.2.1 = 0) && decide (9 < q.2.2)
def rTw (R : RD) : List (Nat × (Nat × Nat)) → Bool
  | [] => false
  | q :: r => rTw R r || r.any fun p => Rlo R p.1 == Rlo R q.1
def rAs (R : RD) (l : List (Nat × (Nat × Nat))) : Bool := l.any fun q => decide (q.2.1 = 0) == (Run R && decide (Rlo R q.1 + 1 = RL R))
def rSum (R : RD) (c : Nat) (l : List (Nat × (Nat × Nat))) : Nat := (l.map fun q => bif lst R c (Rlo R q.1) then 0 else q.2.2 * Rct R (Rlo R q.1)).sum
def rLost (R : RD) (c : Nat) : Nat := sumN (fun l => bif lst R c l then 9 * Rct R l else 0) (RL R) + (bif !Run R && lst R c (RL R - 1) then 9 else 0)
def Rft (R : RD) (c : Nat) : Nat := if RL R = 0 then bn (Rkt R) else bif rMany R (clsA R c) then 2 else bif rTw R (clsA R c).reverse then 3 else bif rAs R (clsA R c) then 4 else 0
def Rvl (R : RD) (c : Nat) : Nat := if RL R = 0 then 0 else if Rft R c = 0 then rSum R c (clsA R c) else 0
def Rls (R : RD) (c : Nat) : Nat := if RL R = 0 then 0 else if Rft R c = 0 then rLost R c else 0
/-- the class's reading at a is R's -/
def RdC (R : RD) (a : Nat) (m : Mm) : Prop := m (a + 15) 11 = bi (Run R) ∧ m (a + 15) 12 = (RL R : Int) ∧ (∀ l, l < RL R → m (a + 16) l = (RF R l : Int) ∧ m (a + 17) l = (Rla R l : Int) ∧ m (a + 18) l = (Rct R l : Int) ∧ m (a + 19) l = (Rme R l : Int)) ∧ (∀ c, c < Cn R → m (a + 20) c = ((clsA R c).length : Int) ∧ m (a + 21) c = (Rft R c : Int) ∧ m (a + 22) c = (Rvl R c : Int) ∧ m (a + 23) c = (Rls R c : Int))
theorem RdC.of {R : RD} {a : Nat} {m m' : Mm} (h : RdC R a m) (e : ∀ b j, a + 15 ≤ b → b ≤ a + 23 → m' b j = m b j) : RdC R a m' := by
  obtain ⟨h1, h2, h3, h4⟩ := h
  refine ⟨(e _ _ (by omega) (by omega)).trans h1, (e _ _ (by omega) (by omega)).trans h2, fun l hl => ?_, fun c hc => ?_⟩
  · obtain ⟨g1, g2, g3, g4⟩ := h3 l hl
    exact ⟨(e _ _ (by omega) (by omega)).trans g1, (e _ _ (by omega) (by omega)).trans g2, (e _ _ (by omega) (by omega)).trans g3, (e _ _ (by omega) (by omega)).trans g4⟩
  · obtain ⟨g1, g2, g3, g4⟩ := h4 c hc
    exact ⟨(e _ _ (by omega) (by omega)).trans g1, (e _ _ (by omega) (by omega)).trans g2, (e _ _ (by omega) (by omega)).trans g3, (e _ _ (by omega) (by omega)).trans g4⟩
/-! the whole object -/
def CS1 (R : RD) (a : Nat) (m : Mm) : Prop := VR R ∧ CR R a m ∧ (m a 7 = 0 ∨ (m a 7 = 1 ∧ RdC R a m))
def CS (S : Nat → RD) (m : Mm) : Prop := ∀ i, i < 4 → CS1 (S i) (tgA i) m
def MS (S : Nat → RD) (m : Mm) : Prop := ∀ i, i < 4 → VR (S i) ∧ MR (S i) i m
/-- the script, the model and what cure and found keep are as they were -/
def Mo (m m1 : Mm) : Prop := ∀ b j, b = 0 ∨ (8 ≤ b ∧ b ≤ 14) ∨ 124 ≤ b → m1 b j = m b j
/-- the script, the class and what the model's cure and found keep are as they were -/
def Co1 (m m1 : Mm) : Prop := ∀ b j, (b < 124 ∨ (b = 124 ∧ (j = 44 ∨ j = 50)) ∨ b = 161 ∨ b = 165 ∨ b = 166) → m1 b j = m b j
def on1 (S : Nat → RD) (r d : Int) (f : RD → Int × RD) : Int × (Nat → RD) := if 0 ≤ r ∧ r ≤ 3 then ((f (S r.toNat)).1, upf S r.toNat (f (S r.toNat)).2) else (d, S)
theorem on1_in {S : Nat → RD} {r d : Int} {f : RD → Int × RD} {i : Nat} {v : Int} {R : RD} (hi : i < 4) (hr : r = (i : Int)) (e : f (S i) = (v, R)) : on1 S r d f = (v, upf S i R) := by
  unfold on1
  rw [if_pos (by omega), show r.toNat = i by omega, e]
theorem on1_out {S : Nat → RD} {r d : Int} {f : RD → Int × RD} (h : r < 0 ∨ 3 < r) : on1 S r d f = (d, S) := by
  unfold on1
  rw [if_neg (by omega)]
theorem upf_self {α : Type} {f : Nat → α} {i : Nat} : upf f i (f i) = f := by
  funext j
  unfold upf
  split
  · next h => rw [h]
  · rfl
theorem CS1.of {R : RD} {a : Nat} {m m' : Mm} (h : CS1 R a m) (e : ∀ b j, a ≤ b → b ≤ a + 25 → m' b j = m b j) : CS1 R a m' := by
  obtain ⟨h1, h2, h3⟩ := h
  refine ⟨h1, h2.of (fun b j g1 g2 _ => e b j g1 (by omega)), ?_⟩
  rw [e a 7 (by omega) (by omega)]
  rcases h3 with h3 | ⟨h3, h4⟩
  · exact Or.inl h3
  · exact Or.inr ⟨h3, h4.of (fun b j g1 g2 => e b j (by omega) (by omega))⟩
section
variable {S : Nat → RD} {m m1 : Mm} {r d v : Int} {f : RD → Int × RD} {i a len : Nat} {R : RD} {Q : Option AV → Sx → Prop}
theorem CS.set (hS : CS S m) (hi : i < 4) (ha : a = tgA i) (h : CS1 R a m1) (hF : ∀ b j, (20 ≤ b ∧ b < a) ∨ (a + 25 < b ∧ b < 124) → m1 b j = m b j) : CS (upf S i R) m1 := by
  intro k hk
  by_cases g : k = i
  · subst g ha; rw [upf_eq]; exact h
  · rw [upf_ne g]
    subst ha
    unfold tgA at hF ⊢
    exact (hS k hk).of (fun b j g1 g2 => hF b j (by unfold tgA at g1 g2; omega))
theorem fin_in (hS : CS S m) (hi : i < 4) (hr : r = (i : Int)) (ha : a = tgA i) (q : ∀ m1, CS (on1 S r d f).2 m1 → Mo m m1 → Q (some (aI (on1 S r d f).1)) (m1, tl len)) (e : f (S i) = (v, R)) (h : CS1 R a m1) (hF : Fx a (a + 25) m m1) : Q (some (aI v)) (m1, tl len) := by
  rw [on1_in hi hr e] at q
  have hb : 20 ≤ a ∧ a ≤ 98 := by subst ha; unfold tgA; omega
  exact q m1 (hS.set hi ha h (fun b j hb => hF b j (by omega))) (fun b j hb => hF b j (by omega))
theorem fin_same (hS : CS S m) (hi : i < 4) (hr : r = (i : Int)) (q : ∀ m1, CS (on1 S r d f).2 m1 → Mo m m1 → Q (some (aI (on1 S r d f).1)) (m1, tl len)) (e : f (S i) = (v, S i)) : Q (some (aI v)) (m, tl len) := by
  rw [on1_in hi hr e, upf_self] at q
  exact q m hS (fun _ _ _ => rfl)
theorem fin_out (hS : CS S m) (q : ∀ m1, CS (on1 S r d f).2 m1 → Mo m m1 → Q (some (aI (on1 S r d f).1)) (m1, tl len)) (h : r < 0 ∨ 3 < r) : Q (some (aI d)) (m, tl len) := by
  rw [on1_out h] at q
  exact q m hS (fun _ _ _ => rfl)
theorem MS.set (hS : MS S m) (hi : i < 4) (hV : VR R) (h : MR R i m1) (hF : ∀ k, k < 4 → k ≠ i → MR (S k) k m → MR (S k) k m1) : MS (upf S i R) m1 := by
  intro k hk
  by_cases g : k = i
  · subst g; rw [upf_eq]; exact ⟨hV, h⟩
  · rw [upf_ne g]
    exact ⟨(hS k hk).1, hF k hk g (hS k hk).2⟩
theorem finM_in (hS : MS S m) (hi : i < 4) (hr : r = (i : Int)) (q : ∀ m1, MS (on1 S r d f).2 m1 → Co1 m m1 → Q (some (aI (on1 S r d f).1)) (m1, tl len)) (e : f (S i) = (v, R)) (hV : VR R) (h : MR R i m1) (hF : ∀ k, k < 4 → k ≠ i → MR (S k) k m → MR (S k) k m1) (hc : Co1 m m1) : Q (some (aI v)) (m1, tl len) := by
  rw [on1_in hi hr e] at q
  exact q m1 (hS.set hi hV h hF) hc
theorem finM_same (hS : MS S m) (hi : i < 4) (hr : r = (i : Int)) (q : ∀ m1, MS (on1 S r d f).2 m1 → Co1 m m1 → Q (some (aI (on1 S r d f).1)) (m1, tl len)) (e : f (S i) = (v, S i)) (h : MS S m1) (hc : Co1 m m1) : Q (some (aI v)) (m1, tl len) := by
  rw [on1_in hi hr e, upf_self] at q
  exact q m1 h hc
theorem finM_out (hS : MS S m) (q : ∀ m1, MS (on1 S r d f).2 m1 → Co1 m m1 → Q (some (aI (on1 S r d f).1)) (m1, tl len)) (h : r < 0 ∨ 3 < r) : Q (some (aI d)) (m, tl len) := by
  rw [on1_out h] at q
  exact q m hS (fun _ _ _ => rfl)
theorem c_recordOf' {r : Int} (q1 : ∀ i a : Nat, i < 4 → r = i → a = tgA i → isR a → Q (some (aA a)) (m, tl len)) (q0 : (r < 0 ∨ 3 < r) → Q (some aN) (m, tl len)) : E 12 0 [some (aA 1), some (aI r)] [] (m, tl len) Q := c_recordOf (fun i h1 h2 => q1 i _ h1 h2 rfl (isR_tg h1)) q0
end

/-! what each call answers, and the RECORD behind it -/
noncomputable def cif {α : Type} (P : Prop) (x y : α) : α := @ite α P (Classical.propDecidable P) x y
theorem cif_pos {α : Type} {P : Prop} {x y : α} (h : P) : cif P x y = x := by unfold cif; rw [if_pos h]
theorem cif_neg {α : Type} {P : Prop} {x y : α} (h : ¬ P) : cif P x y = y := by unfold cif; rw [if_neg h]
def inC (R : RD) (c : Int) : Prop := 0 ≤ c ∧ c < (Cn R : Int)
def okc (c l : Int) : Prop := (0 ≤ c ∧ c ≤ 23) ∧ 10 ≤ l ∧ l ≤ 600
noncomputable def oCord (g c l : Int) (R : RD) : Int × RD := cif ((0 ≤ g ∧ g ≤ 11) ∧ okc c l) (cif (Cn R = 60) (-3, R) ((Cn R : Int), Radd R g (-1) c.toNat l.toNat)) (-2, R)
noncomputable def oHang (o c l : Int) (R : RD) : Int × RD := cif (inC R o ∧ okc c l) (cif (3 < dep R o.toNat ∨ Cn R = 60) (-3, R) ((Cn R : Int), Radd R (-1) o c.toNat l.toNat)) (-2, R)
noncomputable def oKnot (c h s t : Int) (R : RD) : Int × RD := cif (inC R c ∧ kind s t ∧ whl R c.toNat h ∧ ¬ tied R c.toNat h) (cif (Ck R c.toNat = 30) (-3, R) (((Ck R c.toNat + 1 : Nat) : Int), Rkn R c.toNat (Ck R c.toNat + 1) (insP (Cp R c.toNat) (posn (Cp R c.toNat) h.toNat (Ck R c.toNat)) (pck h.toNat s.toNat t.toNat)))) (-2, R)
noncomputable def oUntie (c h : Int) (R : RD) : Int × RD := cif (inC R c ∧ tied R c.toNat h) (((Ck R c.toNat - 1 : Nat) : Int), Rkn R c.toNat (Ck R c.toNat - 1) (remP (Cp R c.toNat) (posn (Cp R c.toNat) h.toNat (Ck R c.toNat)))) (-1, R)
noncomputable def oTear (c h : Int) (R : RD) : Int × RD := cif (inC R c ∧ whl R c.toNat h) ((posn (Cp R c.toNat) h.toNat (Ck R c.toNat) : Int), Rtr R c.toNat h.toNat (posn (Cp R c.toNat) h.toNat (Ck R c.toNat))) (-2, R)
noncomputable def oGap (n : Int) (R : RD) : Int × RD := cif (1 ≤ n ∧ n ≤ 100) ((Cq R : Int), Rgp R n.toNat) (-2, R)
def oClear (R : RD) : Int × RD := ((Cn R : Int), Rclr R)
noncomputable def oSum (c : Int) (R : RD) : Int × RD := cif (inC R c) (cif (Sn R = 40) (-3, R) ((Sn R : Int), Rsm R (Sn R + 1) (upf (Sw R) (Sn R) c.toNat) (upf (Sp R) (Sn R) 0) (Sq R))) (-2, R)
noncomputable def oPart (c : Int) (R : RD) : Int × RD := cif (inC R c ∧ 0 < Sn R ∧ hld R (Sn R - 1) c (Sp R (Sn R - 1)) = false) (cif (Sp R (Sn R - 1) = 12) (-3, R) (((Sp R (Sn R - 1) + 1 : Nat) : Int), Rsm R (Sn R) (Sw R) (upf (Sp R) (Sn R - 1) (Sp R (Sn R - 1) + 1)) (upf (Sq R) (Sn R - 1) (upf (Sq R (Sn R - 1)) (Sp R (Sn R - 1)) c.toNat)))) (-2, R)
noncomputable def oDrop (R : RD) : Int × RD := cif (Sn R = 0) (-1, R) (((Sn R - 1 : Nat) : Int), Rsm R (Sn R - 1) (Sw R) (Sp R) (Sq R))
theorem V_add {R : RD} {g o : Int} {c l : Nat} (hV : VR R) (hn : Cn R < 60) (hg : -1 ≤ g ∧ g ≤ 11) (ho : -1 ≤ o ∧ o < (Cn R : Int)) (hc : c ≤ 23) (hl : 10 ≤ l ∧ l ≤ 600) : VR (Radd R g o c l) := by
  obtain ⟨h1, h2, h3, h4, h5, h6, h7⟩ := hV
  refine ⟨(show Cn R + 1 ≤ 60 by omega), h2, fun d hd => ?_, fun d k hd hk => ?_, h5, fun s hs => ⟨(show Sw R s < Cn R + 1 by have := (h6 s hs).1; omega), (h6 s hs).2⟩, fun s p hs hp => (show Sq R s p < Cn R + 1 by have := h7 s p hs hp; omega)⟩
  · have hd' : d < Cn R + 1 := hd
    show (-1 ≤ upf (Cg R) (Cn R) g d ∧ upf (Cg R) (Cn R) g d ≤ 11) ∧ (-1 ≤ upf (Co R) (Cn R) o d ∧ upf (Co R) (Cn R) o d < (d : Int)) ∧ upf (Cc R) (Cn R) c d ≤ 23 ∧ (10 ≤ upf (Cl R) (Cn R) l d ∧ upf (Cl R) (Cn R) l d ≤ 600) ∧ upf (Ct R) (Cn R) 0 d ≤ upf (Cl R) (Cn R) l d ∧ upf (Ck R) (Cn R) 0 d ≤ 30
    by_cases q : d = Cn R
    · subst q
      simp only [upf_eq]
      exact ⟨hg, ho, hc, hl, by omega, by omega⟩
    · simp only [upf_ne q]
      exact h3 d (by omega)
  · have hd' : d < Cn R + 1 := hd
    have hk' : k < upf (Ck R) (Cn R) 0 d := hk
    by_cases q : d = Cn R
    · subst q; rw [upf_eq] at hk'; omega
    · rw [upf_ne q] at hk'
      have := h4 d k (by omega) hk'
      show kok (Cp R d k) ∧ 1 ≤ ht (Cp R d k) ∧ ht (Cp R d k) ≤ upf (Cl R) (Cn R) l d ∧ (upf (Ct R) (Cn R) 0 d ≠ 0 → ht (Cp R d k) < upf (Ct R) (Cn R) 0 d) ∧ (k + 1 < upf (Ck R) (Cn R) 0 d → ht (Cp R d k) < ht (Cp R d (k + 1)))
      simp only [upf_ne q]
      exact this
theorem V_kn {R : RD} {c n : Nat} {P : Nat → Nat} (hV : VR R) (hn : n ≤ 30) (hP : c < Cn R → ∀ k, k < n → kok (P k) ∧ 1 ≤ ht (P k) ∧ ht (P k) ≤ Cl R c ∧ (Ct R c ≠ 0 → ht (P k) < Ct R c) ∧ (k + 1 < n → ht (P k) < ht (P (k + 1)))) : VR (Rkn R c n P) := by
  obtain ⟨h1, h2, h3, h4, h5, h6, h7⟩ := hV
  refine ⟨h1, h2, fun d hd => ?_, fun d k hd hk => ?_, h5, h6, h7⟩
  · obtain ⟨g1, g2, g3, g4, g5, g6⟩ := h3 d hd
    refine ⟨g1, g2, g3, g4, g5, ?_⟩
    show upf (Ck R) c n d ≤ 30
    by_cases q : d = c
    · subst q; rw [upf_eq]; exact hn
    · rw [upf_ne q]; exact g6
  · have hk' : k < upf (Ck R) c n d := hk
    show kok (upf (Cp R) c P d k) ∧ 1 ≤ ht (upf (Cp R) c P d k) ∧ ht (upf (Cp R) c P d k) ≤ Cl R d ∧ (Ct R d ≠ 0 → ht (upf (Cp R) c P d k) < Ct R d) ∧ (k + 1 < upf (Ck R) c n d → ht (upf (Cp R) c P d k) < ht (upf (Cp R) c P d (k + 1)))
    by_cases q : d = c
    · subst q
      rw [upf_eq] at hk'
      simp only [upf_eq]
      exact hP hd k hk'
    · rw [upf_ne q] at hk'
      simp only [upf_ne q]
      exact h4 d k hd hk'
theorem pck_ht {h s t : Nat} (hs : s < 4) (ht9 : t < 16) : ht (pck h s t) = h := by unfold ht pck; omega
theorem pck_so {h s t : Nat} (hs : s < 4) (ht9 : t < 16) : so (pck h s t) = s := by unfold so pck; omega
theorem pck_tu {h s t : Nat} (ht9 : t < 16) : tu (pck h s t) = t := by unfold tu pck; omega
theorem V_ins {R : RD} {c x k : Nat} (hV : VR R) (hc : c < Cn R) (hn : Ck R c < 30) (hx : kok x) (hh : 1 ≤ ht x ∧ ht x ≤ Cl R c ∧ (Ct R c = 0 ∨ ht x < Ct R c)) (hno : ∀ i, i < Ck R c → ht (Cp R c i) ≠ ht x) (hk1 : k ≤ Ck R c) (hk2 : ∀ i, i < k → ht (Cp R c i) < ht x) (hk3 : k < Ck R c → ht x ≤ ht (Cp R c k)) : VR (Rkn R c (Ck R c + 1) (insP (Cp R c) k x)) := by
  refine V_kn hV (by omega) (fun _ i hi => ?_)
  unfold insP
  rcases Nat.lt_trichotomy i k with g | g | g
  · obtain ⟨v1, v2, v3, v4, v5⟩ := hV.2.2.2.1 c i hc (by omega)
    rw [if_pos g]
    refine ⟨v1, v2, v3, v4, fun g2 => ?_⟩
    rcases Nat.lt_or_ge (i + 1) k with g3 | g3
    · rw [if_pos g3]; exact v5 (by omega)
    · rw [if_neg (by omega), if_pos (by omega)]; exact hk2 i g
  · subst g
    rw [if_neg (by omega), if_pos rfl]
    refine ⟨hx, hh.1, hh.2.1, fun g => by omega, fun g2 => ?_⟩
    rw [if_neg (by omega), if_neg (by omega), Nat.add_sub_cancel]
    have := hk3 (by omega)
    have := hno i (by omega)
    omega
  · obtain ⟨v1, v2, v3, v4, v5⟩ := hV.2.2.2.1 c (i - 1) hc (by omega)
    rw [if_neg (by omega), if_neg (by omega)]
    refine ⟨v1, v2, v3, v4, fun g2 => ?_⟩
    rw [if_neg (by omega), if_neg (by omega), Nat.add_sub_cancel]
    have := v5 (by omega)
    rw [show i - 1 + 1 = i by omega] at this
    exact this
theorem V_rem {R : RD} {c k : Nat} (hV : VR R) (hc : c < Cn R) (hk : k < Ck R c) : VR (Rkn R c (Ck R c - 1) (remP (Cp R c) k)) := by
  have h30 := (hV.2.2.1 c hc).2.2.2.2.2
  refine V_kn hV (by omega) (fun _ i hi => ?_)
  unfold remP
  rcases Nat.lt_or_ge i k with g | g
  · obtain ⟨v1, v2, v3, v4, v5⟩ := hV.2.2.2.1 c i hc (by omega)
    rw [if_pos g]
    refine ⟨v1, v2, v3, v4, fun g2 => ?_⟩
    rcases Nat.lt_or_ge (i + 1) k with g3 | g3
    · rw [if_pos g3]; exact v5 (by omega)
    · rw [if_neg (by omega)]; exact hV.mono hc (by omega) (by omega)
  · obtain ⟨v1, v2, v3, v4, v5⟩ := hV.2.2.2.1 c (i + 1) hc (by omega)
    rw [if_neg (by omega)]
    refine ⟨v1, v2, v3, v4, fun g2 => ?_⟩
    rw [if_neg (by omega)]
    exact hV.mono hc (by omega) (by omega)
theorem V_tr {R : RD} {c h n : Nat} (hV : VR R) (hc : c < Cn R) (hh : h ≤ Cl R c) (hn : n ≤ Ck R c) (hk : ∀ i, i < n → ht (Cp R c i) < h) : VR (Rtr R c h n) := by
  obtain ⟨h1, h2, h3, h4, h5, h6, h7⟩ := hV
  refine ⟨h1, h2, fun d hd => ?_, fun d k hd hk9 => ?_, h5, h6, h7⟩
  · obtain ⟨g1, g2, g3, g4, g5, g6⟩ := h3 d hd
    refine ⟨g1, g2, g3, g4, ?_, ?_⟩
    · show upf (Ct R) c h d ≤ Cl R d
      by_cases q : d = c
      · subst q; rw [upf_eq]; exact hh
      · rw [upf_ne q]; exact g5
    · show upf (Ck R) c n d ≤ 30
      by_cases q : d = c
      · subst q; rw [upf_eq]; omega
      · rw [upf_ne q]; exact g6
  · have hk' : k < upf (Ck R) c n d := hk9
    show kok (Cp R d k) ∧ 1 ≤ ht (Cp R d k) ∧ ht (Cp R d k) ≤ Cl R d ∧ (upf (Ct R) c h d ≠ 0 → ht (Cp R d k) < upf (Ct R) c h d) ∧ (k + 1 < upf (Ck R) c n d → ht (Cp R d k) < ht (Cp R d (k + 1)))
    by_cases q : d = c
    · subst q
      rw [upf_eq] at hk'
      simp only [upf_eq]
      obtain ⟨v1, v2, v3, v4, v5⟩ := h4 d k hd (by omega)
      exact ⟨v1, v2, v3, fun _ => hk k hk', fun g => v5 (by omega)⟩
    · rw [upf_ne q] at hk'
      simp only [upf_ne q]
      exact h4 d k hd hk'
theorem V_gp {R : RD} {q : Nat} (hV : VR R) (hq : 1 ≤ q ∧ q ≤ 100) : VR (Rgp R q) := ⟨hV.1, hq, hV.2.2.1, hV.2.2.2.1, hV.2.2.2.2⟩
theorem V_clr {R : RD} : VR (Rclr R) := ⟨Nat.zero_le _, (show 1 ≤ 15 ∧ 15 ≤ 100 by decide), fun c hc => absurd hc (Nat.not_lt_zero _), fun c k hc => absurd hc (Nat.not_lt_zero _), Nat.zero_le _, fun s hs => absurd hs (Nat.not_lt_zero _), fun s p hs => absurd hs (Nat.not_lt_zero _)⟩
theorem V_sm {R : RD} {n : Nat} {w p : Nat → Nat} {t : Nat → Nat → Nat} (hV : VR R) (hn : n ≤ 40) (h1 : ∀ s, s < n → w s < Cn R ∧ p s ≤ 12) (h2 : ∀ s k, s < n → k < p s → t s k < Cn R) : VR (Rsm R n w p t) := ⟨hV.1, hV.2.1, hV.2.2.1, hV.2.2.2.1, hn, h1, h2⟩
theorem Rgp_self {R : RD} : Rgp R (Cq R) = R := rfl
theorem posn_sp (P : Nat → Nat) (h : Nat) : ∀ n, (∀ i, i < posn P h n → ht (P i) < h) ∧ (posn P h n < n → h ≤ ht (P (posn P h n))) := by
  intro n
  induction n with
  | zero => exact ⟨fun i hi => absurd hi (Nat.not_lt_zero _), fun g => absurd g (Nat.not_lt_zero _)⟩
  | succ n ih =>
    have hle := posn_le P h n
    unfold posn
    by_cases g : posn P h n < n
    · rw [if_pos g]; exact ⟨ih.1, fun _ => ih.2 g⟩
    · have e : posn P h n = n := by omega
      rw [if_neg g]
      by_cases g2 : ht (P n) < h
      · rw [if_pos g2]
        refine ⟨fun i hi => ?_, fun g3 => absurd g3 (Nat.lt_irrefl _)⟩
        rcases Nat.lt_or_ge i n with g4 | g4
        · exact ih.1 i (by omega)
        · have e2 : i = n := by omega
          subst e2; exact g2
      · rw [if_neg g2]
        exact ⟨fun i hi => ih.1 i (by omega), fun _ => by omega⟩

section
variable {len : Nat} {m : Mm} {Q : Option AV → Sx → Prop} {r c g l o h s t : Int}
theorem C_cord {S : Nat → RD} (hS : CS S m) (q : ∀ m1, CS (on1 S r (-2) (oCord g c l)).2 m1 → Mo m m1 → Q (some (aI (on1 S r (-2) (oCord g c l)).1)) (m1, tl len)) : E 11 0 [some (aA 1), some (aI (r)), some (aI (g)), some (aI (c)), some (aI (l)), none] [] (m, tl len) Q := by
  refine E_s (p' := 1) (st' := aA 1 :: _) rfl rfl ?_
  refine E_s (p' := 2) (st' := aI (r) :: _) rfl rfl ?_
  refine E_callV (k' := 12) (a := 1) (r := []) (L0 := [some (aA 1), some (aI (r))]) rfl rfl rfl rfl rfl rfl rfl rfl rfl rfl ?_
  refine c_recordOf' (fun i a hi hr ha hR => ?_) (fun hr => ?_)
  · refine E_go (p' := 5) (L' := [some (aA 1), some (aI (r)), some (aI (g)), some (aI (c)), some (aI (l)), none]) (st' := [aA a]) rfl rfl rfl ?_
    obtain ⟨hV, hC, hrd⟩ := hS i hi
    rw [← ha] at hC hrd
    have hn60 := hV.1
    have hab := isR_b hR
    have hs40 := hV.2.2.2.2.1
    refine E_s (p' := 7) (L' := [some (aA 1), some (aI (r)), some (aI (g)), some (aI (c)), some (aI (l)), some (aA a)]) rfl rfl ?_
    refine E_s (p' := 9) (st' := aA a :: _) rfl rfl ?_
    refine E_s (p' := 12) rfl rfl ?_
    refine E_s (p' := 13) (st' := aI (g) :: _) rfl rfl ?_
    refine E_if_lt (x := (g)) rfl (by decide) (fun h_1 => ?_) (fun h_1 => ?_)
    · refine E_go (p' := 31) (L' := [some (aA 1), some (aI (r)), some (aI (g)), some (aI (c)), some (aI (l)), some (aA a)]) (st' := []) rfl rfl rfl ?_
      refine E_s (p' := 33) (st' := aI (-2) :: _) rfl rfl ?_
      refine E_ret rfl rfl ?_
      exact fin_same hS hi hr q (by unfold oCord; rw [cif_neg (by unfold okc; omega)])
    · refine E_go (p' := 16) (L' := [some (aA 1), some (aI (r)), some (aI (g)), some (aI (c)), some (aI (l)), some (aA a)]) (st' := []) rfl rfl rfl ?_
      refine E_s (p' := 17) (st' := aI (g) :: _) rfl rfl ?_
      refine E_s (p' := 19) (st' := aI 12 :: _) rfl rfl ?_
      refine E_icmp_ge (x := (g)) (y := 12) rfl (by decide) (fun h_2 => ?_) (fun h_2 => ?_)
      · refine E_go (p' := 31) (L' := [some (aA 1), some (aI (r)), some (aI (g)), some (aI (c)), some (aI (l)), some (aA a)]) (st' := []) rfl rfl rfl ?_
        refine E_s (p' := 33) (st' := aI (-2) :: _) rfl rfl ?_
        refine E_ret rfl rfl ?_
        exact fin_same hS hi hr q (by unfold oCord; rw [cif_neg (by unfold okc; omega)])
      · refine E_go (p' := 22) (L' := [some (aA 1), some (aI (r)), some (aI (g)), some (aI (c)), some (aI (l)), some (aA a)]) (st' := []) rfl rfl rfl ?_
        refine E_s (p' := 23) (st' := aI (c) :: _) rfl rfl ?_
        refine E_s (p' := 25) (st' := aI (l) :: _) rfl rfl ?_
        refine E_callL (p' := 28) (L0 := [some (aI (c)), some (aI (l))]) rfl rfl rfl ?_
        refine c_canBeCord (fun hk1 hk2 => ?_) (fun hk0 => ?_)
        · refine E_go (p' := 28) (L' := [some (aA 1), some (aI (r)), some (aI (g)), some (aI (c)), some (aI (l)), some (aA a)]) (st' := [aI 1]) rfl rfl rfl ?_
          refine E_s (p' := 34) rfl rfl ?_
          refine E_s (p' := 36) (st' := aA a :: _) rfl rfl ?_
          refine E_s (p' := 37) (st' := aI (g) :: _) rfl rfl ?_
          refine E_s (p' := 38) (st' := aI (-1) :: _) rfl rfl ?_
          refine E_s (p' := 39) (st' := aI (c) :: _) rfl rfl ?_
          refine E_s (p' := 41) (st' := aI (l) :: _) rfl rfl ?_
          refine E_callV (k' := 14) (a := a) (r := []) (L0 := [some (aA a), some (aI (g)), some (aI (-1)), some (aI (c)), some (aI (l)), none]) rfl rfl rfl rfl rfl (kR_0 hR) rfl rfl rfl rfl ?_
          refine c_addCord hR hC hV (by omega) (by omega) (fun m1 hl60 hC1 h71 hF1 => ?_) (fun hf60 => ?_)
          · refine E_go (p' := 44) (L' := [some (aA 1), some (aI (r)), some (aI (g)), some (aI (c)), some (aI (l)), some (aA a)]) (st' := [aI ((Cn (S i) : Nat) : Int)]) rfl rfl rfl ?_
            refine E_ret rfl rfl ?_
            exact fin_in hS hi hr ha q (by unfold oCord; rw [cif_pos (by unfold okc; omega), cif_neg (by omega)]) ⟨V_add hV hl60 (by omega) (by omega) (by omega) (by omega), hC1, Or.inl h71⟩ (hF1.wide (by omega) (by omega))
          · refine E_go (p' := 44) (L' := [some (aA 1), some (aI (r)), some (aI (g)), some (aI (c)), some (aI (l)), some (aA a)]) (st' := [aI (-3)]) rfl rfl rfl ?_
            refine E_ret rfl rfl ?_
            exact fin_same hS hi hr q (by unfold oCord; rw [cif_pos (by unfold okc; omega), cif_pos hf60])
        · refine E_go (p' := 28) (L' := [some (aA 1), some (aI (r)), some (aI (g)), some (aI (c)), some (aI (l)), some (aA a)]) (st' := [aI 0]) rfl rfl rfl ?_
          refine E_s (p' := 31) rfl rfl ?_
          refine E_s (p' := 33) (st' := aI (-2) :: _) rfl rfl ?_
          refine E_ret rfl rfl ?_
          exact fin_same hS hi hr q (by unfold oCord; rw [cif_neg (by unfold okc; omega)])
  · refine E_go (p' := 5) (L' := [some (aA 1), some (aI (r)), some (aI (g)), some (aI (c)), some (aI (l)), none]) (st' := [aN]) rfl rfl rfl ?_
    refine E_s (p' := 7) (L' := [some (aA 1), some (aI (r)), some (aI (g)), some (aI (c)), some (aI (l)), some (aN)]) rfl rfl ?_
    refine E_s (p' := 9) (st' := aN :: _) rfl rfl ?_
    refine E_s (p' := 31) rfl rfl ?_
    refine E_s (p' := 33) (st' := aI (-2) :: _) rfl rfl ?_
    refine E_ret rfl rfl ?_
    exact fin_out hS q hr
theorem C_hang {S : Nat → RD} (hS : CS S m) (q : ∀ m1, CS (on1 S r (-2) (oHang o c l)).2 m1 → Mo m m1 → Q (some (aI (on1 S r (-2) (oHang o c l)).1)) (m1, tl len)) : E 16 0 [some (aA 1), some (aI (r)), some (aI (o)), some (aI (c)), some (aI (l)), none] [] (m, tl len) Q := by
  refine E_s (p' := 1) (st' := aA 1 :: _) rfl rfl ?_
  refine E_s (p' := 2) (st' := aI (r) :: _) rfl rfl ?_
  refine E_callV (k' := 12) (a := 1) (r := []) (L0 := [some (aA 1), some (aI (r))]) rfl rfl rfl rfl rfl rfl rfl rfl rfl rfl ?_
  refine c_recordOf' (fun i a hi hr ha hR => ?_) (fun hr => ?_)
  · refine E_go (p' := 5) (L' := [some (aA 1), some (aI (r)), some (aI (o)), some (aI (c)), some (aI (l)), none]) (st' := [aA a]) rfl rfl rfl ?_
    obtain ⟨hV, hC, hrd⟩ := hS i hi
    rw [← ha] at hC hrd
    have hn60 := hV.1
    have hab := isR_b hR
    have hs40 := hV.2.2.2.2.1
    refine E_s (p' := 7) (L' := [some (aA 1), some (aI (r)), some (aI (o)), some (aI (c)), some (aI (l)), some (aA a)]) rfl rfl ?_
    refine E_s (p' := 9) (st' := aA a :: _) rfl rfl ?_
    refine E_s (p' := 12) rfl rfl ?_
    refine E_s (p' := 14) (st' := aA a :: _) rfl rfl ?_
    refine E_gA (b := a + 1) rfl rfl rfl (kR_0 hR) (hR_0_0 hR) rfl ?_
    refine E_s (p' := 18) (st' := aI (o) :: _) rfl rfl ?_
    refine E_callV (k' := 17) (a := a + 1) (r := []) (L0 := [some (aA (a + 1)), some (aI (o))]) rfl rfl rfl rfl rfl (kR_1 hR) rfl rfl rfl rfl ?_
    refine c_has hR hC (fun ci he_ci hc_ci => ?_) (fun hno => ?_)
    · refine E_go (p' := 21) (L' := [some (aA 1), some (aI (r)), some (aI (o)), some (aI (c)), some (aI (l)), some (aA a)]) (st' := [aI 1]) rfl rfl rfl ?_
      subst he_ci
      refine E_s (p' := 24) rfl rfl ?_
      refine E_s (p' := 25) (st' := aI (c) :: _) rfl rfl ?_
      refine E_s (p' := 27) (st' := aI (l) :: _) rfl rfl ?_
      refine E_callL (p' := 30) (L0 := [some (aI (c)), some (aI (l))]) rfl rfl rfl ?_
      refine c_canBeCord (fun hk1 hk2 => ?_) (fun hk0 => ?_)
      · refine E_go (p' := 30) (L' := [some (aA 1), some (aI (r)), some (aI ((ci : Nat) : Int)), some (aI (c)), some (aI (l)), some (aA a)]) (st' := [aI 1]) rfl rfl rfl ?_
        refine E_s (p' := 36) rfl rfl ?_
        refine E_s (p' := 38) (st' := aA a :: _) rfl rfl ?_
        refine E_gA (b := a + 1) rfl rfl rfl (kR_0 hR) (hR_0_0 hR) rfl ?_
        refine E_s (p' := 42) (st' := aI ((ci : Nat) : Int) :: _) rfl rfl ?_
        refine E_callV (k' := 18) (a := a + 1) (r := []) (L0 := [some (aA (a + 1)), some (aI ((ci : Nat) : Int)), none, none, none]) rfl rfl rfl rfl rfl (kR_1 hR) rfl rfl rfl rfl ?_
        refine c_above hR hC hV hc_ci ?_
        refine E_go (p' := 45) (L' := [some (aA 1), some (aI (r)), some (aI ((ci : Nat) : Int)), some (aI (c)), some (aI (l)), some (aA a)]) (st' := [aI ((min 4 (dep (S i) ci) : Nat) : Int)]) rfl rfl rfl ?_
        refine E_s (p' := 46) (st' := aI 3 :: _) rfl rfl ?_
        refine E_icmp_le (x := ((min 4 (dep (S i) ci) : Nat) : Int)) (y := 3) rfl (by decide) (fun h_1 => ?_) (fun h_1 => ?_)
        · refine E_go (p' := 52) (L' := [some (aA 1), some (aI (r)), some (aI ((ci : Nat) : Int)), some (aI (c)), some (aI (l)), some (aA a)]) (st' := []) rfl rfl rfl ?_
          refine E_s (p' := 54) (st' := aA a :: _) rfl rfl ?_
          refine E_s (p' := 55) (st' := aI (-1) :: _) rfl rfl ?_
          refine E_s (p' := 56) (st' := aI ((ci : Nat) : Int) :: _) rfl rfl ?_
          refine E_s (p' := 57) (st' := aI (c) :: _) rfl rfl ?_
          refine E_s (p' := 59) (st' := aI (l) :: _) rfl rfl ?_
          refine E_callV (k' := 14) (a := a) (r := []) (L0 := [some (aA a), some (aI (-1)), some (aI ((ci : Nat) : Int)), some (aI (c)), some (aI (l)), none]) rfl rfl rfl rfl rfl (kR_0 hR) rfl rfl rfl rfl ?_
          refine c_addCord hR hC hV (by omega) (by omega) (fun m1 hl60 hC1 h71 hF1 => ?_) (fun hf60 => ?_)
          · refine E_go (p' := 62) (L' := [some (aA 1), some (aI (r)), some (aI ((ci : Nat) : Int)), some (aI (c)), some (aI (l)), some (aA a)]) (st' := [aI ((Cn (S i) : Nat) : Int)]) rfl rfl rfl ?_
            refine E_ret rfl rfl ?_
            exact fin_in hS hi hr ha q (by unfold oHang; (try simp only [Int.toNat_natCast]); rw [cif_pos (by unfold okc inC; omega), cif_neg (show ¬ (3 < dep (S i) ci ∨ Cn (S i) = 60) by omega)]) ⟨V_add hV hl60 (by omega) (by omega) (by omega) (by omega), hC1, Or.inl h71⟩ (hF1.wide (by omega) (by omega))
          · refine E_go (p' := 62) (L' := [some (aA 1), some (aI (r)), some (aI ((ci : Nat) : Int)), some (aI (c)), some (aI (l)), some (aA a)]) (st' := [aI (-3)]) rfl rfl rfl ?_
            refine E_ret rfl rfl ?_
            exact fin_same hS hi hr q (by unfold oHang; (try simp only [Int.toNat_natCast]); rw [cif_pos (by unfold okc inC; omega), cif_pos (by first | exact Or.inr hf60 | exact Or.inl (show 3 < dep (S i) ci by omega))])
        · refine E_go (p' := 49) (L' := [some (aA 1), some (aI (r)), some (aI ((ci : Nat) : Int)), some (aI (c)), some (aI (l)), some (aA a)]) (st' := []) rfl rfl rfl ?_
          refine E_s (p' := 51) (st' := aI (-3) :: _) rfl rfl ?_
          refine E_ret rfl rfl ?_
          exact fin_same hS hi hr q (by unfold oHang; (try simp only [Int.toNat_natCast]); rw [cif_pos (by unfold okc inC; omega), cif_pos (by first | exact Or.inr hf60 | exact Or.inl (show 3 < dep (S i) ci by omega))])
      · refine E_go (p' := 30) (L' := [some (aA 1), some (aI (r)), some (aI ((ci : Nat) : Int)), some (aI (c)), some (aI (l)), some (aA a)]) (st' := [aI 0]) rfl rfl rfl ?_
        refine E_s (p' := 33) rfl rfl ?_
        refine E_s (p' := 35) (st' := aI (-2) :: _) rfl rfl ?_
        refine E_ret rfl rfl ?_
        exact fin_same hS hi hr q (by unfold oHang; (try simp only [Int.toNat_natCast]); rw [cif_neg (by unfold okc inC; omega)])
    · refine E_go (p' := 21) (L' := [some (aA 1), some (aI (r)), some (aI (o)), some (aI (c)), some (aI (l)), some (aA a)]) (st' := [aI 0]) rfl rfl rfl ?_
      refine E_s (p' := 33) rfl rfl ?_
      refine E_s (p' := 35) (st' := aI (-2) :: _) rfl rfl ?_
      refine E_ret rfl rfl ?_
      exact fin_same hS hi hr q (by unfold oHang; (try simp only [Int.toNat_natCast]); rw [cif_neg (by unfold okc inC; omega)])
  · refine E_go (p' := 5) (L' := [some (aA 1), some (aI (r)), some (aI (o)), some (aI (c)), some (aI (l)), none]) (st' := [aN]) rfl rfl rfl ?_
    refine E_s (p' := 7) (L' := [some (aA 1), some (aI (r)), some (aI (o)), some (aI (c)), some (aI (l)), some (aN)]) rfl rfl ?_
    refine E_s (p' := 9) (st' := aN :: _) rfl rfl ?_
    refine E_s (p' := 33) rfl rfl ?_
    refine E_s (p' := 35) (st' := aI (-2) :: _) rfl rfl ?_
    refine E_ret rfl rfl ?_
    exact fin_out hS q hr
theorem C_knot {S : Nat → RD} (hS : CS S m) (q : ∀ m1, CS (on1 S r (-2) (oKnot c h s t)).2 m1 → Mo m m1 → Q (some (aI (on1 S r (-2) (oKnot c h s t)).1)) (m1, tl len)) : E 19 0 [some (aA 1), some (aI (r)), some (aI (c)), some (aI (h)), some (aI (s)), some (aI (t)), none] [] (m, tl len) Q := by
  refine E_s (p' := 1) (st' := aA 1 :: _) rfl rfl ?_
  refine E_s (p' := 2) (st' := aI (r) :: _) rfl rfl ?_
  refine E_callV (k' := 12) (a := 1) (r := []) (L0 := [some (aA 1), some (aI (r))]) rfl rfl rfl rfl rfl rfl rfl rfl rfl rfl ?_
  refine c_recordOf' (fun i a hi hr ha hR => ?_) (fun hr => ?_)
  · refine E_go (p' := 5) (L' := [some (aA 1), some (aI (r)), some (aI (c)), some (aI (h)), some (aI (s)), some (aI (t)), none]) (st' := [aA a]) rfl rfl rfl ?_
    obtain ⟨hV, hC, hrd⟩ := hS i hi
    rw [← ha] at hC hrd
    have hn60 := hV.1
    have hab := isR_b hR
    have hs40 := hV.2.2.2.2.1
    refine E_s (p' := 7) (L' := [some (aA 1), some (aI (r)), some (aI (c)), some (aI (h)), some (aI (s)), some (aI (t)), some (aA a)]) rfl rfl ?_
    refine E_s (p' := 9) (st' := aA a :: _) rfl rfl ?_
    refine E_s (p' := 12) rfl rfl ?_
    refine E_s (p' := 14) (st' := aA a :: _) rfl rfl ?_
    refine E_gA (b := a + 1) rfl rfl rfl (kR_0 hR) (hR_0_0 hR) rfl ?_
    refine E_s (p' := 18) (st' := aI (c) :: _) rfl rfl ?_
    refine E_callV (k' := 17) (a := a + 1) (r := []) (L0 := [some (aA (a + 1)), some (aI (c))]) rfl rfl rfl rfl rfl (kR_1 hR) rfl rfl rfl rfl ?_
    refine c_has hR hC (fun ci he_ci hc_ci => ?_) (fun hno => ?_)
    · refine E_go (p' := 21) (L' := [some (aA 1), some (aI (r)), some (aI (c)), some (aI (h)), some (aI (s)), some (aI (t)), some (aA a)]) (st' := [aI 1]) rfl rfl rfl ?_
      subst he_ci
      refine E_s (p' := 24) rfl rfl ?_
      refine E_s (p' := 26) (st' := aI (s) :: _) rfl rfl ?_
      refine E_s (p' := 28) (st' := aI (t) :: _) rfl rfl ?_
      refine E_callL (p' := 31) (L0 := [some (aI (s)), some (aI (t))]) rfl rfl rfl ?_
      refine c_canBeKnot (fun hkd => ?_) (fun hkn => ?_)
      · refine E_go (p' := 31) (L' := [some (aA 1), some (aI (r)), some (aI ((ci : Nat) : Int)), some (aI (h)), some (aI (s)), some (aI (t)), some (aA a)]) (st' := [aI 1]) rfl rfl rfl ?_
        refine E_s (p' := 34) rfl rfl ?_
        refine E_s (p' := 36) (st' := aA a :: _) rfl rfl ?_
        refine E_gA (b := a + 1) rfl rfl rfl (kR_0 hR) (hR_0_0 hR) rfl ?_
        refine E_s (p' := 40) (st' := aI ((ci : Nat) : Int) :: _) rfl rfl ?_
        refine E_s (p' := 41) (st' := aI (h) :: _) rfl rfl ?_
        refine E_callV (k' := 21) (a := a + 1) (r := []) (L0 := [some (aA (a + 1)), some (aI ((ci : Nat) : Int)), some (aI (h))]) rfl rfl rfl rfl rfl (kR_1 hR) rfl rfl rfl rfl ?_
        refine c_isFree hR hC hV hc_ci (fun hw1 hnt => ?_) (fun hfr => ?_)
        · refine E_go (p' := 44) (L' := [some (aA 1), some (aI (r)), some (aI ((ci : Nat) : Int)), some (aI (h)), some (aI (s)), some (aI (t)), some (aA a)]) (st' := [aI 1]) rfl rfl rfl ?_
          refine E_s (p' := 50) rfl rfl ?_
          have hvc := hV.2.2.1 ci hc_ci
          have hk30 := hvc.2.2.2.2.2
          refine E_s (p' := 52) (st' := aA a :: _) rfl rfl ?_
          refine E_gA (b := a + 1) rfl rfl rfl (kR_0 hR) (hR_0_0 hR) rfl ?_
          refine E_gA (b := a + 7) rfl rfl rfl (kR_1 hR) (hR_1_5 hR) rfl ?_
          refine E_s (p' := 59) (st' := aI ((ci : Nat) : Int) :: _) rfl rfl ?_
          refine E_ald (e := ci) (N := 60) (v := ((Ck (S i) ci : Nat) : Int)) rfl (kR_7 hR) (rfl) (by omega) (CR_7 hC (by omega)) ?_
          refine E_s (p' := 62) (st' := aI 30 :: _) rfl rfl ?_
          refine E_icmp_lt (x := ((Ck (S i) ci : Nat) : Int)) (y := 30) rfl (by decide) (fun h_1 => ?_) (fun h_1 => ?_)
          · refine E_go (p' := 68) (L' := [some (aA 1), some (aI (r)), some (aI ((ci : Nat) : Int)), some (aI (h)), some (aI (s)), some (aI (t)), some (aA a)]) (st' := []) rfl rfl rfl ?_
            obtain ⟨hn, eh⟩ : ∃ x : Nat, h = (x : Int) := ⟨h.toNat, by unfold whl at hw1; omega⟩
            obtain ⟨sn, es⟩ : ∃ x : Nat, s = (x : Int) := ⟨s.toNat, by unfold kind at hkd; omega⟩
            obtain ⟨tn, et⟩ : ∃ x : Nat, t = (x : Int) := ⟨t.toNat, by unfold kind at hkd; omega⟩
            subst eh es et
            have hb3 : hn ≤ 600 ∧ sn < 4 ∧ tn < 16 ∧ 1 ≤ hn := by unfold whl at hw1; unfold kind at hkd; have := (hV.2.2.1 ci hc_ci).2.2.2.1; omega
            have hpl : pck hn sn tn < 2147483648 := by unfold pck; omega
            refine E_s (p' := 70) (st' := aA a :: _) rfl rfl ?_
            refine E_gA (b := a + 1) rfl rfl rfl (kR_0 hR) (hR_0_0 hR) rfl ?_
            refine E_s (p' := 74) (st' := aI ((ci : Nat) : Int) :: _) rfl rfl ?_
            refine E_s (p' := 75) (st' := aI ((hn : Nat) : Int) :: _) rfl rfl ?_
            refine E_s (p' := 77) (st' := aI ((sn : Nat) : Int) :: _) rfl rfl ?_
            refine E_s (p' := 79) (st' := aI ((tn : Nat) : Int) :: _) rfl rfl ?_
            refine E_callL (p' := 82) (L0 := [some (aI ((hn : Nat) : Int)), some (aI ((sn : Nat) : Int)), some (aI ((tn : Nat) : Int))]) rfl rfl rfl ?_
            refine c_pack (h := hn) (s := sn) (t := tn) (by omega) (by omega) (by omega) ?_
            refine E_go (p' := 82) (L' := [some (aA 1), some (aI (r)), some (aI ((ci : Nat) : Int)), some (aI ((hn : Nat) : Int)), some (aI ((sn : Nat) : Int)), some (aI ((tn : Nat) : Int)), some (aA a)]) (st' := [aI ((pck hn sn tn : Nat) : Int), aI ((ci : Nat) : Int), aA (a + 1)]) rfl rfl rfl ?_
            refine E_callV (k' := 27) (a := a + 1) (r := []) (L0 := [some (aA (a + 1)), some (aI ((ci : Nat) : Int)), some (aI ((pck hn sn tn : Nat) : Int))]) rfl rfl rfl rfl rfl (kR_1 hR) rfl rfl rfl rfl ?_
            refine c_insert hR hC hV hc_ci hpl (by omega) (fun m1 hC1 hF1 => ?_)
            refine E_go (p' := 85) (L' := [some (aA 1), some (aI (r)), some (aI ((ci : Nat) : Int)), some (aI ((hn : Nat) : Int)), some (aI ((sn : Nat) : Int)), some (aI ((tn : Nat) : Int)), some (aA a)]) (st' := []) rfl rfl rfl ?_
            refine E_s (p' := 87) (st' := aA a :: _) rfl rfl ?_
            refine E_callV (k' := 15) (a := a) (r := []) (L0 := [some (aA a)]) rfl rfl rfl rfl rfl (kR_0 hR) rfl rfl rfl rfl ?_
            refine c_changed hR ?_
            refine E_go (p' := 90) (L' := [some (aA 1), some (aI (r)), some (aI ((ci : Nat) : Int)), some (aI ((hn : Nat) : Int)), some (aI ((sn : Nat) : Int)), some (aI ((tn : Nat) : Int)), some (aA a)]) (st' := []) rfl rfl rfl ?_
            refine E_s (p' := 92) (st' := aA a :: _) rfl rfl ?_
            refine E_gA (b := a + 1) rfl rfl rfl (kR_0 hR) (hR_0_0 hR) rfl ?_
            refine E_gA (b := a + 7) rfl rfl rfl (kR_1 hR) (hR_1_5 hR) rfl ?_
            refine E_s (p' := 99) (st' := aI ((ci : Nat) : Int) :: _) rfl rfl ?_
            refine E_ald (e := ci) (N := 60) (v := ((Ck (S i) ci + 1 : Nat) : Int)) rfl (kR_7 hR) (rfl) (by omega) ((up2_ne (by omega)).trans ((up2_ne (by omega)).trans (((CR_7 hC1 hc_ci).trans (by show ((upf (Ck (S i)) ci (Ck (S i) ci + 1) ci : Nat) : Int) = _; rw [upf_eq]))))) ?_
            refine E_ret rfl rfl ?_
            have eht := pck_ht (h := hn) (s := sn) (t := tn) hb3.2.1 hb3.2.2.1
            have hps := posn_sp (Cp (S i) ci) hn (Ck (S i) ci)
            rw [eht] at hC1
            refine fin_in hS hi hr ha q (by unfold oKnot; (try simp only [Int.toNat_natCast]); rw [cif_pos ⟨(by unfold inC; omega), hkd, hw1, hnt⟩, cif_neg (show ¬ Ck (S i) ci = 30 by omega)]; try rfl) ⟨V_ins hV hc_ci (by omega) (by unfold kok; rw [pck_so hb3.2.1 hb3.2.2.1, pck_tu hb3.2.2.1]; unfold kind at hkd; omega) (by rw [eht]; unfold whl at hw1; omega) (fun k hk e => hnt ⟨k, hk, by rw [e, eht]⟩) (posn_le _ _ _) (by rw [eht]; exact hps.1) (by rw [eht]; exact hps.2), hC1.of (fun b j g1 g2 g3 => (up2_o (by omega)).trans (up2_o (by omega))), Or.inl ((up2_sl (by decide)).trans up2_eq)⟩ (fun b j hb => (up2_ne (by omega)).trans ((up2_ne (by omega)).trans (hF1 _ _ (by omega))))
          · refine E_go (p' := 65) (L' := [some (aA 1), some (aI (r)), some (aI ((ci : Nat) : Int)), some (aI (h)), some (aI (s)), some (aI (t)), some (aA a)]) (st' := []) rfl rfl rfl ?_
            refine E_s (p' := 67) (st' := aI (-3) :: _) rfl rfl ?_
            refine E_ret rfl rfl ?_
            exact fin_same hS hi hr q (by unfold oKnot; (try simp only [Int.toNat_natCast]); rw [cif_pos ⟨(by unfold inC; omega), hkd, hw1, hnt⟩, cif_pos (show Ck (S i) ci = 30 by omega)])
        · refine E_go (p' := 44) (L' := [some (aA 1), some (aI (r)), some (aI ((ci : Nat) : Int)), some (aI (h)), some (aI (s)), some (aI (t)), some (aA a)]) (st' := [aI 0]) rfl rfl rfl ?_
          refine E_s (p' := 47) rfl rfl ?_
          refine E_s (p' := 49) (st' := aI (-2) :: _) rfl rfl ?_
          refine E_ret rfl rfl ?_
          exact fin_same hS hi hr q (by unfold oKnot; (try simp only [Int.toNat_natCast]); rw [cif_neg (by first | (unfold inC; omega) | exact fun g => hkn g.2.1 | exact fun g => hfr.elim (fun z => z g.2.2.1) g.2.2.2)])
      · refine E_go (p' := 31) (L' := [some (aA 1), some (aI (r)), some (aI ((ci : Nat) : Int)), some (aI (h)), some (aI (s)), some (aI (t)), some (aA a)]) (st' := [aI 0]) rfl rfl rfl ?_
        refine E_s (p' := 47) rfl rfl ?_
        refine E_s (p' := 49) (st' := aI (-2) :: _) rfl rfl ?_
        refine E_ret rfl rfl ?_
        exact fin_same hS hi hr q (by unfold oKnot; (try simp only [Int.toNat_natCast]); rw [cif_neg (by first | (unfold inC; omega) | exact fun g => hkn g.2.1 | exact fun g => hfr.elim (fun z => z g.2.2.1) g.2.2.2)])
    · refine E_go (p' := 21) (L' := [some (aA 1), some (aI (r)), some (aI (c)), some (aI (h)), some (aI (s)), some (aI (t)), some (aA a)]) (st' := [aI 0]) rfl rfl rfl ?_
      refine E_s (p' := 47) rfl rfl ?_
      refine E_s (p' := 49) (st' := aI (-2) :: _) rfl rfl ?_
      refine E_ret rfl rfl ?_
      exact fin_same hS hi hr q (by unfold oKnot; (try simp only [Int.toNat_natCast]); rw [cif_neg (by first | (unfold inC; omega) | exact fun g => hkn g.2.1 | exact fun g => hfr.elim (fun z => z g.2.2.1) g.2.2.2)])
  · refine E_go (p' := 5) (L' := [some (aA 1), some (aI (r)), some (aI (c)), some (aI (h)), some (aI (s)), some (aI (t)), none]) (st' := [aN]) rfl rfl rfl ?_
    refine E_s (p' := 7) (L' := [some (aA 1), some (aI (r)), some (aI (c)), some (aI (h)), some (aI (s)), some (aI (t)), some (aN)]) rfl rfl ?_
    refine E_s (p' := 9) (st' := aN :: _) rfl rfl ?_
    refine E_s (p' := 47) rfl rfl ?_
    refine E_s (p' := 49) (st' := aI (-2) :: _) rfl rfl ?_
    refine E_ret rfl rfl ?_
    exact fin_out hS q hr
theorem C_untie {S : Nat → RD} (hS : CS S m) (q : ∀ m1, CS (on1 S r (-1) (oUntie c h)).2 m1 → Mo m m1 → Q (some (aI (on1 S r (-1) (oUntie c h)).1)) (m1, tl len)) : E 29 0 [some (aA 1), some (aI (r)), some (aI (c)), some (aI (h)), none] [] (m, tl len) Q := by
  refine E_s (p' := 1) (st' := aA 1 :: _) rfl rfl ?_
  refine E_s (p' := 2) (st' := aI (r) :: _) rfl rfl ?_
  refine E_callV (k' := 12) (a := 1) (r := []) (L0 := [some (aA 1), some (aI (r))]) rfl rfl rfl rfl rfl rfl rfl rfl rfl rfl ?_
  refine c_recordOf' (fun i a hi hr ha hR => ?_) (fun hr => ?_)
  · refine E_go (p' := 5) (L' := [some (aA 1), some (aI (r)), some (aI (c)), some (aI (h)), none]) (st' := [aA a]) rfl rfl rfl ?_
    obtain ⟨hV, hC, hrd⟩ := hS i hi
    rw [← ha] at hC hrd
    have hn60 := hV.1
    have hab := isR_b hR
    have hs40 := hV.2.2.2.2.1
    refine E_s (p' := 7) (L' := [some (aA 1), some (aI (r)), some (aI (c)), some (aI (h)), some (aA a)]) rfl rfl ?_
    refine E_s (p' := 9) (st' := aA a :: _) rfl rfl ?_
    refine E_s (p' := 12) rfl rfl ?_
    refine E_s (p' := 14) (st' := aA a :: _) rfl rfl ?_
    refine E_gA (b := a + 1) rfl rfl rfl (kR_0 hR) (hR_0_0 hR) rfl ?_
    refine E_s (p' := 18) (st' := aI (c) :: _) rfl rfl ?_
    refine E_callV (k' := 17) (a := a + 1) (r := []) (L0 := [some (aA (a + 1)), some (aI (c))]) rfl rfl rfl rfl rfl (kR_1 hR) rfl rfl rfl rfl ?_
    refine c_has hR hC (fun ci he_ci hc_ci => ?_) (fun hno => ?_)
    · refine E_go (p' := 21) (L' := [some (aA 1), some (aI (r)), some (aI (c)), some (aI (h)), some (aA a)]) (st' := [aI 1]) rfl rfl rfl ?_
      subst he_ci
      refine E_s (p' := 24) rfl rfl ?_
      refine E_s (p' := 26) (st' := aA a :: _) rfl rfl ?_
      refine E_gA (b := a + 1) rfl rfl rfl (kR_0 hR) (hR_0_0 hR) rfl ?_
      refine E_s (p' := 30) (st' := aI ((ci : Nat) : Int) :: _) rfl rfl ?_
      refine E_s (p' := 31) (st' := aI (h) :: _) rfl rfl ?_
      refine E_callV (k' := 30) (a := a + 1) (r := []) (L0 := [some (aA (a + 1)), some (aI ((ci : Nat) : Int)), some (aI (h)), none, none]) rfl rfl rfl rfl rfl (kR_1 hR) rfl rfl rfl rfl ?_
      refine c_remove hR hC hV hc_ci (fun k1 m1 hk1 hk2 hC1 hF1 => ?_) (fun hnt => ?_)
      · refine E_go (p' := 34) (L' := [some (aA 1), some (aI (r)), some (aI ((ci : Nat) : Int)), some (aI (h)), some (aA a)]) (st' := [aI 1]) rfl rfl rfl ?_
        refine E_s (p' := 39) rfl rfl ?_
        refine E_s (p' := 41) (st' := aA a :: _) rfl rfl ?_
        refine E_callV (k' := 15) (a := a) (r := []) (L0 := [some (aA a)]) rfl rfl rfl rfl rfl (kR_0 hR) rfl rfl rfl rfl ?_
        refine c_changed hR ?_
        refine E_go (p' := 44) (L' := [some (aA 1), some (aI (r)), some (aI ((ci : Nat) : Int)), some (aI (h)), some (aA a)]) (st' := []) rfl rfl rfl ?_
        refine E_s (p' := 46) (st' := aA a :: _) rfl rfl ?_
        refine E_gA (b := a + 1) rfl rfl rfl (kR_0 hR) (hR_0_0 hR) rfl ?_
        refine E_gA (b := a + 7) rfl rfl rfl (kR_1 hR) (hR_1_5 hR) rfl ?_
        refine E_s (p' := 53) (st' := aI ((ci : Nat) : Int) :: _) rfl rfl ?_
        refine E_ald (e := ci) (N := 60) (v := ((Ck (S i) ci - 1 : Nat) : Int)) rfl (kR_7 hR) (rfl) (by omega) ((up2_ne (by omega)).trans ((up2_ne (by omega)).trans (((CR_7 hC1 hc_ci).trans (by show ((upf (Ck (S i)) ci (Ck (S i) ci - 1) ci : Nat) : Int) = _; rw [upf_eq]))))) ?_
        refine E_ret rfl rfl ?_
        obtain ⟨hn, eh⟩ : ∃ x : Nat, h = (x : Int) := ⟨h.toNat, by omega⟩
        subst eh
        have ep := posn_u (P := Cp (S i) ci) (h := hn) (n := Ck (S i) ci) (k := k1) (by omega) (fun j hj => by have := hV.mono hc_ci hj hk1; omega) (fun _ => by omega)
        refine fin_in hS hi hr ha q (by unfold oUntie; (try simp only [Int.toNat_natCast]); rw [cif_pos ⟨(by unfold inC; omega), (⟨k1, hk1, hk2⟩ : tied (S i) ci hn)⟩]; show (_, Rkn (S i) ci _ (remP _ (posn (Cp (S i) ci) hn (Ck (S i) ci)))) = _; rw [← ep]; try rfl) ⟨V_rem hV hc_ci hk1, hC1.of (fun b j g1 g2 g3 => (up2_o (by omega)).trans (up2_o (by omega))), Or.inl ((up2_sl (by decide)).trans up2_eq)⟩ (fun b j hb => (up2_ne (by omega)).trans ((up2_ne (by omega)).trans (hF1 _ _ (by omega))))
      · refine E_go (p' := 34) (L' := [some (aA 1), some (aI (r)), some (aI ((ci : Nat) : Int)), some (aI (h)), some (aA a)]) (st' := [aI 0]) rfl rfl rfl ?_
        refine E_s (p' := 37) rfl rfl ?_
        refine E_s (p' := 38) (st' := aI (-1) :: _) rfl rfl ?_
        refine E_ret rfl rfl ?_
        exact fin_same hS hi hr q (by unfold oUntie; (try simp only [Int.toNat_natCast]); rw [cif_neg (by first | (unfold inC; omega) | exact fun g => hnt g.2)])
    · refine E_go (p' := 21) (L' := [some (aA 1), some (aI (r)), some (aI (c)), some (aI (h)), some (aA a)]) (st' := [aI 0]) rfl rfl rfl ?_
      refine E_s (p' := 37) rfl rfl ?_
      refine E_s (p' := 38) (st' := aI (-1) :: _) rfl rfl ?_
      refine E_ret rfl rfl ?_
      exact fin_same hS hi hr q (by unfold oUntie; (try simp only [Int.toNat_natCast]); rw [cif_neg (by first | (unfold inC; omega) | exact fun g => hnt g.2)])
  · refine E_go (p' := 5) (L' := [some (aA 1), some (aI (r)), some (aI (c)), some (aI (h)), none]) (st' := [aN]) rfl rfl rfl ?_
    refine E_s (p' := 7) (L' := [some (aA 1), some (aI (r)), some (aI (c)), some (aI (h)), some (aN)]) rfl rfl ?_
    refine E_s (p' := 9) (st' := aN :: _) rfl rfl ?_
    refine E_s (p' := 37) rfl rfl ?_
    refine E_s (p' := 38) (st' := aI (-1) :: _) rfl rfl ?_
    refine E_ret rfl rfl ?_
    exact fin_out hS q hr
theorem C_tear {S : Nat → RD} (hS : CS S m) (q : ∀ m1, CS (on1 S r (-2) (oTear c h)).2 m1 → Mo m m1 → Q (some (aI (on1 S r (-2) (oTear c h)).1)) (m1, tl len)) : E 31 0 [some (aA 1), some (aI (r)), some (aI (c)), some (aI (h)), none] [] (m, tl len) Q := by
  refine E_s (p' := 1) (st' := aA 1 :: _) rfl rfl ?_
  refine E_s (p' := 2) (st' := aI (r) :: _) rfl rfl ?_
  refine E_callV (k' := 12) (a := 1) (r := []) (L0 := [some (aA 1), some (aI (r))]) rfl rfl rfl rfl rfl rfl rfl rfl rfl rfl ?_
  refine c_recordOf' (fun i a hi hr ha hR => ?_) (fun hr => ?_)
  · refine E_go (p' := 5) (L' := [some (aA 1), some (aI (r)), some (aI (c)), some (aI (h)), none]) (st' := [aA a]) rfl rfl rfl ?_
    obtain ⟨hV, hC, hrd⟩ := hS i hi
    rw [← ha] at hC hrd
    have hn60 := hV.1
    have hab := isR_b hR
    have hs40 := hV.2.2.2.2.1
    refine E_s (p' := 7) (L' := [some (aA 1), some (aI (r)), some (aI (c)), some (aI (h)), some (aA a)]) rfl rfl ?_
    refine E_s (p' := 9) (st' := aA a :: _) rfl rfl ?_
    refine E_s (p' := 12) rfl rfl ?_
    refine E_s (p' := 14) (st' := aA a :: _) rfl rfl ?_
    refine E_gA (b := a + 1) rfl rfl rfl (kR_0 hR) (hR_0_0 hR) rfl ?_
    refine E_s (p' := 18) (st' := aI (c) :: _) rfl rfl ?_
    refine E_callV (k' := 17) (a := a + 1) (r := []) (L0 := [some (aA (a + 1)), some (aI (c))]) rfl rfl rfl rfl rfl (kR_1 hR) rfl rfl rfl rfl ?_
    refine c_has hR hC (fun ci he_ci hc_ci => ?_) (fun hno => ?_)
    · refine E_go (p' := 21) (L' := [some (aA 1), some (aI (r)), some (aI (c)), some (aI (h)), some (aA a)]) (st' := [aI 1]) rfl rfl rfl ?_
      subst he_ci
      refine E_s (p' := 24) rfl rfl ?_
      refine E_s (p' := 26) (st' := aA a :: _) rfl rfl ?_
      refine E_gA (b := a + 1) rfl rfl rfl (kR_0 hR) (hR_0_0 hR) rfl ?_
      refine E_s (p' := 30) (st' := aI ((ci : Nat) : Int) :: _) rfl rfl ?_
      refine E_s (p' := 31) (st' := aI (h) :: _) rfl rfl ?_
      refine E_callV (k' := 22) (a := a + 1) (r := []) (L0 := [some (aA (a + 1)), some (aI ((ci : Nat) : Int)), some (aI (h))]) rfl rfl rfl rfl rfl (kR_1 hR) rfl rfl rfl rfl ?_
      refine c_isWhole hR hC hV hc_ci (fun hw1 => ?_) (fun hw0 => ?_)
      · refine E_go (p' := 34) (L' := [some (aA 1), some (aI (r)), some (aI ((ci : Nat) : Int)), some (aI (h)), some (aA a)]) (st' := [aI 1]) rfl rfl rfl ?_
        refine E_s (p' := 40) rfl rfl ?_
        obtain ⟨hn, eh⟩ : ∃ x : Nat, h = (x : Int) := ⟨h.toNat, by unfold whl at hw1; omega⟩
        subst eh
        refine E_s (p' := 42) (st' := aA a :: _) rfl rfl ?_
        refine E_gA (b := a + 1) rfl rfl rfl (kR_0 hR) (hR_0_0 hR) rfl ?_
        refine E_s (p' := 46) (st' := aI ((ci : Nat) : Int) :: _) rfl rfl ?_
        refine E_s (p' := 47) (st' := aI ((hn : Nat) : Int) :: _) rfl rfl ?_
        refine E_callV (k' := 32) (a := a + 1) (r := []) (L0 := [some (aA (a + 1)), some (aI ((ci : Nat) : Int)), some (aI ((hn : Nat) : Int))]) rfl rfl rfl rfl rfl (kR_1 hR) rfl rfl rfl rfl ?_
        refine c_cutAt hR hC hV hc_ci (h9 := hn) (fun m1 hC1 hF1 => ?_)
        refine E_go (p' := 50) (L' := [some (aA 1), some (aI (r)), some (aI ((ci : Nat) : Int)), some (aI ((hn : Nat) : Int)), some (aA a)]) (st' := []) rfl rfl rfl ?_
        refine E_s (p' := 52) (st' := aA a :: _) rfl rfl ?_
        refine E_callV (k' := 15) (a := a) (r := []) (L0 := [some (aA a)]) rfl rfl rfl rfl rfl (kR_0 hR) rfl rfl rfl rfl ?_
        refine c_changed hR ?_
        refine E_go (p' := 55) (L' := [some (aA 1), some (aI (r)), some (aI ((ci : Nat) : Int)), some (aI ((hn : Nat) : Int)), some (aA a)]) (st' := []) rfl rfl rfl ?_
        refine E_s (p' := 57) (st' := aA a :: _) rfl rfl ?_
        refine E_gA (b := a + 1) rfl rfl rfl (kR_0 hR) (hR_0_0 hR) rfl ?_
        refine E_gA (b := a + 7) rfl rfl rfl (kR_1 hR) (hR_1_5 hR) rfl ?_
        refine E_s (p' := 64) (st' := aI ((ci : Nat) : Int) :: _) rfl rfl ?_
        refine E_ald (e := ci) (N := 60) (v := ((posn (Cp (S i) ci) hn (Ck (S i) ci) : Nat) : Int)) rfl (kR_7 hR) (rfl) (by omega) ((up2_ne (by omega)).trans ((up2_ne (by omega)).trans (((CR_7 hC1 hc_ci).trans (by show ((upf (Ck (S i)) ci _ ci : Nat) : Int) = _; rw [upf_eq]))))) ?_
        refine E_ret rfl rfl ?_
        have hps := posn_sp (Cp (S i) ci) hn (Ck (S i) ci)
        refine fin_in hS hi hr ha q (by unfold oTear; (try simp only [Int.toNat_natCast]); rw [cif_pos ⟨(by unfold inC; omega), hw1⟩]; try rfl) ⟨V_tr hV hc_ci (by unfold whl at hw1; omega) (posn_le _ _ _) hps.1, hC1.of (fun b j g1 g2 g3 => (up2_o (by omega)).trans (up2_o (by omega))), Or.inl ((up2_sl (by decide)).trans up2_eq)⟩ (fun b j hb => (up2_ne (by omega)).trans ((up2_ne (by omega)).trans (hF1 _ _ (by omega))))
      · refine E_go (p' := 34) (L' := [some (aA 1), some (aI (r)), some (aI ((ci : Nat) : Int)), some (aI (h)), some (aA a)]) (st' := [aI 0]) rfl rfl rfl ?_
        refine E_s (p' := 37) rfl rfl ?_
        refine E_s (p' := 39) (st' := aI (-2) :: _) rfl rfl ?_
        refine E_ret rfl rfl ?_
        exact fin_same hS hi hr q (by unfold oTear; (try simp only [Int.toNat_natCast]); rw [cif_neg (by first | (unfold inC; omega) | exact fun g => hw0 g.2)])
    · refine E_go (p' := 21) (L' := [some (aA 1), some (aI (r)), some (aI (c)), some (aI (h)), some (aA a)]) (st' := [aI 0]) rfl rfl rfl ?_
      refine E_s (p' := 37) rfl rfl ?_
      refine E_s (p' := 39) (st' := aI (-2) :: _) rfl rfl ?_
      refine E_ret rfl rfl ?_
      exact fin_same hS hi hr q (by unfold oTear; (try simp only [Int.toNat_natCast]); rw [cif_neg (by first | (unfold inC; omega) | exact fun g => hw0 g.2)])
  · refine E_go (p' := 5) (L' := [some (aA 1), some (aI (r)), some (aI (c)), some (aI (h)), none]) (st' := [aN]) rfl rfl rfl ?_
    refine E_s (p' := 7) (L' := [some (aA 1), some (aI (r)), some (aI (c)), some (aI (h)), some (aN)]) rfl rfl ?_
    refine E_s (p' := 9) (st' := aN :: _) rfl rfl ?_
    refine E_s (p' := 37) rfl rfl ?_
    refine E_s (p' := 39) (st' := aI (-2) :: _) rfl rfl ?_
    refine E_ret rfl rfl ?_
    exact fin_out hS q hr
theorem C_gap {S : Nat → RD} (hS : CS S m) (q : ∀ m1, CS (on1 S r (-2) (oGap c)).2 m1 → Mo m m1 → Q (some (aI (on1 S r (-2) (oGap c)).1)) (m1, tl len)) : E 59 0 [some (aA 1), some (aI (r)), some (aI (c)), none, none] [] (m, tl len) Q := by
  refine E_s (p' := 1) (st' := aA 1 :: _) rfl rfl ?_
  refine E_s (p' := 2) (st' := aI (r) :: _) rfl rfl ?_
  refine E_callV (k' := 12) (a := 1) (r := []) (L0 := [some (aA 1), some (aI (r))]) rfl rfl rfl rfl rfl rfl rfl rfl rfl rfl ?_
  refine c_recordOf' (fun i a hi hr ha hR => ?_) (fun hr => ?_)
  · refine E_go (p' := 5) (L' := [some (aA 1), some (aI (r)), some (aI (c)), none, none]) (st' := [aA a]) rfl rfl rfl ?_
    obtain ⟨hV, hC, hrd⟩ := hS i hi
    rw [← ha] at hC hrd
    have hn60 := hV.1
    have hab := isR_b hR
    have hs40 := hV.2.2.2.2.1
    refine E_s (p' := 6) (L' := [some (aA 1), some (aI (r)), some (aI (c)), some (aA a), none]) rfl rfl ?_
    refine E_s (p' := 7) (st' := aA a :: _) rfl rfl ?_
    refine E_s (p' := 10) rfl rfl ?_
    refine E_s (p' := 11) (st' := aI (c) :: _) rfl rfl ?_
    refine E_s (p' := 12) (st' := aI 1 :: _) rfl rfl ?_
    refine E_icmp_lt (x := (c)) (y := 1) rfl (by decide) (fun h_1 => ?_) (fun h_1 => ?_)
    · refine E_go (p' := 21) (L' := [some (aA 1), some (aI (r)), some (aI (c)), some (aA a), none]) (st' := []) rfl rfl rfl ?_
      refine E_s (p' := 23) (st' := aI (-2) :: _) rfl rfl ?_
      refine E_ret rfl rfl ?_
      exact fin_same hS hi hr q (by unfold oGap; rw [cif_neg (by omega)])
    · refine E_go (p' := 15) (L' := [some (aA 1), some (aI (r)), some (aI (c)), some (aA a), none]) (st' := []) rfl rfl rfl ?_
      refine E_s (p' := 16) (st' := aI (c) :: _) rfl rfl ?_
      refine E_s (p' := 18) (st' := aI 100 :: _) rfl rfl ?_
      refine E_icmp_le (x := (c)) (y := 100) rfl (by decide) (fun h_2 => ?_) (fun h_2 => ?_)
      · refine E_go (p' := 24) (L' := [some (aA 1), some (aI (r)), some (aI (c)), some (aA a), none]) (st' := []) rfl rfl rfl ?_
        refine E_s (p' := 25) (st' := aA a :: _) rfl rfl ?_
        refine E_gI (v := ((Cq (S i) : Nat) : Int)) rfl rfl rfl (kR_0 hR) hC.2.1 ?_
        refine E_s (p' := 30) (L' := [some (aA 1), some (aI (r)), some (aI (c)), some (aA a), some (aI ((Cq (S i) : Nat) : Int))]) rfl rfl ?_
        refine E_s (p' := 31) (st' := aI (c) :: _) rfl rfl ?_
        refine E_s (p' := 33) (st' := aI ((Cq (S i) : Nat) : Int) :: _) rfl rfl ?_
        refine E_icmp_eq (x := (c)) (y := ((Cq (S i) : Nat) : Int)) rfl (by decide) (fun h_3 => ?_) (fun h_3 => ?_)
        · refine E_go (p' := 45) (L' := [some (aA 1), some (aI (r)), some (aI (c)), some (aA a), some (aI ((Cq (S i) : Nat) : Int))]) (st' := []) rfl rfl rfl ?_
          refine E_s (p' := 47) (st' := aI ((Cq (S i) : Nat) : Int) :: _) rfl rfl ?_
          refine E_ret rfl rfl ?_
          exact fin_same hS hi hr q (by unfold oGap; rw [cif_pos (by omega), show c.toNat = Cq (S i) by omega]; rfl)
        · refine E_go (p' := 36) (L' := [some (aA 1), some (aI (r)), some (aI (c)), some (aA a), some (aI ((Cq (S i) : Nat) : Int))]) (st' := []) rfl rfl rfl ?_
          refine E_s (p' := 37) (st' := aA a :: _) rfl rfl ?_
          refine E_s (p' := 38) (st' := aI (c) :: _) rfl rfl ?_
          refine E_pI rfl rfl rfl (kR_0 hR) (Or.inl rfl) ?_
          refine E_s (p' := 42) (st' := aA a :: _) rfl rfl ?_
          refine E_callV (k' := 15) (a := a) (r := []) (L0 := [some (aA a)]) rfl rfl rfl rfl rfl (kR_0 hR) rfl rfl rfl rfl ?_
          refine c_changed hR ?_
          refine E_go (p' := 45) (L' := [some (aA 1), some (aI (r)), some (aI (c)), some (aA a), some (aI ((Cq (S i) : Nat) : Int))]) (st' := []) rfl rfl rfl ?_
          refine E_s (p' := 47) (st' := aI ((Cq (S i) : Nat) : Int) :: _) rfl rfl ?_
          refine E_ret rfl rfl ?_
          exact fin_in hS hi hr ha q (by unfold oGap; rw [cif_pos (by omega)]) ⟨V_gp hV (by omega), CR.gp hC (((up2_sl (by omega)).trans ((up2_sl (by omega)).trans (up2_eq))).trans (by omega)) (fun b j h1 h2 => ((up2_ne (by omega)).trans ((up2_ne (by omega)).trans (up2_ne (by omega))))), Or.inl ((up2_sl (by omega)).trans (up2_eq))⟩ (fun b j hb => ((up2_ne (by omega)).trans ((up2_ne (by omega)).trans (up2_ne (by omega)))))
      · refine E_go (p' := 21) (L' := [some (aA 1), some (aI (r)), some (aI (c)), some (aA a), none]) (st' := []) rfl rfl rfl ?_
        refine E_s (p' := 23) (st' := aI (-2) :: _) rfl rfl ?_
        refine E_ret rfl rfl ?_
        exact fin_same hS hi hr q (by unfold oGap; rw [cif_neg (by omega)])
  · refine E_go (p' := 5) (L' := [some (aA 1), some (aI (r)), some (aI (c)), none, none]) (st' := [aN]) rfl rfl rfl ?_
    refine E_s (p' := 6) (L' := [some (aA 1), some (aI (r)), some (aI (c)), some (aN), none]) rfl rfl ?_
    refine E_s (p' := 7) (st' := aN :: _) rfl rfl ?_
    refine E_s (p' := 21) rfl rfl ?_
    refine E_s (p' := 23) (st' := aI (-2) :: _) rfl rfl ?_
    refine E_ret rfl rfl ?_
    exact fin_out hS q hr
theorem C_clear {S : Nat → RD} (hS : CS S m) (q : ∀ m1, CS (on1 S r (-2) oClear).2 m1 → Mo m m1 → Q (some (aI (on1 S r (-2) oClear).1)) (m1, tl len)) : E 60 0 [some (aA 1), some (aI (r)), none, none] [] (m, tl len) Q := by
  refine E_s (p' := 1) (st' := aA 1 :: _) rfl rfl ?_
  refine E_s (p' := 2) (st' := aI (r) :: _) rfl rfl ?_
  refine E_callV (k' := 12) (a := 1) (r := []) (L0 := [some (aA 1), some (aI (r))]) rfl rfl rfl rfl rfl rfl rfl rfl rfl rfl ?_
  refine c_recordOf' (fun i a hi hr ha hR => ?_) (fun hr => ?_)
  · refine E_go (p' := 5) (L' := [some (aA 1), some (aI (r)), none, none]) (st' := [aA a]) rfl rfl rfl ?_
    obtain ⟨hV, hC, hrd⟩ := hS i hi
    rw [← ha] at hC hrd
    have hn60 := hV.1
    have hab := isR_b hR
    have hs40 := hV.2.2.2.2.1
    refine E_s (p' := 6) (L' := [some (aA 1), some (aI (r)), some (aA a), none]) rfl rfl ?_
    refine E_s (p' := 7) (st' := aA a :: _) rfl rfl ?_
    refine E_s (p' := 13) rfl rfl ?_
    refine E_s (p' := 14) (st' := aA a :: _) rfl rfl ?_
    refine E_gA (b := a + 1) rfl rfl rfl (kR_0 hR) (hR_0_0 hR) rfl ?_
    refine E_gI (v := ((Cn (S i) : Nat) : Int)) rfl rfl rfl (kR_1 hR) hC.1 ?_
    refine E_s (p' := 21) (L' := [some (aA 1), some (aI (r)), some (aA a), some (aI ((Cn (S i) : Nat) : Int))]) rfl rfl ?_
    refine E_s (p' := 22) (st' := aA a :: _) rfl rfl ?_
    refine E_callV (k' := 61) (a := a) (r := []) (L0 := [some (aA a)]) rfl rfl rfl rfl rfl (kR_0 hR) rfl rfl rfl rfl ?_
    refine c_makeEmpty (R := S i) hR (fun m1 hC1 h71 hF1 => ?_)
    refine E_go (p' := 25) (L' := [some (aA 1), some (aI (r)), some (aA a), some (aI ((Cn (S i) : Nat) : Int))]) (st' := []) rfl rfl rfl ?_
    refine E_s (p' := 26) (st' := aI ((Cn (S i) : Nat) : Int) :: _) rfl rfl ?_
    refine E_ret rfl rfl ?_
    exact fin_in hS hi hr ha q rfl ⟨V_clr, hC1, Or.inl h71⟩ (hF1.wide (by omega) (by omega))
  · refine E_go (p' := 5) (L' := [some (aA 1), some (aI (r)), none, none]) (st' := [aN]) rfl rfl rfl ?_
    refine E_s (p' := 6) (L' := [some (aA 1), some (aI (r)), some (aN), none]) rfl rfl ?_
    refine E_s (p' := 7) (st' := aN :: _) rfl rfl ?_
    refine E_s (p' := 10) rfl rfl ?_
    refine E_s (p' := 12) (st' := aI (-2) :: _) rfl rfl ?_
    refine E_ret rfl rfl ?_
    exact fin_out hS q hr
theorem C_sum {S : Nat → RD} (hS : CS S m) (q : ∀ m1, CS (on1 S r (-2) (oSum c)).2 m1 → Mo m m1 → Q (some (aI (on1 S r (-2) (oSum c)).1)) (m1, tl len)) : E 75 0 [some (aA 1), some (aI (r)), some (aI (c)), none] [] (m, tl len) Q := by
  refine E_s (p' := 1) (st' := aA 1 :: _) rfl rfl ?_
  refine E_s (p' := 2) (st' := aI (r) :: _) rfl rfl ?_
  refine E_callV (k' := 12) (a := 1) (r := []) (L0 := [some (aA 1), some (aI (r))]) rfl rfl rfl rfl rfl rfl rfl rfl rfl rfl ?_
  refine c_recordOf' (fun i a hi hr ha hR => ?_) (fun hr => ?_)
  · refine E_go (p' := 5) (L' := [some (aA 1), some (aI (r)), some (aI (c)), none]) (st' := [aA a]) rfl rfl rfl ?_
    obtain ⟨hV, hC, hrd⟩ := hS i hi
    rw [← ha] at hC hrd
    have hn60 := hV.1
    have hab := isR_b hR
    have hs40 := hV.2.2.2.2.1
    refine E_s (p' := 6) (L' := [some (aA 1), some (aI (r)), some (aI (c)), some (aA a)]) rfl rfl ?_
    refine E_s (p' := 7) (st' := aA a :: _) rfl rfl ?_
    refine E_s (p' := 10) rfl rfl ?_
    refine E_s (p' := 11) (st' := aA a :: _) rfl rfl ?_
    refine E_gA (b := a + 1) rfl rfl rfl (kR_0 hR) (hR_0_0 hR) rfl ?_
    refine E_s (p' := 15) (st' := aI (c) :: _) rfl rfl ?_
    refine E_callV (k' := 17) (a := a + 1) (r := []) (L0 := [some (aA (a + 1)), some (aI (c))]) rfl rfl rfl rfl rfl (kR_1 hR) rfl rfl rfl rfl ?_
    refine c_has hR hC (fun ci he_ci hc_ci => ?_) (fun hno => ?_)
    · refine E_go (p' := 18) (L' := [some (aA 1), some (aI (r)), some (aI (c)), some (aA a)]) (st' := [aI 1]) rfl rfl rfl ?_
      subst he_ci
      refine E_s (p' := 24) rfl rfl ?_
      refine E_s (p' := 25) (st' := aA a :: _) rfl rfl ?_
      refine E_gA (b := a + 9) rfl rfl rfl (kR_0 hR) (hR_0_1 hR) rfl ?_
      refine E_gI (v := ((Sn (S i) : Nat) : Int)) rfl rfl rfl (kR_9 hR) (CRS hC) ?_
      refine E_s (p' := 33) (st' := aI 40 :: _) rfl rfl ?_
      refine E_icmp_lt (x := ((Sn (S i) : Nat) : Int)) (y := 40) rfl (by decide) (fun h_1 => ?_) (fun h_1 => ?_)
      · refine E_go (p' := 39) (L' := [some (aA 1), some (aI (r)), some (aI ((ci : Nat) : Int)), some (aA a)]) (st' := []) rfl rfl rfl ?_
        refine E_s (p' := 40) (st' := aA a :: _) rfl rfl ?_
        refine E_gA (b := a + 9) rfl rfl rfl (kR_0 hR) (hR_0_1 hR) rfl ?_
        refine E_s (p' := 44) (st' := aI ((ci : Nat) : Int) :: _) rfl rfl ?_
        refine E_callV (k' := 76) (a := a + 9) (r := []) (L0 := [some (aA (a + 9)), some (aI ((ci : Nat) : Int))]) rfl rfl rfl rfl rfl (kR_9 hR) rfl rfl rfl rfl ?_
        refine c_begin hR hC hV (by omega) (fun m1 hC1 hF1 => ?_)
        refine E_go (p' := 47) (L' := [some (aA 1), some (aI (r)), some (aI ((ci : Nat) : Int)), some (aA a)]) (st' := []) rfl rfl rfl ?_
        refine E_s (p' := 48) (st' := aA a :: _) rfl rfl ?_
        refine E_callV (k' := 15) (a := a) (r := []) (L0 := [some (aA a)]) rfl rfl rfl rfl rfl (kR_0 hR) rfl rfl rfl rfl ?_
        refine c_changed hR ?_
        refine E_go (p' := 51) (L' := [some (aA 1), some (aI (r)), some (aI ((ci : Nat) : Int)), some (aA a)]) (st' := []) rfl rfl rfl ?_
        refine E_s (p' := 52) (st' := aA a :: _) rfl rfl ?_
        refine E_gA (b := a + 9) rfl rfl rfl (kR_0 hR) (hR_0_1 hR) rfl ?_
        refine E_gI (v := ((Sn (S i) + 1 : Nat) : Int)) rfl rfl rfl (kR_9 hR) ((up2_ne (by omega)).trans ((up2_ne (by omega)).trans ((CRS hC1)))) ?_
        refine E_s (p' := 59) (st' := aI 1 :: _) rfl rfl ?_
        refine E_sub (v := ((Sn (S i) : Nat) : Int)) rfl (by omega) (by omega) ?_
        refine E_ret rfl rfl ?_
        refine fin_in hS hi hr ha q (by unfold oSum; (try simp only [Int.toNat_natCast]); rw [cif_pos (by unfold inC; omega), cif_neg (by omega)]; try rfl) ⟨V_sm hV (by omega) (fun s hs => ?_) (fun s k hs hk => ?_), hC1.of (fun b j g1 g2 g3 => (up2_o (by omega)).trans (up2_o (by omega))), Or.inl ((up2_sl (by decide)).trans up2_eq)⟩ (fun b j hb => (up2_ne (by omega)).trans ((up2_ne (by omega)).trans (hF1 _ _ (by omega))))
        · by_cases g : s = Sn (S i)
          · subst g; rw [upf_eq, upf_eq]; exact ⟨hc_ci, by omega⟩
          · rw [upf_ne g, upf_ne g]; exact hV.2.2.2.2.2.1 s (by omega)
        · by_cases g : s = Sn (S i)
          · subst g; rw [upf_eq] at hk; omega
          · rw [upf_ne g] at hk; exact hV.2.2.2.2.2.2 s k (by omega) hk
      · refine E_go (p' := 36) (L' := [some (aA 1), some (aI (r)), some (aI ((ci : Nat) : Int)), some (aA a)]) (st' := []) rfl rfl rfl ?_
        refine E_s (p' := 38) (st' := aI (-3) :: _) rfl rfl ?_
        refine E_ret rfl rfl ?_
        exact fin_same hS hi hr q (by unfold oSum; (try simp only [Int.toNat_natCast]); rw [cif_pos (by unfold inC; omega), cif_pos (by omega)])
    · refine E_go (p' := 18) (L' := [some (aA 1), some (aI (r)), some (aI (c)), some (aA a)]) (st' := [aI 0]) rfl rfl rfl ?_
      refine E_s (p' := 21) rfl rfl ?_
      refine E_s (p' := 23) (st' := aI (-2) :: _) rfl rfl ?_
      refine E_ret rfl rfl ?_
      exact fin_same hS hi hr q (by unfold oSum; (try simp only [Int.toNat_natCast]); rw [cif_neg (by unfold inC; omega)])
  · refine E_go (p' := 5) (L' := [some (aA 1), some (aI (r)), some (aI (c)), none]) (st' := [aN]) rfl rfl rfl ?_
    refine E_s (p' := 6) (L' := [some (aA 1), some (aI (r)), some (aI (c)), some (aN)]) rfl rfl ?_
    refine E_s (p' := 7) (st' := aN :: _) rfl rfl ?_
    refine E_s (p' := 21) rfl rfl ?_
    refine E_s (p' := 23) (st' := aI (-2) :: _) rfl rfl ?_
    refine E_ret rfl rfl ?_
    exact fin_out hS q hr
theorem C_drop {S : Nat → RD} (hS : CS S m) (q : ∀ m1, CS (on1 S r (-2) oDrop).2 m1 → Mo m m1 → Q (some (aI (on1 S r (-2) oDrop).1)) (m1, tl len)) : E 81 0 [some (aA 1), some (aI (r)), none] [] (m, tl len) Q := by
  refine E_s (p' := 1) (st' := aA 1 :: _) rfl rfl ?_
  refine E_s (p' := 2) (st' := aI (r) :: _) rfl rfl ?_
  refine E_callV (k' := 12) (a := 1) (r := []) (L0 := [some (aA 1), some (aI (r))]) rfl rfl rfl rfl rfl rfl rfl rfl rfl rfl ?_
  refine c_recordOf' (fun i a hi hr ha hR => ?_) (fun hr => ?_)
  · refine E_go (p' := 5) (L' := [some (aA 1), some (aI (r)), none]) (st' := [aA a]) rfl rfl rfl ?_
    obtain ⟨hV, hC, hrd⟩ := hS i hi
    rw [← ha] at hC hrd
    have hn60 := hV.1
    have hab := isR_b hR
    have hs40 := hV.2.2.2.2.1
    refine E_s (p' := 6) (L' := [some (aA 1), some (aI (r)), some (aA a)]) rfl rfl ?_
    refine E_s (p' := 7) (st' := aA a :: _) rfl rfl ?_
    refine E_s (p' := 13) rfl rfl ?_
    refine E_s (p' := 14) (st' := aA a :: _) rfl rfl ?_
    refine E_gA (b := a + 9) rfl rfl rfl (kR_0 hR) (hR_0_1 hR) rfl ?_
    refine E_gI (v := ((Sn (S i) : Nat) : Int)) rfl rfl rfl (kR_9 hR) (CRS hC) ?_
    refine E_if_ne (x := ((Sn (S i) : Nat) : Int)) rfl (by decide) (fun h_1 => ?_) (fun h_1 => ?_)
    · refine E_go (p' := 25) (L' := [some (aA 1), some (aI (r)), some (aA a)]) (st' := []) rfl rfl rfl ?_
      refine E_s (p' := 26) (st' := aA a :: _) rfl rfl ?_
      refine E_gA (b := a + 9) rfl rfl rfl (kR_0 hR) (hR_0_1 hR) rfl ?_
      refine E_s (p' := 30) (st' := aA (a + 9) :: _) rfl rfl ?_
      refine E_gI (v := ((Sn (S i) : Nat) : Int)) rfl rfl rfl (kR_9 hR) (CRS hC) ?_
      refine E_s (p' := 34) (st' := aI 1 :: _) rfl rfl ?_
      refine E_sub (v := ((Sn (S i) : Int) - 1)) rfl (by omega) (by omega) ?_
      refine E_pI rfl rfl rfl (kR_9 hR) (Or.inl rfl) ?_
      refine E_s (p' := 39) (st' := aA a :: _) rfl rfl ?_
      refine E_callV (k' := 15) (a := a) (r := []) (L0 := [some (aA a)]) rfl rfl rfl rfl rfl (kR_0 hR) rfl rfl rfl rfl ?_
      refine c_changed hR ?_
      refine E_go (p' := 42) (L' := [some (aA 1), some (aI (r)), some (aA a)]) (st' := []) rfl rfl rfl ?_
      refine E_s (p' := 43) (st' := aA a :: _) rfl rfl ?_
      refine E_gA (b := a + 9) rfl rfl rfl (kR_0 hR) (hR_0_1 hR) rfl ?_
      refine E_gI (v := ((Sn (S i) : Int) - 1)) rfl rfl rfl (kR_9 hR) ((up2_ne (by omega)).trans ((up2_ne (by omega)).trans (up2_eq))) ?_
      refine E_ret rfl rfl ?_
      refine fin_in hS hi hr ha q (by unfold oDrop; rw [cif_neg (by omega)]; exact Prod.ext (show ((Sn (S i) - 1 : Nat) : Int) = _ by omega) rfl) ⟨V_sm hV (by have := hV.2.2.2.2.1; omega) (fun s hs => hV.2.2.2.2.2.1 s (by omega)) (fun s k hs hk => hV.2.2.2.2.2.2 s k (by omega) hk), CR.sm hC (((up2_ne (by omega)).trans ((up2_ne (by omega)).trans (up2_eq))).trans (by omega)) (fun s hs => ⟨((up2_ne (by omega)).trans ((up2_ne (by omega)).trans (up2_ne (by omega)))).trans (CR_10 hC (by omega)), ((up2_ne (by omega)).trans ((up2_ne (by omega)).trans (up2_ne (by omega)))).trans (CR_11 hC (by omega))⟩) (fun s k hs hk => ((up2_ne (by omega)).trans ((up2_ne (by omega)).trans (up2_ne (by omega)))).trans (CR_12 hC (by omega) hk rfl)) (fun b j h1 h2 h3 => (up2_o (by omega)).trans ((up2_o (by omega)).trans (up2_o (by omega)))), Or.inl ((up2_sl (by decide)).trans up2_eq)⟩ (fun b j hb => ((up2_ne (by omega)).trans ((up2_ne (by omega)).trans (up2_ne (by omega)))))
    · refine E_go (p' := 23) (L' := [some (aA 1), some (aI (r)), some (aA a)]) (st' := []) rfl rfl rfl ?_
      refine E_s (p' := 24) (st' := aI (-1) :: _) rfl rfl ?_
      refine E_ret rfl rfl ?_
      exact fin_same hS hi hr q (by unfold oDrop; rw [cif_pos (by omega)])
  · refine E_go (p' := 5) (L' := [some (aA 1), some (aI (r)), none]) (st' := [aN]) rfl rfl rfl ?_
    refine E_s (p' := 6) (L' := [some (aA 1), some (aI (r)), some (aN)]) rfl rfl ?_
    refine E_s (p' := 7) (st' := aN :: _) rfl rfl ?_
    refine E_s (p' := 10) rfl rfl ?_
    refine E_s (p' := 12) (st' := aI (-2) :: _) rfl rfl ?_
    refine E_ret rfl rfl ?_
    exact fin_out hS q hr
end

/-! the model: what changes of one record -/
/-- slot j of the model's place b is record i's (or b holds no record) -/
def blk (i b j : Nat) : Prop := (b < 125 ∨ 139 < b) ∨ ((b = 125 ∨ b = 126 ∨ b = 136) ∧ j = i) ∨ (127 ≤ b ∧ b ≤ 132 ∧ 60 * i ≤ j ∧ j < 60 * i + 60) ∨ (133 ≤ b ∧ b ≤ 135 ∧ 1800 * i ≤ j ∧ j < 1800 * i + 1800) ∨ (137 ≤ b ∧ b ≤ 138 ∧ 40 * i ≤ j ∧ j < 40 * i + 40) ∨ (b = 139 ∧ 480 * i ≤ j ∧ j < 480 * i + 480)
/-- nothing of another record has changed -/
def Mx (i : Nat) (m m' : Mm) : Prop := ∀ b j, ¬ blk i b j → m' b j = m b j
theorem Mx.rf {i : Nat} {m : Mm} : Mx i m m := fun _ _ _ => rfl
theorem Mx.tr {i : Nat} {m m' m'' : Mm} (h : Mx i m m') (h' : Mx i m' m'') : Mx i m m'' := fun b j hb => (h' b j hb).trans (h b j hb)
theorem Mx.up {i b j : Nat} {x : Int} {m m' : Mm} (h : Mx i m m') (hb : blk i b j) : Mx i m (up2 m' b j x) := fun b' j' hb' => (up2_o (fun g => hb' (by rw [g.1, g.2]; exact hb))).trans (h b' j' hb')
theorem MR.ot {R : RD} {k i : Nat} {m m' : Mm} (h : MR R k m) (hV : VR R) (hk : k ≠ i) (hx : Mx i m m') : MR R k m' := by
  obtain ⟨h1, h2, h3, h4, h5, h6, h7⟩ := h
  have v1 := hV.1
  have v5 := hV.2.2.2.2.1
  refine ⟨(hx _ _ (by unfold blk; omega)).trans h1, (hx _ _ (by unfold blk; omega)).trans h2, fun c hc => ?_, fun c k9 hc hk9 => ?_, (hx _ _ (by unfold blk; omega)).trans h5, fun s hs => ?_, fun s p hs hp => ?_⟩
  · obtain ⟨g1, g2, g3, g4, g5, g6⟩ := h3 c hc
    exact ⟨(hx _ _ (by unfold blk; omega)).trans g1, (hx _ _ (by unfold blk; omega)).trans g2, (hx _ _ (by unfold blk; omega)).trans g3, (hx _ _ (by unfold blk; omega)).trans g4, (hx _ _ (by unfold blk; omega)).trans g5, (hx _ _ (by unfold blk; omega)).trans g6⟩
  · obtain ⟨g1, g2, g3⟩ := h4 c k9 hc hk9
    have := (hV.2.2.1 c hc).2.2.2.2.2
    exact ⟨(hx _ _ (by unfold blk; omega)).trans g1, (hx _ _ (by unfold blk; omega)).trans g2, (hx _ _ (by unfold blk; omega)).trans g3⟩
  · exact ⟨(hx _ _ (by unfold blk; omega)).trans (h6 s hs).1, (hx _ _ (by unfold blk; omega)).trans (h6 s hs).2⟩
  · have := (hV.2.2.2.2.2.1 s hs).2
    exact (hx _ _ (by unfold blk; omega)).trans (h7 s p hs hp)
theorem finMx {S : Nat → RD} {m m1 : Mm} {r d v : Int} {f : RD → Int × RD} {i len : Nat} {R : RD} {Q : Option AV → Sx → Prop} (hS : MS S m) (hi : i < 4) (hr : r = (i : Int)) (q : ∀ m1, MS (on1 S r d f).2 m1 → Co1 m m1 → Q (some (aI (on1 S r d f).1)) (m1, tl len)) (e : f (S i) = (v, R)) (hV : VR R) (h : MR R i m1) (hx : Mx i m m1) (hc : Co1 m m1) : Q (some (aI v)) (m1, tl len) :=
  finM_in hS hi hr q e hV h (fun k hk hne h => h.ot (hS k hk).1 hne hx) hc
theorem MS.of {S : Nat → RD} {m m1 : Mm} (hS : MS S m) (e : ∀ b j, 125 ≤ b → b ≤ 139 → m1 b j = m b j) : MS S m1 := fun i hi => ⟨(hS i hi).1, (hS i hi).2.of e⟩
theorem MR.add {R : RD} {r col l : Nat} {g o : Int} {m m' : Mm} (h : MR R r m) (e0 : m' 125 r = ((Cn R + 1 : Nat) : Int)) (e1 : m' 127 (60 * r + Cn R) = g) (e2 : m' 128 (60 * r + Cn R) = o) (e3 : m' 129 (60 * r + Cn R) = (col : Int)) (e4 : m' 130 (60 * r + Cn R) = (l : Int)) (e5 : m' 131 (60 * r + Cn R) = -1) (e6 : m' 132 (60 * r + Cn R) = 0) (e : ∀ b j, 126 ≤ b → b ≤ 139 → ¬ (127 ≤ b ∧ b ≤ 132 ∧ j = 60 * r + Cn R) → m' b j = m b j) : MR (Radd R g o col l) r m' := by
  obtain ⟨h1, h2, h3, h4, h5, h6, h7⟩ := h
  refine ⟨e0, (e _ _ (by omega) (by omega) (by omega)).trans h2, fun d hd => ?_, fun d k hd hk => ?_, (e _ _ (by omega) (by omega) (by omega)).trans h5, fun s hs => ⟨(e _ _ (by omega) (by omega) (by omega)).trans (h6 s hs).1, (e _ _ (by omega) (by omega) (by omega)).trans (h6 s hs).2⟩, fun s p hs hp => (e _ _ (by omega) (by omega) (by omega)).trans (h7 s p hs hp)⟩
  · have hd' : d < Cn R + 1 := hd
    show m' 127 (60 * r + d) = upf (Cg R) (Cn R) g d ∧ m' 128 (60 * r + d) = upf (Co R) (Cn R) o d ∧ m' 129 (60 * r + d) = ((upf (Cc R) (Cn R) col d : Nat) : Int) ∧ m' 130 (60 * r + d) = ((upf (Cl R) (Cn R) l d : Nat) : Int) ∧ m' 131 (60 * r + d) = (if upf (Ct R) (Cn R) 0 d = 0 then -1 else ((upf (Ct R) (Cn R) 0 d : Nat) : Int)) ∧ m' 132 (60 * r + d) = ((upf (Ck R) (Cn R) 0 d : Nat) : Int)
    by_cases q : d = Cn R
    · subst q
      simp only [upf_eq]
      exact ⟨e1, e2, e3, e4, e5, e6⟩
    · obtain ⟨g1, g2, g3, g4, g5, g6⟩ := h3 d (by omega)
      simp only [upf_ne q]
      exact ⟨(e _ _ (by omega) (by omega) (by omega)).trans g1, (e _ _ (by omega) (by omega) (by omega)).trans g2, (e _ _ (by omega) (by omega) (by omega)).trans g3, (e _ _ (by omega) (by omega) (by omega)).trans g4, (e _ _ (by omega) (by omega) (by omega)).trans g5, (e _ _ (by omega) (by omega) (by omega)).trans g6⟩
  · have hd' : d < Cn R + 1 := hd
    have hk' : k < upf (Ck R) (Cn R) 0 d := hk
    by_cases q : d = Cn R
    · subst q; rw [upf_eq] at hk'; omega
    · rw [upf_ne q] at hk'
      obtain ⟨g1, g2, g3⟩ := h4 d k (by omega) hk'
      exact ⟨(e _ _ (by omega) (by omega) (by omega)).trans g1, (e _ _ (by omega) (by omega) (by omega)).trans g2, (e _ _ (by omega) (by omega) (by omega)).trans g3⟩
theorem MR.kn {R : RD} {r c n : Nat} {P : Nat → Nat} {m m' : Mm} (h : MR R r m) (hV : VR R) (hn : n ≤ 30) (e1 : m' 132 (60 * r + c) = (n : Int)) (e2 : ∀ i, i < n → m' 133 (1800 * r + 30 * c + i) = (ht (P i) : Int) ∧ m' 134 (1800 * r + 30 * c + i) = (so (P i) : Int) ∧ m' 135 (1800 * r + 30 * c + i) = (tu (P i) : Int)) (e : ∀ b j, 125 ≤ b → b ≤ 139 → ¬ (b = 132 ∧ j = 60 * r + c) → ¬ (133 ≤ b ∧ b ≤ 135 ∧ 1800 * r + 30 * c ≤ j ∧ j < 1800 * r + 30 * c + 30) → m' b j = m b j) : MR (Rkn R c n P) r m' := by
  obtain ⟨h1, h2, h3, h4, h5, h6, h7⟩ := h
  refine ⟨(e _ _ (by omega) (by omega) (by omega) (by omega)).trans h1, (e _ _ (by omega) (by omega) (by omega) (by omega)).trans h2, fun d hd => ?_, fun d k hd hk => ?_, (e _ _ (by omega) (by omega) (by omega) (by omega)).trans h5, fun s hs => ⟨(e _ _ (by omega) (by omega) (by omega) (by omega)).trans (h6 s hs).1, (e _ _ (by omega) (by omega) (by omega) (by omega)).trans (h6 s hs).2⟩, fun s p hs hp => (e _ _ (by omega) (by omega) (by omega) (by omega)).trans (h7 s p hs hp)⟩
  · obtain ⟨g1, g2, g3, g4, g5, g6⟩ := h3 d hd
    refine ⟨(e _ _ (by omega) (by omega) (by omega) (by omega)).trans g1, (e _ _ (by omega) (by omega) (by omega) (by omega)).trans g2, (e _ _ (by omega) (by omega) (by omega) (by omega)).trans g3, (e _ _ (by omega) (by omega) (by omega) (by omega)).trans g4, (e _ _ (by omega) (by omega) (by omega) (by omega)).trans g5, ?_⟩
    show m' 132 (60 * r + d) = ((upf (Ck R) c n d : Nat) : Int)
    by_cases q : d = c
    · subst q; rw [upf_eq]; exact e1
    · rw [upf_ne q]; exact (e _ _ (by omega) (by omega) (by omega) (by omega)).trans g6
  · have hk' : k < upf (Ck R) c n d := hk
    show m' 133 (1800 * r + 30 * d + k) = (ht (upf (Cp R) c P d k) : Int) ∧ m' 134 (1800 * r + 30 * d + k) = (so (upf (Cp R) c P d k) : Int) ∧ m' 135 (1800 * r + 30 * d + k) = (tu (upf (Cp R) c P d k) : Int)
    by_cases q : d = c
    · subst q
      rw [upf_eq] at hk'
      simp only [upf_eq]
      exact e2 k hk'
    · rw [upf_ne q] at hk'
      have := (hV.2.2.1 d hd).2.2.2.2.2
      simp only [upf_ne q]
      obtain ⟨g1, g2, g3⟩ := h4 d k hd hk'
      exact ⟨(e _ _ (by omega) (by omega) (by omega) (by omega)).trans g1, (e _ _ (by omega) (by omega) (by omega) (by omega)).trans g2, (e _ _ (by omega) (by omega) (by omega) (by omega)).trans g3⟩
theorem MR.trn {R : RD} {r c t n : Nat} {m m' : Mm} (h : MR R r m) (ht9 : 1 ≤ t) (hn : n ≤ Ck R c) (e0 : m' 131 (60 * r + c) = (t : Int)) (e1 : m' 132 (60 * r + c) = (n : Int)) (e : ∀ b j, 125 ≤ b → b ≤ 139 → ¬ (131 ≤ b ∧ b ≤ 132 ∧ j = 60 * r + c) → m' b j = m b j) : MR (Rtr R c t n) r m' := by
  obtain ⟨h1, h2, h3, h4, h5, h6, h7⟩ := h
  refine ⟨(e _ _ (by omega) (by omega) (by omega)).trans h1, (e _ _ (by omega) (by omega) (by omega)).trans h2, fun d hd => ?_, fun d k hd hk => ?_, (e _ _ (by omega) (by omega) (by omega)).trans h5, fun s hs => ⟨(e _ _ (by omega) (by omega) (by omega)).trans (h6 s hs).1, (e _ _ (by omega) (by omega) (by omega)).trans (h6 s hs).2⟩, fun s p hs hp => (e _ _ (by omega) (by omega) (by omega)).trans (h7 s p hs hp)⟩
  · obtain ⟨g1, g2, g3, g4, g5, g6⟩ := h3 d hd
    refine ⟨(e _ _ (by omega) (by omega) (by omega)).trans g1, (e _ _ (by omega) (by omega) (by omega)).trans g2, (e _ _ (by omega) (by omega) (by omega)).trans g3, (e _ _ (by omega) (by omega) (by omega)).trans g4, ?_, ?_⟩
    · show m' 131 (60 * r + d) = (if upf (Ct R) c t d = 0 then -1 else ((upf (Ct R) c t d : Nat) : Int))
      by_cases q : d = c
      · subst q; rw [upf_eq, if_neg (by omega)]; exact e0
      · rw [upf_ne q]; exact (e _ _ (by omega) (by omega) (by omega)).trans g5
    · show m' 132 (60 * r + d) = ((upf (Ck R) c n d : Nat) : Int)
      by_cases q : d = c
      · subst q; rw [upf_eq]; exact e1
      · rw [upf_ne q]; exact (e _ _ (by omega) (by omega) (by omega)).trans g6
  · have hk' : k < upf (Ck R) c n d := hk
    obtain ⟨g1, g2, g3⟩ := h4 d k hd (by
      by_cases q : d = c
      · subst q; rw [upf_eq] at hk'; omega
      · rw [upf_ne q] at hk'; exact hk')
    exact ⟨(e _ _ (by omega) (by omega) (by omega)).trans g1, (e _ _ (by omega) (by omega) (by omega)).trans g2, (e _ _ (by omega) (by omega) (by omega)).trans g3⟩
theorem MR.gp {R : RD} {r q : Nat} {m m' : Mm} (h : MR R r m) (e1 : m' 126 r = (q : Int)) (e : ∀ b j, 125 ≤ b → b ≤ 139 → b ≠ 126 → m' b j = m b j) : MR (Rgp R q) r m' := by
  obtain ⟨h1, h2, h3, h4, h5, h6, h7⟩ := h
  refine ⟨(e _ _ (by omega) (by omega) (by omega)).trans h1, e1, fun d hd => ?_, fun d k hd hk => ?_, (e _ _ (by omega) (by omega) (by omega)).trans h5, fun s hs => ⟨(e _ _ (by omega) (by omega) (by omega)).trans (h6 s hs).1, (e _ _ (by omega) (by omega) (by omega)).trans (h6 s hs).2⟩, fun s p hs hp => (e _ _ (by omega) (by omega) (by omega)).trans (h7 s p hs hp)⟩
  · obtain ⟨g1, g2, g3, g4, g5, g6⟩ := h3 d hd
    exact ⟨(e _ _ (by omega) (by omega) (by omega)).trans g1, (e _ _ (by omega) (by omega) (by omega)).trans g2, (e _ _ (by omega) (by omega) (by omega)).trans g3, (e _ _ (by omega) (by omega) (by omega)).trans g4, (e _ _ (by omega) (by omega) (by omega)).trans g5, (e _ _ (by omega) (by omega) (by omega)).trans g6⟩
  · obtain ⟨g1, g2, g3⟩ := h4 d k hd hk
    exact ⟨(e _ _ (by omega) (by omega) (by omega)).trans g1, (e _ _ (by omega) (by omega) (by omega)).trans g2, (e _ _ (by omega) (by omega) (by omega)).trans g3⟩
theorem MR.clr {R : RD} {r : Nat} {m : Mm} (e1 : m 125 r = 0) (e2 : m 126 r = 15) (e3 : m 136 r = 0) : MR (Rclr R) r m :=
  ⟨e1, e2, fun c hc => absurd hc (Nat.not_lt_zero _), fun c k hc => absurd hc (Nat.not_lt_zero _), e3, fun s hs => absurd hs (Nat.not_lt_zero _), fun s p hs => absurd hs (Nat.not_lt_zero _)⟩
theorem MR.sm {R : RD} {r n : Nat} {w p : Nat → Nat} {t : Nat → Nat → Nat} {m m' : Mm} (h : MR R r m) (e1 : m' 136 r = (n : Int)) (e2 : ∀ s, s < n → m' 137 (40 * r + s) = (w s : Int) ∧ m' 138 (40 * r + s) = (p s : Int)) (e3 : ∀ s k, s < n → k < p s → m' 139 (480 * r + 12 * s + k) = (t s k : Int)) (e : ∀ b j, 125 ≤ b → b ≤ 135 → m' b j = m b j) : MR (Rsm R n w p t) r m' := by
  obtain ⟨h1, h2, h3, h4, -, -, -⟩ := h
  refine ⟨(e _ _ (by omega) (by omega)).trans h1, (e _ _ (by omega) (by omega)).trans h2, fun d hd => ?_, fun d k hd hk => ?_, e1, e2, e3⟩
  · obtain ⟨g1, g2, g3, g4, g5, g6⟩ := h3 d hd
    exact ⟨(e _ _ (by omega) (by omega)).trans g1, (e _ _ (by omega) (by omega)).trans g2, (e _ _ (by omega) (by omega)).trans g3, (e _ _ (by omega) (by omega)).trans g4, (e _ _ (by omega) (by omega)).trans g5, (e _ _ (by omega) (by omega)).trans g6⟩
  · obtain ⟨g1, g2, g3⟩ := h4 d k hd hk
    exact ⟨(e _ _ (by omega) (by omega)).trans g1, (e _ _ (by omega) (by omega)).trans g2, (e _ _ (by omega) (by omega)).trans g3⟩

section
variable {len : Nat} {m : Mm} {Q : Option AV → Sx → Prop} {v lo hi : Int}
theorem m_in (q1 : lo ≤ v → v ≤ hi → Q (some (aI 1)) (m, tl len)) (q0 : (v < lo ∨ hi < v) → Q (some (aI 0)) (m, tl len)) : E 130 0 [some (aI (v)), some (aI (lo)), some (aI (hi))] [] (m, tl len) Q := by
  refine E_s (p' := 1) (st' := aI (v) :: _) rfl rfl ?_
  refine E_s (p' := 2) (st' := aI (lo) :: _) rfl rfl ?_
  refine E_icmp_lt (x := (v)) (y := (lo)) rfl (by decide) (fun h_1 => ?_) (fun h_1 => ?_)
  · refine E_go (p' := 14) (L' := [some (aI (v)), some (aI (lo)), some (aI (hi))]) (st' := []) rfl rfl rfl ?_
    refine E_s (p' := 15) (st' := aI 0 :: _) rfl rfl ?_
    refine E_ret rfl rfl ?_
    exact q0 (by omega)
  · refine E_go (p' := 5) (L' := [some (aI (v)), some (aI (lo)), some (aI (hi))]) (st' := []) rfl rfl rfl ?_
    refine E_s (p' := 6) (st' := aI (v) :: _) rfl rfl ?_
    refine E_s (p' := 7) (st' := aI (hi) :: _) rfl rfl ?_
    refine E_icmp_gt (x := (v)) (y := (hi)) rfl (by decide) (fun h_2 => ?_) (fun h_2 => ?_)
    · refine E_go (p' := 14) (L' := [some (aI (v)), some (aI (lo)), some (aI (hi))]) (st' := []) rfl rfl rfl ?_
      refine E_s (p' := 15) (st' := aI 0 :: _) rfl rfl ?_
      refine E_ret rfl rfl ?_
      exact q0 (by omega)
    · refine E_go (p' := 10) (L' := [some (aI (v)), some (aI (lo)), some (aI (hi))]) (st' := []) rfl rfl rfl ?_
      refine E_s (p' := 11) (st' := aI 1 :: _) rfl rfl ?_
      refine E_s (p' := 15) rfl rfl ?_
      refine E_ret rfl rfl ?_
      exact q1 (by omega) (by omega)
end
section
variable {len : Nat} {m : Mm} {Q : Option AV → Sx → Prop} {S : Nat → RD} {r c l g o h s t : Int} {i ci : Nat} {R : RD}
theorem m_isRecord (q1 : ∀ i : Nat, i < 4 → r = i → Q (some (aI 1)) (m, tl len)) (q0 : (r < 0 ∨ 3 < r) → Q (some (aI 0)) (m, tl len)) : E 129 0 [some (aI (r))] [] (m, tl len) Q := by
  refine E_s (p' := 1) (st' := aI (r) :: _) rfl rfl ?_
  refine E_s (p' := 2) (st' := aI 0 :: _) rfl rfl ?_
  refine E_s (p' := 3) (st' := aI 3 :: _) rfl rfl ?_
  refine E_callL (p' := 6) (L0 := [some (aI (r)), some (aI 0), some (aI 3)]) rfl rfl rfl ?_
  refine m_in (fun h_1 h_2 => ?_) (fun h_3 => ?_)
  · refine E_go (p' := 6) (L' := [some (aI (r))]) (st' := [aI 1]) rfl rfl rfl ?_
    refine E_ret rfl rfl ?_
    exact q1 r.toNat (by omega) (by omega)
  · refine E_go (p' := 6) (L' := [some (aI (r))]) (st' := [aI 0]) rfl rfl rfl ?_
    refine E_ret rfl rfl ?_
    exact q0 (by omega)
theorem m_isKind (q1 : okc c l → Q (some (aI 1)) (m, tl len)) (q0 : ¬ okc c l → Q (some (aI 0)) (m, tl len)) : E 131 0 [some (aI (c)), some (aI (l))] [] (m, tl len) Q := by
  refine E_s (p' := 1) (st' := aI (c) :: _) rfl rfl ?_
  refine E_s (p' := 2) (st' := aI 0 :: _) rfl rfl ?_
  refine E_s (p' := 4) (st' := aI 23 :: _) rfl rfl ?_
  refine E_callL (p' := 7) (L0 := [some (aI (c)), some (aI 0), some (aI 23)]) rfl rfl rfl ?_
  refine m_in (fun h_1 h_2 => ?_) (fun h_3 => ?_)
  · refine E_go (p' := 7) (L' := [some (aI (c)), some (aI (l))]) (st' := [aI 1]) rfl rfl rfl ?_
    refine E_s (p' := 10) rfl rfl ?_
    refine E_s (p' := 11) (st' := aI (l) :: _) rfl rfl ?_
    refine E_s (p' := 13) (st' := aI 10 :: _) rfl rfl ?_
    refine E_s (p' := 16) (st' := aI 600 :: _) rfl rfl ?_
    refine E_callL (p' := 19) (L0 := [some (aI (l)), some (aI 10), some (aI 600)]) rfl rfl rfl ?_
    refine m_in (fun h_4 h_5 => ?_) (fun h_6 => ?_)
    · refine E_go (p' := 19) (L' := [some (aI (c)), some (aI (l))]) (st' := [aI 1]) rfl rfl rfl ?_
      refine E_s (p' := 22) rfl rfl ?_
      refine E_s (p' := 23) (st' := aI 1 :: _) rfl rfl ?_
      refine E_s (p' := 27) rfl rfl ?_
      refine E_ret rfl rfl ?_
      exact q1 (by unfold okc; omega)
    · refine E_go (p' := 19) (L' := [some (aI (c)), some (aI (l))]) (st' := [aI 0]) rfl rfl rfl ?_
      refine E_s (p' := 26) rfl rfl ?_
      refine E_s (p' := 27) (st' := aI 0 :: _) rfl rfl ?_
      refine E_ret rfl rfl ?_
      exact q0 (by unfold okc; omega)
  · refine E_go (p' := 7) (L' := [some (aI (c)), some (aI (l))]) (st' := [aI 0]) rfl rfl rfl ?_
    refine E_s (p' := 26) rfl rfl ?_
    refine E_s (p' := 27) (st' := aI 0 :: _) rfl rfl ?_
    refine E_ret rfl rfl ?_
    exact q0 (by unfold okc; omega)
theorem m_isCord (hS : MS S m) (q1 : ∀ i ci : Nat, i < 4 → r = i → c = ci → ci < Cn (S i) → Q (some (aI 1)) (m, tl len)) (q0 : (r < 0 ∨ 3 < r) ∨ (∃ i : Nat, i < 4 ∧ r = i ∧ ¬ inC (S i) c) → Q (some (aI 0)) (m, tl len)) : E 135 0 [some (aA 124), some (aI (r)), some (aI (c))] [] (m, tl len) Q := by
  refine E_s (p' := 1) (st' := aI (r) :: _) rfl rfl ?_
  refine E_callL (p' := 4) (L0 := [some (aI (r))]) rfl rfl rfl ?_
  refine m_isRecord (fun i hi hr => ?_) (fun hr => ?_)
  · refine E_go (p' := 4) (L' := [some (aA 124), some (aI (r)), some (aI (c))]) (st' := [aI 1]) rfl rfl rfl ?_
    obtain ⟨hV, hM⟩ := hS i hi
    have hn60 := hV.1
    have hs40 := hV.2.2.2.2.1
    subst hr
    refine E_s (p' := 7) rfl rfl ?_
    refine E_s (p' := 8) (st' := aI (c) :: _) rfl rfl ?_
    refine E_s (p' := 9) (st' := aI 0 :: _) rfl rfl ?_
    refine E_s (p' := 10) (st' := aA 124 :: _) rfl rfl ?_
    refine E_gA (b := 125) rfl rfl rfl rfl rfl rfl ?_
    refine E_s (p' := 14) (st' := aI ((i : Nat) : Int) :: _) rfl rfl ?_
    refine E_ald (e := i) (N := 4) (v := ((Cn (S i) : Nat) : Int)) rfl rfl (rfl) (by omega) (MR_125 hM) ?_
    refine E_s (p' := 16) (st' := aI 1 :: _) rfl rfl ?_
    refine E_sub (v := ((Cn (S i) : Int) - 1)) rfl (by omega) (by omega) ?_
    refine E_callL (p' := 20) (L0 := [some (aI (c)), some (aI 0), some (aI ((Cn (S i) : Int) - 1))]) rfl rfl rfl ?_
    refine m_in (fun h_1 h_2 => ?_) (fun h_3 => ?_)
    · refine E_go (p' := 20) (L' := [some (aA 124), some (aI ((i : Nat) : Int)), some (aI (c))]) (st' := [aI 1]) rfl rfl rfl ?_
      refine E_s (p' := 23) rfl rfl ?_
      refine E_s (p' := 24) (st' := aI 1 :: _) rfl rfl ?_
      refine E_s (p' := 28) rfl rfl ?_
      refine E_ret rfl rfl ?_
      exact q1 i c.toNat hi rfl (by omega) (by omega)
    · refine E_go (p' := 20) (L' := [some (aA 124), some (aI ((i : Nat) : Int)), some (aI (c))]) (st' := [aI 0]) rfl rfl rfl ?_
      refine E_s (p' := 27) rfl rfl ?_
      refine E_s (p' := 28) (st' := aI 0 :: _) rfl rfl ?_
      refine E_ret rfl rfl ?_
      first | exact q0 (Or.inl hr) | exact q0 (Or.inr ⟨i, hi, rfl, by unfold inC; omega⟩)
  · refine E_go (p' := 4) (L' := [some (aA 124), some (aI (r)), some (aI (c))]) (st' := [aI 0]) rfl rfl rfl ?_
    refine E_s (p' := 27) rfl rfl ?_
    refine E_s (p' := 28) (st' := aI 0 :: _) rfl rfl ?_
    refine E_ret rfl rfl ?_
    first | exact q0 (Or.inl hr) | exact q0 (Or.inr ⟨i, hi, rfl, by unfold inC; omega⟩)
theorem m_changes (hi : i < 4) (q : Q none (up2 m 140 i 0, tl len)) : E 133 0 [some (aA 124), some (aI ((i : Nat) : Int))] [] (m, tl len) Q := by
  refine E_s (p' := 1) (st' := aA 124 :: _) rfl rfl ?_
  refine E_gA (b := 140) rfl rfl rfl rfl rfl rfl ?_
  refine E_s (p' := 5) (st' := aI ((i : Nat) : Int) :: _) rfl rfl ?_
  refine E_s (p' := 6) (st' := aI 0 :: _) rfl rfl ?_
  refine E_zst (e := i) (N := 4) rfl rfl (rfl) (by omega) (by decide) ?_
  refine E_ret rfl rfl ?_
  exact q
theorem m_add (hi : i < 4) (hM : MR R i m) (hV : VR R) (hn : Cn R < 60) (hcol : 0 ≤ c) (hl : 0 ≤ l) (q : ∀ m1, MR (Radd R g o c.toNat l.toNat) i m1 → Mx i m m1 → Co1 m m1 → Q (some (aI (Cn R : Int))) (m1, tl len)) : E 132 0 [some (aA 124), some (aI ((i : Nat) : Int)), some (aI (g)), some (aI (o)), some (aI (c)), some (aI (l)), none] [] (m, tl len) Q := by
  refine E_s (p' := 2) (st' := aI 60 :: _) rfl rfl ?_
  refine E_s (p' := 3) (st' := aI ((i : Nat) : Int) :: _) rfl rfl ?_
  refine E_mul (v := ((60 * i : Nat) : Int)) rfl (by omega) (by omega) ?_
  refine E_s (p' := 5) (st' := aA 124 :: _) rfl rfl ?_
  refine E_gA (b := 125) rfl rfl rfl rfl rfl rfl ?_
  refine E_s (p' := 9) (st' := aI ((i : Nat) : Int) :: _) rfl rfl ?_
  refine E_ald (e := i) (N := 4) (v := ((Cn R : Nat) : Int)) rfl rfl (rfl) (by omega) (MR_125 hM) ?_
  refine E_add (v := ((60 * i + Cn R : Nat) : Int)) rfl (by omega) (by omega) ?_
  refine E_s (p' := 13) (L' := [some (aA 124), some (aI ((i : Nat) : Int)), some (aI (g)), some (aI (o)), some (aI (c)), some (aI (l)), some (aI ((60 * i + Cn R : Nat) : Int))]) rfl rfl ?_
  refine E_s (p' := 14) (st' := aA 124 :: _) rfl rfl ?_
  refine E_gA (b := 127) rfl rfl rfl rfl rfl rfl ?_
  refine E_s (p' := 19) (st' := aI ((60 * i + Cn R : Nat) : Int) :: _) rfl rfl ?_
  refine E_s (p' := 20) (st' := aI (g) :: _) rfl rfl ?_
  refine E_ast (e := 60 * i + Cn R) (N := 240) rfl rfl (rfl) (by omega) ?_
  refine E_s (p' := 22) (st' := aA 124 :: _) rfl rfl ?_
  refine E_gA (b := 128) rfl rfl rfl rfl rfl rfl ?_
  refine E_s (p' := 27) (st' := aI ((60 * i + Cn R : Nat) : Int) :: _) rfl rfl ?_
  refine E_s (p' := 28) (st' := aI (o) :: _) rfl rfl ?_
  refine E_ast (e := 60 * i + Cn R) (N := 240) rfl rfl (rfl) (by omega) ?_
  refine E_s (p' := 30) (st' := aA 124 :: _) rfl rfl ?_
  refine E_gA (b := 129) rfl rfl rfl rfl rfl rfl ?_
  refine E_s (p' := 35) (st' := aI ((60 * i + Cn R : Nat) : Int) :: _) rfl rfl ?_
  refine E_s (p' := 37) (st' := aI (c) :: _) rfl rfl ?_
  refine E_ast (e := 60 * i + Cn R) (N := 240) rfl rfl (rfl) (by omega) ?_
  refine E_s (p' := 39) (st' := aA 124 :: _) rfl rfl ?_
  refine E_gA (b := 130) rfl rfl rfl rfl rfl rfl ?_
  refine E_s (p' := 44) (st' := aI ((60 * i + Cn R : Nat) : Int) :: _) rfl rfl ?_
  refine E_s (p' := 46) (st' := aI (l) :: _) rfl rfl ?_
  refine E_ast (e := 60 * i + Cn R) (N := 240) rfl rfl (rfl) (by omega) ?_
  refine E_s (p' := 48) (st' := aA 124 :: _) rfl rfl ?_
  refine E_gA (b := 131) rfl rfl rfl rfl rfl rfl ?_
  refine E_s (p' := 53) (st' := aI ((60 * i + Cn R : Nat) : Int) :: _) rfl rfl ?_
  refine E_s (p' := 54) (st' := aI (-1) :: _) rfl rfl ?_
  refine E_ast (e := 60 * i + Cn R) (N := 240) rfl rfl (rfl) (by omega) ?_
  refine E_s (p' := 56) (st' := aA 124 :: _) rfl rfl ?_
  refine E_gA (b := 132) rfl rfl rfl rfl rfl rfl ?_
  refine E_s (p' := 61) (st' := aI ((60 * i + Cn R : Nat) : Int) :: _) rfl rfl ?_
  refine E_s (p' := 62) (st' := aI 0 :: _) rfl rfl ?_
  refine E_ast (e := 60 * i + Cn R) (N := 240) rfl rfl (rfl) (by omega) ?_
  refine E_s (p' := 64) (st' := aA 124 :: _) rfl rfl ?_
  refine E_gA (b := 125) rfl rfl rfl rfl rfl rfl ?_
  refine E_s (p' := 68) (st' := aI ((i : Nat) : Int) :: _) rfl rfl ?_
  refine E_s (p' := 69) rfl rfl ?_
  refine E_ald (e := i) (N := 4) (v := ((Cn R : Nat) : Int)) rfl rfl (rfl) (by omega) ((up2_ne (by omega)).trans ((up2_ne (by omega)).trans ((up2_ne (by omega)).trans ((up2_ne (by omega)).trans ((up2_ne (by omega)).trans ((up2_ne (by omega)).trans ((MR_125 hM)))))))) ?_
  refine E_s (p' := 71) (st' := aI 1 :: _) rfl rfl ?_
  refine E_add (v := ((Cn R + 1 : Nat) : Int)) rfl (by omega) (by omega) ?_
  refine E_ast (e := i) (N := 4) rfl rfl (rfl) (by omega) ?_
  refine E_s (p' := 74) (st' := aA 124 :: _) rfl rfl ?_
  refine E_s (p' := 75) (st' := aI ((i : Nat) : Int) :: _) rfl rfl ?_
  refine E_callV (k' := 133) (a := 124) (r := []) (L0 := [some (aA 124), some (aI ((i : Nat) : Int))]) rfl rfl rfl rfl rfl rfl rfl rfl rfl rfl ?_
  refine m_changes (i := i) (by omega) ?_
  refine E_go (p' := 78) (L' := [some (aA 124), some (aI ((i : Nat) : Int)), some (aI (g)), some (aI (o)), some (aI (c)), some (aI (l)), some (aI ((60 * i + Cn R : Nat) : Int))]) (st' := []) rfl rfl rfl ?_
  refine E_s (p' := 79) (st' := aA 124 :: _) rfl rfl ?_
  refine E_gA (b := 125) rfl rfl rfl rfl rfl rfl ?_
  refine E_s (p' := 83) (st' := aI ((i : Nat) : Int) :: _) rfl rfl ?_
  refine E_ald (e := i) (N := 4) (v := ((Cn R + 1 : Nat) : Int)) rfl rfl (rfl) (by omega) ((up2_ne (by omega)).trans (up2_eq)) ?_
  refine E_s (p' := 85) (st' := aI 1 :: _) rfl rfl ?_
  refine E_sub (v := ((Cn R : Nat) : Int)) rfl (by omega) (by omega) ?_
  refine E_ret rfl rfl ?_
  exact q _ (MR.add (g := g) (o := o) (col := c.toNat) (l := l.toNat) hM ((up2_ne (by omega)).trans (up2_eq)) (((up2_ne (by omega)).trans ((up2_ne (by omega)).trans ((up2_ne (by omega)).trans ((up2_ne (by omega)).trans ((up2_ne (by omega)).trans ((up2_ne (by omega)).trans ((up2_ne (by omega)).trans (up2_eq)))))))).trans (by omega)) (((up2_ne (by omega)).trans ((up2_ne (by omega)).trans ((up2_ne (by omega)).trans ((up2_ne (by omega)).trans ((up2_ne (by omega)).trans ((up2_ne (by omega)).trans (up2_eq))))))).trans (by omega)) (((up2_ne (by omega)).trans ((up2_ne (by omega)).trans ((up2_ne (by omega)).trans ((up2_ne (by omega)).trans ((up2_ne (by omega)).trans (up2_eq)))))).trans (by omega)) (((up2_ne (by omega)).trans ((up2_ne (by omega)).trans ((up2_ne (by omega)).trans ((up2_ne (by omega)).trans (up2_eq))))).trans (by omega)) (((up2_ne (by omega)).trans ((up2_ne (by omega)).trans ((up2_ne (by omega)).trans (up2_eq)))).trans (by omega)) (((up2_ne (by omega)).trans ((up2_ne (by omega)).trans (up2_eq))).trans (by omega)) (fun b j h1 h2 h3 => ((up2_o (by omega)).trans ((up2_o (by omega)).trans ((up2_o (by omega)).trans ((up2_o (by omega)).trans ((up2_o (by omega)).trans ((up2_o (by omega)).trans ((up2_o (by omega)).trans (up2_o (by omega))))))))))) ((((((((Mx.rf.up (by unfold blk; omega)).up (by unfold blk; omega)).up (by unfold blk; omega)).up (by unfold blk; omega)).up (by unfold blk; omega)).up (by unfold blk; omega)).up (by unfold blk; omega)).up (by unfold blk; omega)) (fun b j hb => ((up2_ne (by omega)).trans ((up2_ne (by omega)).trans ((up2_ne (by omega)).trans ((up2_ne (by omega)).trans ((up2_ne (by omega)).trans ((up2_ne (by omega)).trans ((up2_ne (by omega)).trans (up2_ne (by omega))))))))))
theorem M_cord (hS : MS S m) (q : ∀ m1, MS (on1 S r (-2) (oCord g c l)).2 m1 → Co1 m m1 → Q (some (aI (on1 S r (-2) (oCord g c l)).1)) (m1, tl len)) : E 128 0 [some (aA 124), some (aI (r)), some (aI (g)), some (aI (c)), some (aI (l))] [] (m, tl len) Q := by
  refine E_s (p' := 1) (st' := aI (r) :: _) rfl rfl ?_
  refine E_callL (p' := 4) (L0 := [some (aI (r))]) rfl rfl rfl ?_
  refine m_isRecord (fun i hi hr => ?_) (fun hr => ?_)
  · refine E_go (p' := 4) (L' := [some (aA 124), some (aI (r)), some (aI (g)), some (aI (c)), some (aI (l))]) (st' := [aI 1]) rfl rfl rfl ?_
    obtain ⟨hV, hM⟩ := hS i hi
    have hn60 := hV.1
    have hs40 := hV.2.2.2.2.1
    subst hr
    refine E_s (p' := 7) rfl rfl ?_
    refine E_s (p' := 8) (st' := aI (g) :: _) rfl rfl ?_
    refine E_s (p' := 9) (st' := aI 0 :: _) rfl rfl ?_
    refine E_s (p' := 11) (st' := aI 11 :: _) rfl rfl ?_
    refine E_callL (p' := 14) (L0 := [some (aI (g)), some (aI 0), some (aI 11)]) rfl rfl rfl ?_
    refine m_in (fun h_1 h_2 => ?_) (fun h_3 => ?_)
    · refine E_go (p' := 14) (L' := [some (aA 124), some (aI ((i : Nat) : Int)), some (aI (g)), some (aI (c)), some (aI (l))]) (st' := [aI 1]) rfl rfl rfl ?_
      refine E_s (p' := 17) rfl rfl ?_
      refine E_s (p' := 18) (st' := aI (c) :: _) rfl rfl ?_
      refine E_s (p' := 20) (st' := aI (l) :: _) rfl rfl ?_
      refine E_callL (p' := 23) (L0 := [some (aI (c)), some (aI (l))]) rfl rfl rfl ?_
      refine m_isKind (fun hok => ?_) (fun hnk => ?_)
      · refine E_go (p' := 23) (L' := [some (aA 124), some (aI ((i : Nat) : Int)), some (aI (g)), some (aI (c)), some (aI (l))]) (st' := [aI 1]) rfl rfl rfl ?_
        refine E_s (p' := 29) rfl rfl ?_
        refine E_s (p' := 30) (st' := aA 124 :: _) rfl rfl ?_
        refine E_gA (b := 125) rfl rfl rfl rfl rfl rfl ?_
        refine E_s (p' := 34) (st' := aI ((i : Nat) : Int) :: _) rfl rfl ?_
        refine E_ald (e := i) (N := 4) (v := ((Cn (S i) : Nat) : Int)) rfl rfl (rfl) (by omega) (MR_125 hM) ?_
        refine E_s (p' := 37) (st' := aI 60 :: _) rfl rfl ?_
        refine E_icmp_ne (x := ((Cn (S i) : Nat) : Int)) (y := 60) rfl (by decide) (fun h_4 => ?_) (fun h_4 => ?_)
        · refine E_go (p' := 45) (L' := [some (aA 124), some (aI ((i : Nat) : Int)), some (aI (g)), some (aI (c)), some (aI (l))]) (st' := []) rfl rfl rfl ?_
          refine E_s (p' := 46) (st' := aA 124 :: _) rfl rfl ?_
          refine E_s (p' := 47) (st' := aI ((i : Nat) : Int) :: _) rfl rfl ?_
          refine E_s (p' := 48) (st' := aI (g) :: _) rfl rfl ?_
          refine E_s (p' := 49) (st' := aI (-1) :: _) rfl rfl ?_
          refine E_s (p' := 50) (st' := aI (c) :: _) rfl rfl ?_
          refine E_s (p' := 52) (st' := aI (l) :: _) rfl rfl ?_
          refine E_callV (k' := 132) (a := 124) (r := []) (L0 := [some (aA 124), some (aI ((i : Nat) : Int)), some (aI (g)), some (aI (-1)), some (aI (c)), some (aI (l)), none]) rfl rfl rfl rfl rfl rfl rfl rfl rfl rfl ?_
          refine m_add hi hM hV (by omega) (by unfold okc at hok; omega) (by unfold okc at hok; omega) (fun m1 hM1 hx1 hc1 => ?_)
          refine E_go (p' := 55) (L' := [some (aA 124), some (aI ((i : Nat) : Int)), some (aI (g)), some (aI (c)), some (aI (l))]) (st' := [aI ((Cn (S i) : Nat) : Int)]) rfl rfl rfl ?_
          refine E_ret rfl rfl ?_
          exact finMx hS hi rfl q (by unfold oCord; rw [cif_pos ⟨⟨by omega, by omega⟩, hok⟩, cif_neg (by omega)]) (V_add hV (by omega) (by omega) (by omega) (by unfold okc at hok; omega) (by unfold okc at hok; omega)) hM1 hx1 hc1
        · refine E_go (p' := 40) (L' := [some (aA 124), some (aI ((i : Nat) : Int)), some (aI (g)), some (aI (c)), some (aI (l))]) (st' := []) rfl rfl rfl ?_
          refine E_s (p' := 42) (st' := aI (-3) :: _) rfl rfl ?_
          refine E_s (p' := 55) rfl rfl ?_
          refine E_ret rfl rfl ?_
          exact finM_same hS hi rfl q (by unfold oCord; rw [cif_pos ⟨⟨by omega, by omega⟩, hok⟩, cif_pos (by omega)]) hS (fun _ _ _ => rfl)
      · refine E_go (p' := 23) (L' := [some (aA 124), some (aI ((i : Nat) : Int)), some (aI (g)), some (aI (c)), some (aI (l))]) (st' := [aI 0]) rfl rfl rfl ?_
        refine E_s (p' := 26) rfl rfl ?_
        refine E_s (p' := 28) (st' := aI (-2) :: _) rfl rfl ?_
        refine E_ret rfl rfl ?_
        exact finM_same hS hi rfl q (by unfold oCord; rw [cif_neg (by first | (unfold okc; omega) | exact fun g9 => hnk g9.2)]) hS (fun _ _ _ => rfl)
    · refine E_go (p' := 14) (L' := [some (aA 124), some (aI ((i : Nat) : Int)), some (aI (g)), some (aI (c)), some (aI (l))]) (st' := [aI 0]) rfl rfl rfl ?_
      refine E_s (p' := 26) rfl rfl ?_
      refine E_s (p' := 28) (st' := aI (-2) :: _) rfl rfl ?_
      refine E_ret rfl rfl ?_
      exact finM_same hS hi rfl q (by unfold oCord; rw [cif_neg (by first | (unfold okc; omega) | exact fun g9 => hnk g9.2)]) hS (fun _ _ _ => rfl)
  · refine E_go (p' := 4) (L' := [some (aA 124), some (aI (r)), some (aI (g)), some (aI (c)), some (aI (l))]) (st' := [aI 0]) rfl rfl rfl ?_
    refine E_s (p' := 26) rfl rfl ?_
    refine E_s (p' := 28) (st' := aI (-2) :: _) rfl rfl ?_
    refine E_ret rfl rfl ?_
    exact finM_out hS q hr
theorem dep_le {R : RD} (hV : VR R) {c : Nat} (hc : c < Cn R) : dep R c ≤ c + 1 := by
  induction c using Nat.strongRecOn with
  | ind c ih =>
    obtain ⟨-, ⟨o1, o2⟩, -⟩ := hV.2.2.1 c hc
    rw [dep_eq hV hc]
    split
    · omega
    · have := ih (Co R c).toNat (by omega) (by omega)
      omega
theorem ml_hang (hi : i < 4) (hM : MR R i m) (hV : VR R) {x3 x4 : Option AV} (hcc : ci < Cn R) (hk : E 134 63 [some (aA 124), some (aI (i : Int)), some (aI (ci : Int)), some (aI c), some (aI l), some (aI (dep R ci : Int)), some (aI (-1))] [] (m, tl len) Q) : ∀ (d : Nat) (b : Nat) (z : Int), (dep R ci < b + d) → (b ≤ dep R ci) → ((z = -1 ∧ dep R ci = b) ∨ ∃ e : Nat, z = e ∧ e < Cn R ∧ dep R ci = b + dep R e) → E 134 37 [some (aA 124), some (aI ((i : Nat) : Int)), some (aI ((ci : Nat) : Int)), some (aI (c)), some (aI (l)), some (aI ((b : Nat) : Int)), some (aI (z))] [] (m, tl len) Q := by
  intro d
  induction d with
  | zero => intro b z hd hb hz; omega
  | succ d ih =>
    intro b z hd hb hz
    refine E_s (p' := 39) (st' := aI (z) :: _) rfl rfl ?_
    refine E_s (p' := 40) (st' := aI (-1) :: _) rfl rfl ?_
    refine E_icmp_eq (x := (z)) (y := (-1)) rfl (by decide) (fun h_1 => ?_) (fun h_1 => ?_)
    · refine E_go (p' := 63) (L' := [some (aA 124), some (aI ((i : Nat) : Int)), some (aI ((ci : Nat) : Int)), some (aI (c)), some (aI (l)), some (aI ((b : Nat) : Int)), some (aI (z))]) (st' := []) rfl rfl rfl ?_
      have e9 : dep R ci = b := by rcases hz with ⟨z1, z2⟩ | ⟨e, z1, z2, z3⟩; exact z2; omega
      rw [show z = -1 by omega, ← e9]
      exact hk
    · refine E_go (p' := 43) (L' := [some (aA 124), some (aI ((i : Nat) : Int)), some (aI ((ci : Nat) : Int)), some (aI (c)), some (aI (l)), some (aI ((b : Nat) : Int)), some (aI (z))]) (st' := []) rfl rfl rfl ?_
      obtain ⟨e, ez, he2, he3⟩ : ∃ e : Nat, z = e ∧ e < Cn R ∧ dep R ci = b + dep R e := by rcases hz with ⟨z1, z2⟩ | z1; omega; exact z1
      have hd2 := dep_eq hV he2
      obtain ⟨-, ⟨vo1, vo2⟩, -⟩ := hV.2.2.1 e he2
      have hn60 := hV.1
      have hdn := dep_le hV hcc
      refine E_inc (x := ((b : Nat) : Int)) (w := ((b + 1 : Nat) : Int)) (L' := [some (aA 124), some (aI ((i : Nat) : Int)), some (aI ((ci : Nat) : Int)), some (aI (c)), some (aI (l)), some (aI ((b + 1 : Nat) : Int)), some (aI (z))]) rfl rfl rfl (by omega) (by omega) rfl ?_
      refine E_s (p' := 47) (st' := aA 124 :: _) rfl rfl ?_
      refine E_gA (b := 128) rfl rfl rfl rfl rfl rfl ?_
      refine E_s (p' := 52) (st' := aI 60 :: _) rfl rfl ?_
      refine E_s (p' := 53) (st' := aI ((i : Nat) : Int) :: _) rfl rfl ?_
      refine E_mul (v := ((60 * i : Nat) : Int)) rfl (by omega) (by omega) ?_
      refine E_s (p' := 56) (st' := aI (z) :: _) rfl rfl ?_
      refine E_add (v := (60 * (i : Int) + z)) rfl (by omega) (by omega) ?_
      refine E_ald (e := (60 * (i : Int) + z).toNat) (N := 240) (v := ((Co R e))) rfl rfl (by omega) (by omega) (MR_128 hM (by omega) (by omega)) ?_
      refine E_s (p' := 60) (L' := [some (aA 124), some (aI ((i : Nat) : Int)), some (aI ((ci : Nat) : Int)), some (aI (c)), some (aI (l)), some (aI ((b + 1 : Nat) : Int)), some (aI ((Co R e)))]) rfl rfl ?_
      refine E_s (p' := 37) rfl rfl ?_
      refine ih (b + 1) (Co R e) (by omega) ?_ ?_
      · rcases (show Co R e < 0 ∨ 0 ≤ Co R e by omega) with g | g
        · rw [if_pos g] at hd2; omega
        · rw [if_neg (by omega)] at hd2; omega
      · rcases (show Co R e < 0 ∨ 0 ≤ Co R e by omega) with g | g
        · rw [if_pos g] at hd2; exact Or.inl ⟨by omega, by omega⟩
        · rw [if_neg (by omega)] at hd2; exact Or.inr ⟨(Co R e).toNat, by omega, by omega, by omega⟩
theorem M_hang (hS : MS S m) (q : ∀ m1, MS (on1 S r (-2) (oHang o c l)).2 m1 → Co1 m m1 → Q (some (aI (on1 S r (-2) (oHang o c l)).1)) (m1, tl len)) : E 134 0 [some (aA 124), some (aI (r)), some (aI (o)), some (aI (c)), some (aI (l)), none, none] [] (m, tl len) Q := by
  refine E_s (p' := 1) (st' := aA 124 :: _) rfl rfl ?_
  refine E_s (p' := 2) (st' := aI (r) :: _) rfl rfl ?_
  refine E_s (p' := 3) (st' := aI (o) :: _) rfl rfl ?_
  refine E_callV (k' := 135) (a := 124) (r := []) (L0 := [some (aA 124), some (aI (r)), some (aI (o))]) rfl rfl rfl rfl rfl rfl rfl rfl rfl rfl ?_
  refine m_isCord hS (fun i ci hi hr hc hcc => ?_) (fun hno => ?_)
  · refine E_go (p' := 6) (L' := [some (aA 124), some (aI (r)), some (aI (o)), some (aI (c)), some (aI (l)), none, none]) (st' := [aI 1]) rfl rfl rfl ?_
    obtain ⟨hV, hM⟩ := hS i hi
    have hn60 := hV.1
    have hs40 := hV.2.2.2.2.1
    subst hr hc
    refine E_s (p' := 9) rfl rfl ?_
    refine E_s (p' := 10) (st' := aI (c) :: _) rfl rfl ?_
    refine E_s (p' := 12) (st' := aI (l) :: _) rfl rfl ?_
    refine E_callL (p' := 15) (L0 := [some (aI (c)), some (aI (l))]) rfl rfl rfl ?_
    refine m_isKind (fun hok => ?_) (fun hnk => ?_)
    · refine E_go (p' := 15) (L' := [some (aA 124), some (aI ((i : Nat) : Int)), some (aI ((ci : Nat) : Int)), some (aI (c)), some (aI (l)), none, none]) (st' := [aI 1]) rfl rfl rfl ?_
      refine E_s (p' := 21) rfl rfl ?_
      refine E_s (p' := 22) (st' := aI 1 :: _) rfl rfl ?_
      refine E_s (p' := 24) (L' := [some (aA 124), some (aI ((i : Nat) : Int)), some (aI ((ci : Nat) : Int)), some (aI (c)), some (aI (l)), some (aI 1), none]) rfl rfl ?_
      refine E_s (p' := 25) (st' := aA 124 :: _) rfl rfl ?_
      refine E_gA (b := 128) rfl rfl rfl rfl rfl rfl ?_
      refine E_s (p' := 30) (st' := aI 60 :: _) rfl rfl ?_
      refine E_s (p' := 31) (st' := aI ((i : Nat) : Int) :: _) rfl rfl ?_
      refine E_mul (v := ((60 * i : Nat) : Int)) rfl (by omega) (by omega) ?_
      refine E_s (p' := 33) (st' := aI ((ci : Nat) : Int) :: _) rfl rfl ?_
      refine E_add (v := ((60 * i + ci : Nat) : Int)) rfl (by omega) (by omega) ?_
      refine E_ald (e := 60 * i + ci) (N := 240) (v := ((Co (S i) ci))) rfl rfl (rfl) (by omega) (MR_128 hM (by omega) (by omega)) ?_
      refine E_s (p' := 37) (L' := [some (aA 124), some (aI ((i : Nat) : Int)), some (aI ((ci : Nat) : Int)), some (aI (c)), some (aI (l)), some (aI 1), some (aI ((Co (S i) ci)))]) rfl rfl ?_
      have hd2 := dep_eq hV hcc
      obtain ⟨-, ⟨vo1, vo2⟩, -⟩ := hV.2.2.1 ci hcc
      have hdn := dep_le hV hcc
      refine ml_hang hi hM hV (x3 := none) (x4 := none) hcc ?_ (dep (S i) ci + 1) 1 (Co (S i) ci) (by omega) (by rw [hd2]; split <;> omega) ?_
      rotate_left
      · rcases (show Co (S i) ci < 0 ∨ 0 ≤ Co (S i) ci by omega) with g | g
        · rw [if_pos g] at hd2; exact Or.inl ⟨by omega, by omega⟩
        · rw [if_neg (by omega)] at hd2; exact Or.inr ⟨(Co (S i) ci).toNat, by omega, by omega, by omega⟩
      refine E_s (p' := 64) (st' := aA 124 :: _) rfl rfl ?_
      refine E_gA (b := 125) rfl rfl rfl rfl rfl rfl ?_
      refine E_s (p' := 68) (st' := aI ((i : Nat) : Int) :: _) rfl rfl ?_
      refine E_ald (e := i) (N := 4) (v := ((Cn (S i) : Nat) : Int)) rfl rfl (rfl) (by omega) (MR_125 hM) ?_
      refine E_s (p' := 71) (st' := aI 60 :: _) rfl rfl ?_
      refine E_icmp_eq (x := ((Cn (S i) : Nat) : Int)) (y := 60) rfl (by decide) (fun h_1 => ?_) (fun h_1 => ?_)
      · refine E_go (p' := 80) (L' := [some (aA 124), some (aI ((i : Nat) : Int)), some (aI ((ci : Nat) : Int)), some (aI (c)), some (aI (l)), some (aI ((dep (S i) ci : Nat) : Int)), some (aI (-1))]) (st' := []) rfl rfl rfl ?_
        refine E_s (p' := 82) (st' := aI (-3) :: _) rfl rfl ?_
        refine E_s (p' := 95) rfl rfl ?_
        refine E_ret rfl rfl ?_
        exact finM_same hS hi rfl q (by unfold oHang; (try simp only [Int.toNat_natCast]); rw [cif_pos ⟨by unfold inC; omega, hok⟩, cif_pos (show 3 < dep (S i) ci ∨ Cn (S i) = 60 by omega)]) hS (fun _ _ _ => rfl)
      · refine E_go (p' := 74) (L' := [some (aA 124), some (aI ((i : Nat) : Int)), some (aI ((ci : Nat) : Int)), some (aI (c)), some (aI (l)), some (aI ((dep (S i) ci : Nat) : Int)), some (aI (-1))]) (st' := []) rfl rfl rfl ?_
        refine E_s (p' := 76) (st' := aI ((dep (S i) ci : Nat) : Int) :: _) rfl rfl ?_
        refine E_s (p' := 77) (st' := aI 3 :: _) rfl rfl ?_
        refine E_icmp_le (x := ((dep (S i) ci : Nat) : Int)) (y := 3) rfl (by decide) (fun h_2 => ?_) (fun h_2 => ?_)
        · refine E_go (p' := 85) (L' := [some (aA 124), some (aI ((i : Nat) : Int)), some (aI ((ci : Nat) : Int)), some (aI (c)), some (aI (l)), some (aI ((dep (S i) ci : Nat) : Int)), some (aI (-1))]) (st' := []) rfl rfl rfl ?_
          refine E_s (p' := 86) (st' := aA 124 :: _) rfl rfl ?_
          refine E_s (p' := 87) (st' := aI ((i : Nat) : Int) :: _) rfl rfl ?_
          refine E_s (p' := 88) (st' := aI (-1) :: _) rfl rfl ?_
          refine E_s (p' := 89) (st' := aI ((ci : Nat) : Int) :: _) rfl rfl ?_
          refine E_s (p' := 90) (st' := aI (c) :: _) rfl rfl ?_
          refine E_s (p' := 92) (st' := aI (l) :: _) rfl rfl ?_
          refine E_callV (k' := 132) (a := 124) (r := []) (L0 := [some (aA 124), some (aI ((i : Nat) : Int)), some (aI (-1)), some (aI ((ci : Nat) : Int)), some (aI (c)), some (aI (l)), none]) rfl rfl rfl rfl rfl rfl rfl rfl rfl rfl ?_
          refine m_add hi hM hV (by omega) (by unfold okc at hok; omega) (by unfold okc at hok; omega) (fun m1 hM1 hx1 hc1 => ?_)
          refine E_go (p' := 95) (L' := [some (aA 124), some (aI ((i : Nat) : Int)), some (aI ((ci : Nat) : Int)), some (aI (c)), some (aI (l)), some (aI ((dep (S i) ci : Nat) : Int)), some (aI (-1))]) (st' := [aI ((Cn (S i) : Nat) : Int)]) rfl rfl rfl ?_
          refine E_ret rfl rfl ?_
          exact finMx hS hi rfl q (by unfold oHang; (try simp only [Int.toNat_natCast]); rw [cif_pos ⟨by unfold inC; omega, hok⟩, cif_neg (show ¬ (3 < dep (S i) ci ∨ Cn (S i) = 60) by omega)]) (V_add hV (by omega) (by omega) (by omega) (by unfold okc at hok; omega) (by unfold okc at hok; omega)) hM1 hx1 hc1
        · refine E_go (p' := 80) (L' := [some (aA 124), some (aI ((i : Nat) : Int)), some (aI ((ci : Nat) : Int)), some (aI (c)), some (aI (l)), some (aI ((dep (S i) ci : Nat) : Int)), some (aI (-1))]) (st' := []) rfl rfl rfl ?_
          refine E_s (p' := 82) (st' := aI (-3) :: _) rfl rfl ?_
          refine E_s (p' := 95) rfl rfl ?_
          refine E_ret rfl rfl ?_
          exact finM_same hS hi rfl q (by unfold oHang; (try simp only [Int.toNat_natCast]); rw [cif_pos ⟨by unfold inC; omega, hok⟩, cif_pos (show 3 < dep (S i) ci ∨ Cn (S i) = 60 by omega)]) hS (fun _ _ _ => rfl)
    · refine E_go (p' := 15) (L' := [some (aA 124), some (aI ((i : Nat) : Int)), some (aI ((ci : Nat) : Int)), some (aI (c)), some (aI (l)), none, none]) (st' := [aI 0]) rfl rfl rfl ?_
      refine E_s (p' := 18) rfl rfl ?_
      refine E_s (p' := 20) (st' := aI (-2) :: _) rfl rfl ?_
      refine E_ret rfl rfl ?_
      exact finM_same hS hi rfl q (by unfold oHang; (try simp only [Int.toNat_natCast]); rw [cif_neg (fun g9 => hnk g9.2)]) hS (fun _ _ _ => rfl)
  · refine E_go (p' := 6) (L' := [some (aA 124), some (aI (r)), some (aI (o)), some (aI (c)), some (aI (l)), none, none]) (st' := [aI 0]) rfl rfl rfl ?_
    refine E_s (p' := 18) rfl rfl ?_
    refine E_s (p' := 20) (st' := aI (-2) :: _) rfl rfl ?_
    refine E_ret rfl rfl ?_
    rcases hno with hr | ⟨i, hi, hr, hno⟩
    · exact finM_out hS q hr
    · exact finM_same hS hi hr q (by unfold oHang; (try simp only [Int.toNat_natCast]); rw [cif_neg (fun g9 => hno g9.1)]) hS (fun _ _ _ => rfl)
theorem M_gap (hS : MS S m) (q : ∀ m1, MS (on1 S r (-2) (oGap c)).2 m1 → Co1 m m1 → Q (some (aI (on1 S r (-2) (oGap c)).1)) (m1, tl len)) : E 141 0 [some (aA 124), some (aI (r)), some (aI (c)), none] [] (m, tl len) Q := by
  refine E_s (p' := 1) (st' := aI (r) :: _) rfl rfl ?_
  refine E_callL (p' := 4) (L0 := [some (aI (r))]) rfl rfl rfl ?_
  refine m_isRecord (fun i hi hr => ?_) (fun hr => ?_)
  · refine E_go (p' := 4) (L' := [some (aA 124), some (aI (r)), some (aI (c)), none]) (st' := [aI 1]) rfl rfl rfl ?_
    obtain ⟨hV, hM⟩ := hS i hi
    have hn60 := hV.1
    have hs40 := hV.2.2.2.2.1
    subst hr
    refine E_s (p' := 7) rfl rfl ?_
    refine E_s (p' := 8) (st' := aI (c) :: _) rfl rfl ?_
    refine E_s (p' := 9) (st' := aI 1 :: _) rfl rfl ?_
    refine E_s (p' := 11) (st' := aI 100 :: _) rfl rfl ?_
    refine E_callL (p' := 14) (L0 := [some (aI (c)), some (aI 1), some (aI 100)]) rfl rfl rfl ?_
    refine m_in (fun h_1 h_2 => ?_) (fun h_3 => ?_)
    · refine E_go (p' := 14) (L' := [some (aA 124), some (aI ((i : Nat) : Int)), some (aI (c)), none]) (st' := [aI 1]) rfl rfl rfl ?_
      refine E_s (p' := 20) rfl rfl ?_
      refine E_s (p' := 21) (st' := aA 124 :: _) rfl rfl ?_
      refine E_gA (b := 126) rfl rfl rfl rfl rfl rfl ?_
      refine E_s (p' := 25) (st' := aI ((i : Nat) : Int) :: _) rfl rfl ?_
      refine E_ald (e := i) (N := 4) (v := ((Cq (S i) : Nat) : Int)) rfl rfl (rfl) (by omega) (MR_126 hM) ?_
      refine E_s (p' := 27) (L' := [some (aA 124), some (aI ((i : Nat) : Int)), some (aI (c)), some (aI ((Cq (S i) : Nat) : Int))]) rfl rfl ?_
      refine E_s (p' := 28) (st' := aA 124 :: _) rfl rfl ?_
      refine E_gA (b := 126) rfl rfl rfl rfl rfl rfl ?_
      refine E_s (p' := 32) (st' := aI ((i : Nat) : Int) :: _) rfl rfl ?_
      refine E_s (p' := 33) (st' := aI (c) :: _) rfl rfl ?_
      refine E_ast (e := i) (N := 4) rfl rfl (rfl) (by omega) ?_
      refine E_s (p' := 35) (st' := aA 124 :: _) rfl rfl ?_
      refine E_s (p' := 36) (st' := aI ((i : Nat) : Int) :: _) rfl rfl ?_
      refine E_callV (k' := 133) (a := 124) (r := []) (L0 := [some (aA 124), some (aI ((i : Nat) : Int))]) rfl rfl rfl rfl rfl rfl rfl rfl rfl rfl ?_
      refine m_changes (i := i) (by omega) ?_
      refine E_go (p' := 39) (L' := [some (aA 124), some (aI ((i : Nat) : Int)), some (aI (c)), some (aI ((Cq (S i) : Nat) : Int))]) (st' := []) rfl rfl rfl ?_
      refine E_s (p' := 40) (st' := aI ((Cq (S i) : Nat) : Int) :: _) rfl rfl ?_
      refine E_ret rfl rfl ?_
      exact finMx hS hi rfl q (by unfold oGap; rw [cif_pos (by omega)]) (V_gp hV (by omega)) (MR.gp hM (((up2_ne (by omega)).trans (up2_eq)).trans (by omega)) (fun b j h1 h2 h3 => ((up2_ne (by omega)).trans (up2_ne (by omega))))) ((Mx.rf.up (by unfold blk; omega)).up (by unfold blk; omega)) (fun b j hb => ((up2_ne (by omega)).trans (up2_ne (by omega))))
    · refine E_go (p' := 14) (L' := [some (aA 124), some (aI ((i : Nat) : Int)), some (aI (c)), none]) (st' := [aI 0]) rfl rfl rfl ?_
      refine E_s (p' := 17) rfl rfl ?_
      refine E_s (p' := 19) (st' := aI (-2) :: _) rfl rfl ?_
      refine E_ret rfl rfl ?_
      exact finM_same hS hi rfl q (by unfold oGap; rw [cif_neg (by omega)]) hS (fun _ _ _ => rfl)
  · refine E_go (p' := 4) (L' := [some (aA 124), some (aI (r)), some (aI (c)), none]) (st' := [aI 0]) rfl rfl rfl ?_
    refine E_s (p' := 17) rfl rfl ?_
    refine E_s (p' := 19) (st' := aI (-2) :: _) rfl rfl ?_
    refine E_ret rfl rfl ?_
    exact finM_out hS q hr
theorem M_clear (hS : MS S m) (q : ∀ m1, MS (on1 S r (-2) oClear).2 m1 → Co1 m m1 → Q (some (aI (on1 S r (-2) oClear).1)) (m1, tl len)) : E 142 0 [some (aA 124), some (aI (r)), none] [] (m, tl len) Q := by
  refine E_s (p' := 1) (st' := aI (r) :: _) rfl rfl ?_
  refine E_callL (p' := 4) (L0 := [some (aI (r))]) rfl rfl rfl ?_
  refine m_isRecord (fun i hi hr => ?_) (fun hr => ?_)
  · refine E_go (p' := 4) (L' := [some (aA 124), some (aI (r)), none]) (st' := [aI 1]) rfl rfl rfl ?_
    obtain ⟨hV, hM⟩ := hS i hi
    have hn60 := hV.1
    have hs40 := hV.2.2.2.2.1
    subst hr
    refine E_s (p' := 10) rfl rfl ?_
    refine E_s (p' := 11) (st' := aA 124 :: _) rfl rfl ?_
    refine E_gA (b := 125) rfl rfl rfl rfl rfl rfl ?_
    refine E_s (p' := 15) (st' := aI ((i : Nat) : Int) :: _) rfl rfl ?_
    refine E_ald (e := i) (N := 4) (v := ((Cn (S i) : Nat) : Int)) rfl rfl (rfl) (by omega) (MR_125 hM) ?_
    refine E_s (p' := 17) (L' := [some (aA 124), some (aI ((i : Nat) : Int)), some (aI ((Cn (S i) : Nat) : Int))]) rfl rfl ?_
    refine E_s (p' := 18) (st' := aA 124 :: _) rfl rfl ?_
    refine E_gA (b := 125) rfl rfl rfl rfl rfl rfl ?_
    refine E_s (p' := 22) (st' := aI ((i : Nat) : Int) :: _) rfl rfl ?_
    refine E_s (p' := 23) (st' := aI 0 :: _) rfl rfl ?_
    refine E_ast (e := i) (N := 4) rfl rfl (rfl) (by omega) ?_
    refine E_s (p' := 25) (st' := aA 124 :: _) rfl rfl ?_
    refine E_gA (b := 136) rfl rfl rfl rfl rfl rfl ?_
    refine E_s (p' := 29) (st' := aI ((i : Nat) : Int) :: _) rfl rfl ?_
    refine E_s (p' := 30) (st' := aI 0 :: _) rfl rfl ?_
    refine E_ast (e := i) (N := 4) rfl rfl (rfl) (by omega) ?_
    refine E_s (p' := 32) (st' := aA 124 :: _) rfl rfl ?_
    refine E_gA (b := 126) rfl rfl rfl rfl rfl rfl ?_
    refine E_s (p' := 36) (st' := aI ((i : Nat) : Int) :: _) rfl rfl ?_
    refine E_s (p' := 38) (st' := aI 15 :: _) rfl rfl ?_
    refine E_ast (e := i) (N := 4) rfl rfl (rfl) (by omega) ?_
    refine E_s (p' := 40) (st' := aA 124 :: _) rfl rfl ?_
    refine E_s (p' := 41) (st' := aI ((i : Nat) : Int) :: _) rfl rfl ?_
    refine E_callV (k' := 133) (a := 124) (r := []) (L0 := [some (aA 124), some (aI ((i : Nat) : Int))]) rfl rfl rfl rfl rfl rfl rfl rfl rfl rfl ?_
    refine m_changes (i := i) (by omega) ?_
    refine E_go (p' := 44) (L' := [some (aA 124), some (aI ((i : Nat) : Int)), some (aI ((Cn (S i) : Nat) : Int))]) (st' := []) rfl rfl rfl ?_
    refine E_s (p' := 45) (st' := aI ((Cn (S i) : Nat) : Int) :: _) rfl rfl ?_
    refine E_ret rfl rfl ?_
    exact finMx hS hi rfl q rfl V_clr (MR.clr ((up2_ne (by omega)).trans ((up2_ne (by omega)).trans ((up2_ne (by omega)).trans (up2_eq)))) ((up2_ne (by omega)).trans (up2_eq)) ((up2_ne (by omega)).trans ((up2_ne (by omega)).trans (up2_eq)))) ((((Mx.rf.up (by unfold blk; omega)).up (by unfold blk; omega)).up (by unfold blk; omega)).up (by unfold blk; omega)) (fun b j hb => ((up2_ne (by omega)).trans ((up2_ne (by omega)).trans ((up2_ne (by omega)).trans (up2_ne (by omega))))))
  · refine E_go (p' := 4) (L' := [some (aA 124), some (aI (r)), none]) (st' := [aI 0]) rfl rfl rfl ?_
    refine E_s (p' := 7) rfl rfl ?_
    refine E_s (p' := 9) (st' := aI (-2) :: _) rfl rfl ?_
    refine E_ret rfl rfl ?_
    exact finM_out hS q hr
theorem M_drop (hS : MS S m) (q : ∀ m1, MS (on1 S r (-2) oDrop).2 m1 → Co1 m m1 → Q (some (aI (on1 S r (-2) oDrop).1)) (m1, tl len)) : E 163 0 [some (aA 124), some (aI (r))] [] (m, tl len) Q := by
  refine E_s (p' := 1) (st' := aI (r) :: _) rfl rfl ?_
  refine E_callL (p' := 4) (L0 := [some (aI (r))]) rfl rfl rfl ?_
  refine m_isRecord (fun i hi hr => ?_) (fun hr => ?_)
  · refine E_go (p' := 4) (L' := [some (aA 124), some (aI (r))]) (st' := [aI 1]) rfl rfl rfl ?_
    obtain ⟨hV, hM⟩ := hS i hi
    have hn60 := hV.1
    have hs40 := hV.2.2.2.2.1
    subst hr
    refine E_s (p' := 10) rfl rfl ?_
    refine E_s (p' := 11) (st' := aA 124 :: _) rfl rfl ?_
    refine E_gA (b := 136) rfl rfl rfl rfl rfl rfl ?_
    refine E_s (p' := 15) (st' := aI ((i : Nat) : Int) :: _) rfl rfl ?_
    refine E_ald (e := i) (N := 4) (v := ((Sn (S i) : Nat) : Int)) rfl rfl (rfl) (by omega) (MR_136 hM) ?_
    refine E_if_ne (x := ((Sn (S i) : Nat) : Int)) rfl (by decide) (fun h_1 => ?_) (fun h_1 => ?_)
    · refine E_go (p' := 21) (L' := [some (aA 124), some (aI ((i : Nat) : Int))]) (st' := []) rfl rfl rfl ?_
      refine E_s (p' := 22) (st' := aA 124 :: _) rfl rfl ?_
      refine E_gA (b := 136) rfl rfl rfl rfl rfl rfl ?_
      refine E_s (p' := 26) (st' := aI ((i : Nat) : Int) :: _) rfl rfl ?_
      refine E_s (p' := 27) rfl rfl ?_
      refine E_ald (e := i) (N := 4) (v := ((Sn (S i) : Nat) : Int)) rfl rfl (rfl) (by omega) (MR_136 hM) ?_
      refine E_s (p' := 29) (st' := aI 1 :: _) rfl rfl ?_
      refine E_sub (v := ((Sn (S i) : Int) - 1)) rfl (by omega) (by omega) ?_
      refine E_ast (e := i) (N := 4) rfl rfl (rfl) (by omega) ?_
      refine E_s (p' := 32) (st' := aA 124 :: _) rfl rfl ?_
      refine E_s (p' := 33) (st' := aI ((i : Nat) : Int) :: _) rfl rfl ?_
      refine E_callV (k' := 133) (a := 124) (r := []) (L0 := [some (aA 124), some (aI ((i : Nat) : Int))]) rfl rfl rfl rfl rfl rfl rfl rfl rfl rfl ?_
      refine m_changes (i := i) (by omega) ?_
      refine E_go (p' := 36) (L' := [some (aA 124), some (aI ((i : Nat) : Int))]) (st' := []) rfl rfl rfl ?_
      refine E_s (p' := 37) (st' := aA 124 :: _) rfl rfl ?_
      refine E_gA (b := 136) rfl rfl rfl rfl rfl rfl ?_
      refine E_s (p' := 41) (st' := aI ((i : Nat) : Int) :: _) rfl rfl ?_
      refine E_ald (e := i) (N := 4) (v := ((Sn (S i) : Int) - 1)) rfl rfl (rfl) (by omega) ((up2_ne (by omega)).trans (up2_eq)) ?_
      refine E_ret rfl rfl ?_
      exact finMx hS hi rfl q (by unfold oDrop; rw [cif_neg (by omega)]; exact Prod.ext (show ((Sn (S i) - 1 : Nat) : Int) = _ by omega) rfl) (V_sm hV (by have := hV.2.2.2.2.1; omega) (fun s hs => hV.2.2.2.2.2.1 s (by omega)) (fun s k hs hk => hV.2.2.2.2.2.2 s k (by omega) hk)) (MR.sm hM (((up2_ne (by omega)).trans (up2_eq)).trans (by omega)) (fun s hs => ⟨((up2_ne (by omega)).trans (up2_ne (by omega))).trans (MR_137 hM (by omega) rfl), ((up2_ne (by omega)).trans (up2_ne (by omega))).trans (MR_138 hM (by omega) rfl)⟩) (fun s k hs hk => ((up2_ne (by omega)).trans (up2_ne (by omega))).trans (MR_139 hM (by omega) hk rfl)) (fun b j h1 h2 => ((up2_ne (by omega)).trans (up2_ne (by omega))))) ((Mx.rf.up (by unfold blk; omega)).up (by unfold blk; omega)) (fun b j hb => ((up2_ne (by omega)).trans (up2_ne (by omega))))
    · refine E_go (p' := 19) (L' := [some (aA 124), some (aI ((i : Nat) : Int))]) (st' := []) rfl rfl rfl ?_
      refine E_s (p' := 20) (st' := aI (-1) :: _) rfl rfl ?_
      refine E_ret rfl rfl ?_
      exact finM_same hS hi rfl q (by unfold oDrop; rw [cif_pos (by omega)]) hS (fun _ _ _ => rfl)
  · refine E_go (p' := 4) (L' := [some (aA 124), some (aI (r))]) (st' := [aI 0]) rfl rfl rfl ?_
    refine E_s (p' := 7) rfl rfl ?_
    refine E_s (p' := 9) (st' := aI (-2) :: _) rfl rfl ?_
    refine E_ret rfl rfl ?_
    exact finM_out hS q hr
end

section
variable {len : Nat} {m : Mm} {Q : Option AV → Sx → Prop} {R : RD} {i c : Nat} {h : Int}
theorem yl_find (hi : i < 4) (hM : MR R i m) (hV : VR R) (hcc : c < Cn R) (q1 : ∀ k, k < Ck R c → (ht (Cp R c k) : Int) = h → Q (some (aI (k : Int))) (m, tl len)) (q0 : (∀ k, k < Ck R c → (ht (Cp R c k) : Int) ≠ h) → Q (some (aI (-1))) (m, tl len)) : ∀ (d : Nat) (k : Nat), (Ck R c < k + d) → (k ≤ Ck R c) → (∀ j, j < k → (ht (Cp R c j) : Int) ≠ h) → E 137 2 [some (aA 124), some (aI ((60 * i + c : Nat) : Int)), some (aI (h)), some (aI ((k : Nat) : Int))] [] (m, tl len) Q := by
  intro d
  induction d with
  | zero => intro k hd hk hne; omega
  | succ d ih =>
    intro k hd hk hne
    have hn60 := hV.1
    have hk30 := (hV.2.2.1 c hcc).2.2.2.2.2
    refine E_s (p' := 3) (st' := aI ((k : Nat) : Int) :: _) rfl rfl ?_
    refine E_s (p' := 4) (st' := aA 124 :: _) rfl rfl ?_
    refine E_gA (b := 132) rfl rfl rfl rfl rfl rfl ?_
    refine E_s (p' := 8) (st' := aI ((60 * i + c : Nat) : Int) :: _) rfl rfl ?_
    refine E_ald (e := 60 * i + c) (N := 240) (v := ((Ck R c : Nat) : Int)) rfl rfl (rfl) (by omega) (MR_132 hM (by omega) (by omega)) ?_
    refine E_icmp_ge (x := ((k : Nat) : Int)) (y := ((Ck R c : Nat) : Int)) rfl (by decide) (fun h_1 => ?_) (fun h_1 => ?_)
    · refine E_go (p' := 35) (L' := [some (aA 124), some (aI ((60 * i + c : Nat) : Int)), some (aI (h)), some (aI ((k : Nat) : Int))]) (st' := []) rfl rfl rfl ?_
      refine E_s (p' := 36) (st' := aI (-1) :: _) rfl rfl ?_
      refine E_ret rfl rfl ?_
      exact q0 (fun j hj => hne j (by omega))
    · refine E_go (p' := 12) (L' := [some (aA 124), some (aI ((60 * i + c : Nat) : Int)), some (aI (h)), some (aI ((k : Nat) : Int))]) (st' := []) rfl rfl rfl ?_
      refine E_s (p' := 13) (st' := aA 124 :: _) rfl rfl ?_
      refine E_gA (b := 133) rfl rfl rfl rfl rfl rfl ?_
      refine E_s (p' := 18) (st' := aI 30 :: _) rfl rfl ?_
      refine E_s (p' := 19) (st' := aI ((60 * i + c : Nat) : Int) :: _) rfl rfl ?_
      refine E_mul (v := ((1800 * i + 30 * c : Nat) : Int)) rfl (by omega) (by omega) ?_
      refine E_s (p' := 21) (st' := aI ((k : Nat) : Int) :: _) rfl rfl ?_
      refine E_add (v := ((1800 * i + 30 * c + k : Nat) : Int)) rfl (by omega) (by omega) ?_
      refine E_ald (e := 1800 * i + 30 * c + k) (N := 7200) (v := ((ht (Cp R c k) : Nat) : Int)) rfl rfl (rfl) (by omega) (MR_133 hM (by omega) (by omega) (by omega)) ?_
      refine E_s (p' := 24) (st' := aI (h) :: _) rfl rfl ?_
      refine E_icmp_ne (x := ((ht (Cp R c k) : Nat) : Int)) (y := (h)) rfl (by decide) (fun h_2 => ?_) (fun h_2 => ?_)
      · refine E_go (p' := 29) (L' := [some (aA 124), some (aI ((60 * i + c : Nat) : Int)), some (aI (h)), some (aI ((k : Nat) : Int))]) (st' := []) rfl rfl rfl ?_
        refine E_inc (x := ((k : Nat) : Int)) (w := ((k + 1 : Nat) : Int)) (L' := [some (aA 124), some (aI ((60 * i + c : Nat) : Int)), some (aI (h)), some (aI ((k + 1 : Nat) : Int))]) rfl rfl rfl (by omega) (by omega) rfl ?_
        refine E_s (p' := 2) rfl rfl ?_
        exact ih (k + 1) (by omega) (by omega) (fun j hj => by rcases Nat.lt_succ_iff_lt_or_eq.mp hj with g | g; exact hne j g; subst g; assumption)
      · refine E_go (p' := 27) (L' := [some (aA 124), some (aI ((60 * i + c : Nat) : Int)), some (aI (h)), some (aI ((k : Nat) : Int))]) (st' := []) rfl rfl rfl ?_
        refine E_s (p' := 28) (st' := aI ((k : Nat) : Int) :: _) rfl rfl ?_
        refine E_ret rfl rfl ?_
        exact q1 k (by omega) (by omega)
theorem m_find (hi : i < 4) (hM : MR R i m) (hV : VR R) (hcc : c < Cn R) (q1 : ∀ k, k < Ck R c → (ht (Cp R c k) : Int) = h → Q (some (aI (k : Int))) (m, tl len)) (q0 : (∀ k, k < Ck R c → (ht (Cp R c k) : Int) ≠ h) → Q (some (aI (-1))) (m, tl len)) : E 137 0 [some (aA 124), some (aI ((60 * i + c : Nat) : Int)), some (aI (h)), none] [] (m, tl len) Q := by
  refine E_s (p' := 1) (st' := aI 0 :: _) rfl rfl ?_
  refine E_s (p' := 2) (L' := [some (aA 124), some (aI ((60 * i + c : Nat) : Int)), some (aI (h)), some (aI 0)]) rfl rfl ?_
  exact yl_find hi hM hV hcc q1 q0 (Ck R c + 1) 0 (by omega) (by omega) (fun j hj => absurd hj (by omega))
end
theorem ins_sh {m0 m : Mm} {b f K j w : Nat} {P g : Nat → Nat} (hj : j ≤ K) (hP : ∀ e, e < K → m0 b (f + e) = (g (P e) : Int)) (h1 : ∀ e, e < j → m b (f + e) = m0 b (f + e)) (h2 : ∀ e, j ≤ e → e < K → m b (f + e + 1) = m0 b (f + e)) (h3 : m b (f + j) = (g w : Int)) : ∀ e, e < K + 1 → m b (f + e) = (g (insP P j w e) : Int) := by
  intro e he
  unfold insP
  rcases Nat.lt_trichotomy e j with q | q | q
  · rw [if_pos q]; exact (h1 e q).trans (hP e (by omega))
  · subst q; rw [if_neg (by omega), if_pos rfl]; exact h3
  · rw [if_neg (by omega), if_neg (by omega)]
    have := h2 (e - 1) (by omega) (by omega)
    rw [show f + (e - 1) + 1 = f + e by omega] at this
    exact this.trans (hP (e - 1) (by omega))
section
variable {len : Nat} {m0 : Mm} {Q : Option AV → Sx → Prop} {R : RD} {i c hn sn tn : Nat}
theorem yl_put (hi : i < 4) (hM : MR R i m0) (hV : VR R) (hcc : c < Cn R) (hk9 : Ck R c < 30) (hs4 : sn < 4) (ht16 : tn < 16) (hno : ∀ k, k < Ck R c → ht (Cp R c k) ≠ hn) (q : ∀ m1, MR (Rkn R c (Ck R c + 1) (insP (Cp R c) (posn (Cp R c) hn (Ck R c)) (pck hn sn tn))) i m1 → Mx i m0 m1 → Fx 132 135 m0 m1 → Q none (m1, tl len)) : ∀ (d : Nat) (j : Nat) (m : Mm), (j < d) → (j ≤ Ck R c) → (∀ b e, 133 ≤ b ∧ b ≤ 135 → e < j → m b (1800 * i + 30 * c + e) = m0 b (1800 * i + 30 * c + e)) → (∀ b e, 133 ≤ b ∧ b ≤ 135 → j ≤ e → e < Ck R c → m b (1800 * i + 30 * c + e + 1) = m0 b (1800 * i + 30 * c + e)) → (∀ b z, ¬ (133 ≤ b ∧ b ≤ 135 ∧ 1800 * i + 30 * c ≤ z ∧ z ≤ 1800 * i + 30 * c + Ck R c) → m b z = m0 b z) → (∀ e, j ≤ e → e < Ck R c → hn < ht (Cp R c e)) → E 138 13 [some (aA 124), some (aI ((60 * i + c : Nat) : Int)), some (aI ((hn : Nat) : Int)), some (aI ((sn : Nat) : Int)), some (aI ((tn : Nat) : Int)), some (aI ((1800 * i + 30 * c + j : Nat) : Int))] [] (m, tl len) Q := by
  intro d
  induction d with
  | zero => intro j m hd hj I1 I2 I3 I4; omega
  | succ d ih =>
    intro j m hd hj I1 I2 I3 I4
    have hn60 := hV.1
    refine E_s (p' := 15) (st' := aI ((1800 * i + 30 * c + j : Nat) : Int) :: _) rfl rfl ?_
    refine E_s (p' := 17) (st' := aI 30 :: _) rfl rfl ?_
    refine E_s (p' := 18) (st' := aI ((60 * i + c : Nat) : Int) :: _) rfl rfl ?_
    refine E_mul (v := ((1800 * i + 30 * c : Nat) : Int)) rfl (by omega) (by omega) ?_
    refine E_icmp_le (x := ((1800 * i + 30 * c + j : Nat) : Int)) (y := ((1800 * i + 30 * c : Nat) : Int)) rfl (by decide) (fun h_1 => ?_) (fun h_1 => ?_)
    · refine E_go (p' := 89) (L' := [some (aA 124), some (aI ((60 * i + c : Nat) : Int)), some (aI ((hn : Nat) : Int)), some (aI ((sn : Nat) : Int)), some (aI ((tn : Nat) : Int)), some (aI ((1800 * i + 30 * c + j : Nat) : Int))]) (st' := []) rfl rfl rfl ?_
      refine E_s (p' := 90) (st' := aA 124 :: _) rfl rfl ?_
      refine E_gA (b := 133) rfl rfl rfl rfl rfl rfl ?_
      refine E_s (p' := 95) (st' := aI ((1800 * i + 30 * c + j : Nat) : Int) :: _) rfl rfl ?_
      refine E_s (p' := 96) (st' := aI ((hn : Nat) : Int) :: _) rfl rfl ?_
      refine E_ast (e := 1800 * i + 30 * c + j) (N := 7200) rfl rfl (rfl) (by omega) ?_
      refine E_s (p' := 98) (st' := aA 124 :: _) rfl rfl ?_
      refine E_gA (b := 134) rfl rfl rfl rfl rfl rfl ?_
      refine E_s (p' := 103) (st' := aI ((1800 * i + 30 * c + j : Nat) : Int) :: _) rfl rfl ?_
      refine E_s (p' := 104) (st' := aI ((sn : Nat) : Int) :: _) rfl rfl ?_
      refine E_ast (e := 1800 * i + 30 * c + j) (N := 7200) rfl rfl (rfl) (by omega) ?_
      refine E_s (p' := 106) (st' := aA 124 :: _) rfl rfl ?_
      refine E_gA (b := 135) rfl rfl rfl rfl rfl rfl ?_
      refine E_s (p' := 111) (st' := aI ((1800 * i + 30 * c + j : Nat) : Int) :: _) rfl rfl ?_
      refine E_s (p' := 113) (st' := aI ((tn : Nat) : Int) :: _) rfl rfl ?_
      refine E_ast (e := 1800 * i + 30 * c + j) (N := 7200) rfl rfl (rfl) (by omega) ?_
      refine E_s (p' := 115) (st' := aA 124 :: _) rfl rfl ?_
      refine E_gA (b := 132) rfl rfl rfl rfl rfl rfl ?_
      refine E_s (p' := 119) (st' := aI ((60 * i + c : Nat) : Int) :: _) rfl rfl ?_
      refine E_s (p' := 120) rfl rfl ?_
      refine E_ald (e := 60 * i + c) (N := 240) (v := ((Ck R c : Nat) : Int)) rfl rfl (rfl) (by omega) ((up2_ne (by omega)).trans ((up2_ne (by omega)).trans ((up2_ne (by omega)).trans (((I3 _ _ (by omega)).trans (MR_132 hM hcc rfl)))))) ?_
      refine E_s (p' := 122) (st' := aI 1 :: _) rfl rfl ?_
      refine E_add (v := ((Ck R c + 1 : Nat) : Int)) rfl (by omega) (by omega) ?_
      refine E_ast (e := 60 * i + c) (N := 240) rfl rfl (rfl) (by omega) ?_
      refine E_ret rfl rfl ?_
      have hsrt : ∀ e, e < j → ht (Cp R c e) < hn := fun e he => by
        have g1 : ht (Cp R c (j - 1)) < hn := by have := hno (j - 1) (by omega); (try simp only [Nat.add_sub_cancel] at *); omega
        rcases Nat.lt_or_ge e (j - 1) with g | g
        · have := hV.mono hcc g (by omega); omega
        · rw [show e = j - 1 by omega]; exact g1
      have ep := posn_u (P := Cp R c) (h := hn) (n := Ck R c) (k := j) (by omega) hsrt (fun g => by have := I4 _ (Nat.le_refl _) g; omega)
      rw [← ep] at q
      refine q _ (MR.kn hM hV (by omega) ?_ (fun e he => ⟨?_, ?_, ?_⟩) (fun b z g1 g2 g3 g4 => ?_)) (fun b z hb => ?_) (fun b z hb => ?_)
      · exact up2_eq
      · refine (up2_ne (by omega)).trans ?_
        exact ins_sh (f := 1800 * i + 30 * c) (j := j) (g := ht) (w := pck hn sn tn) (by omega) (fun e he => MR_133 hM hcc he rfl) (fun e he => ((up2_ne (by omega)).trans ((up2_ne (by omega)).trans (up2_sl (by omega)))).trans (I1 _ e (by omega) (by omega))) (fun e he he2 => ((up2_ne (by omega)).trans ((up2_ne (by omega)).trans (up2_sl (by omega)))).trans (I2 _ e (by omega) (by omega) he2)) ((up2_ne (by omega)).trans ((up2_ne (by omega)).trans (up2_eq.trans (by rw [pck_ht hs4 ht16])))) e he
      · refine (up2_ne (by omega)).trans ?_
        exact ins_sh (f := 1800 * i + 30 * c) (j := j) (g := so) (w := pck hn sn tn) (by omega) (fun e he => MR_134 hM hcc he rfl) (fun e he => ((up2_ne (by omega)).trans ((up2_sl (by omega)).trans (up2_ne (by omega)))).trans (I1 _ e (by omega) (by omega))) (fun e he he2 => ((up2_ne (by omega)).trans ((up2_sl (by omega)).trans (up2_ne (by omega)))).trans (I2 _ e (by omega) (by omega) he2)) ((up2_ne (by omega)).trans (up2_eq.trans (by rw [pck_so hs4 ht16]))) e he
      · refine (up2_ne (by omega)).trans ?_
        exact ins_sh (f := 1800 * i + 30 * c) (j := j) (g := tu) (w := pck hn sn tn) (by omega) (fun e he => MR_135 hM hcc he rfl) (fun e he => ((up2_sl (by omega)).trans ((up2_ne (by omega)).trans (up2_ne (by omega)))).trans (I1 _ e (by omega) (by omega))) (fun e he he2 => ((up2_sl (by omega)).trans ((up2_ne (by omega)).trans (up2_ne (by omega)))).trans (I2 _ e (by omega) (by omega) he2)) (up2_eq.trans (by rw [pck_tu ht16])) e he
      · exact ((up2_o (by omega)).trans ((up2_o (by omega)).trans ((up2_o (by omega)).trans (up2_o (by omega))))).trans (I3 b z (by omega))
      · have hb2 : ¬ (132 ≤ b ∧ b ≤ 135 ∧ (b = 132 → 60 * i ≤ z ∧ z < 60 * i + 60) ∧ (b ≠ 132 → 1800 * i ≤ z ∧ z < 1800 * i + 1800)) := fun g => hb (by unfold blk; omega)
        exact ((up2_o (by omega)).trans ((up2_o (by omega)).trans ((up2_o (by omega)).trans (up2_o (by omega))))).trans (I3 b z (by omega))
      · exact ((up2_ne (by omega)).trans ((up2_ne (by omega)).trans ((up2_ne (by omega)).trans (up2_ne (by omega))))).trans (I3 b z (by omega))
    · refine E_go (p' := 22) (L' := [some (aA 124), some (aI ((60 * i + c : Nat) : Int)), some (aI ((hn : Nat) : Int)), some (aI ((sn : Nat) : Int)), some (aI ((tn : Nat) : Int)), some (aI ((1800 * i + 30 * c + j : Nat) : Int))]) (st' := []) rfl rfl rfl ?_
      obtain ⟨jp, ej⟩ : ∃ x, j = x + 1 := ⟨j - 1, by omega⟩
      subst ej
      refine E_s (p' := 23) (st' := aA 124 :: _) rfl rfl ?_
      refine E_gA (b := 133) rfl rfl rfl rfl rfl rfl ?_
      refine E_s (p' := 28) (st' := aI ((1800 * i + 30 * c + jp + 1 : Nat) : Int) :: _) rfl rfl ?_
      refine E_s (p' := 29) (st' := aI 1 :: _) rfl rfl ?_
      refine E_sub (v := ((1800 * i + 30 * c + jp : Nat) : Int)) rfl (by omega) (by omega) ?_
      refine E_ald (e := 1800 * i + 30 * c + jp) (N := 7200) (v := ((ht (Cp R c jp) : Nat) : Int)) rfl rfl (rfl) (by omega) ((I1 _ jp (by omega) (by omega)).trans (MR_133 hM hcc (by omega) rfl)) ?_
      refine E_s (p' := 32) (st' := aI ((hn : Nat) : Int) :: _) rfl rfl ?_
      refine E_icmp_le (x := ((ht (Cp R c jp) : Nat) : Int)) (y := ((hn : Nat) : Int)) rfl (by decide) (fun h_2 => ?_) (fun h_2 => ?_)
      · refine E_go (p' := 89) (L' := [some (aA 124), some (aI ((60 * i + c : Nat) : Int)), some (aI ((hn : Nat) : Int)), some (aI ((sn : Nat) : Int)), some (aI ((tn : Nat) : Int)), some (aI ((1800 * i + 30 * c + jp + 1 : Nat) : Int))]) (st' := []) rfl rfl rfl ?_
        refine E_s (p' := 90) (st' := aA 124 :: _) rfl rfl ?_
        refine E_gA (b := 133) rfl rfl rfl rfl rfl rfl ?_
        refine E_s (p' := 95) (st' := aI ((1800 * i + 30 * c + jp + 1 : Nat) : Int) :: _) rfl rfl ?_
        refine E_s (p' := 96) (st' := aI ((hn : Nat) : Int) :: _) rfl rfl ?_
        refine E_ast (e := 1800 * i + 30 * c + jp + 1) (N := 7200) rfl rfl (rfl) (by omega) ?_
        refine E_s (p' := 98) (st' := aA 124 :: _) rfl rfl ?_
        refine E_gA (b := 134) rfl rfl rfl rfl rfl rfl ?_
        refine E_s (p' := 103) (st' := aI ((1800 * i + 30 * c + jp + 1 : Nat) : Int) :: _) rfl rfl ?_
        refine E_s (p' := 104) (st' := aI ((sn : Nat) : Int) :: _) rfl rfl ?_
        refine E_ast (e := 1800 * i + 30 * c + jp + 1) (N := 7200) rfl rfl (rfl) (by omega) ?_
        refine E_s (p' := 106) (st' := aA 124 :: _) rfl rfl ?_
        refine E_gA (b := 135) rfl rfl rfl rfl rfl rfl ?_
        refine E_s (p' := 111) (st' := aI ((1800 * i + 30 * c + jp + 1 : Nat) : Int) :: _) rfl rfl ?_
        refine E_s (p' := 113) (st' := aI ((tn : Nat) : Int) :: _) rfl rfl ?_
        refine E_ast (e := 1800 * i + 30 * c + jp + 1) (N := 7200) rfl rfl (rfl) (by omega) ?_
        refine E_s (p' := 115) (st' := aA 124 :: _) rfl rfl ?_
        refine E_gA (b := 132) rfl rfl rfl rfl rfl rfl ?_
        refine E_s (p' := 119) (st' := aI ((60 * i + c : Nat) : Int) :: _) rfl rfl ?_
        refine E_s (p' := 120) rfl rfl ?_
        refine E_ald (e := 60 * i + c) (N := 240) (v := ((Ck R c : Nat) : Int)) rfl rfl (rfl) (by omega) ((up2_ne (by omega)).trans ((up2_ne (by omega)).trans ((up2_ne (by omega)).trans (((I3 _ _ (by omega)).trans (MR_132 hM hcc rfl)))))) ?_
        refine E_s (p' := 122) (st' := aI 1 :: _) rfl rfl ?_
        refine E_add (v := ((Ck R c + 1 : Nat) : Int)) rfl (by omega) (by omega) ?_
        refine E_ast (e := 60 * i + c) (N := 240) rfl rfl (rfl) (by omega) ?_
        refine E_ret rfl rfl ?_
        have hsrt : ∀ e, e < jp + 1 → ht (Cp R c e) < hn := fun e he => by
          have g1 : ht (Cp R c (jp + 1 - 1)) < hn := by have := hno (jp + 1 - 1) (by omega); (try simp only [Nat.add_sub_cancel] at *); omega
          rcases Nat.lt_or_ge e (jp + 1 - 1) with g | g
          · have := hV.mono hcc g (by omega); omega
          · rw [show e = jp + 1 - 1 by omega]; exact g1
        have ep := posn_u (P := Cp R c) (h := hn) (n := Ck R c) (k := jp + 1) (by omega) hsrt (fun g => by have := I4 _ (Nat.le_refl _) g; omega)
        rw [← ep] at q
        refine q _ (MR.kn hM hV (by omega) ?_ (fun e he => ⟨?_, ?_, ?_⟩) (fun b z g1 g2 g3 g4 => ?_)) (fun b z hb => ?_) (fun b z hb => ?_)
        · exact up2_eq
        · refine (up2_ne (by omega)).trans ?_
          exact ins_sh (f := 1800 * i + 30 * c) (j := jp + 1) (g := ht) (w := pck hn sn tn) (by omega) (fun e he => MR_133 hM hcc he rfl) (fun e he => ((up2_ne (by omega)).trans ((up2_ne (by omega)).trans (up2_sl (by omega)))).trans (I1 _ e (by omega) (by omega))) (fun e he he2 => ((up2_ne (by omega)).trans ((up2_ne (by omega)).trans (up2_sl (by omega)))).trans (I2 _ e (by omega) (by omega) he2)) ((up2_ne (by omega)).trans ((up2_ne (by omega)).trans (up2_eq.trans (by rw [pck_ht hs4 ht16])))) e he
        · refine (up2_ne (by omega)).trans ?_
          exact ins_sh (f := 1800 * i + 30 * c) (j := jp + 1) (g := so) (w := pck hn sn tn) (by omega) (fun e he => MR_134 hM hcc he rfl) (fun e he => ((up2_ne (by omega)).trans ((up2_sl (by omega)).trans (up2_ne (by omega)))).trans (I1 _ e (by omega) (by omega))) (fun e he he2 => ((up2_ne (by omega)).trans ((up2_sl (by omega)).trans (up2_ne (by omega)))).trans (I2 _ e (by omega) (by omega) he2)) ((up2_ne (by omega)).trans (up2_eq.trans (by rw [pck_so hs4 ht16]))) e he
        · refine (up2_ne (by omega)).trans ?_
          exact ins_sh (f := 1800 * i + 30 * c) (j := jp + 1) (g := tu) (w := pck hn sn tn) (by omega) (fun e he => MR_135 hM hcc he rfl) (fun e he => ((up2_sl (by omega)).trans ((up2_ne (by omega)).trans (up2_ne (by omega)))).trans (I1 _ e (by omega) (by omega))) (fun e he he2 => ((up2_sl (by omega)).trans ((up2_ne (by omega)).trans (up2_ne (by omega)))).trans (I2 _ e (by omega) (by omega) he2)) (up2_eq.trans (by rw [pck_tu ht16])) e he
        · exact ((up2_o (by omega)).trans ((up2_o (by omega)).trans ((up2_o (by omega)).trans (up2_o (by omega))))).trans (I3 b z (by omega))
        · have hb2 : ¬ (132 ≤ b ∧ b ≤ 135 ∧ (b = 132 → 60 * i ≤ z ∧ z < 60 * i + 60) ∧ (b ≠ 132 → 1800 * i ≤ z ∧ z < 1800 * i + 1800)) := fun g => hb (by unfold blk; omega)
          exact ((up2_o (by omega)).trans ((up2_o (by omega)).trans ((up2_o (by omega)).trans (up2_o (by omega))))).trans (I3 b z (by omega))
        · exact ((up2_ne (by omega)).trans ((up2_ne (by omega)).trans ((up2_ne (by omega)).trans (up2_ne (by omega))))).trans (I3 b z (by omega))
      · refine E_go (p' := 35) (L' := [some (aA 124), some (aI ((60 * i + c : Nat) : Int)), some (aI ((hn : Nat) : Int)), some (aI ((sn : Nat) : Int)), some (aI ((tn : Nat) : Int)), some (aI ((1800 * i + 30 * c + jp + 1 : Nat) : Int))]) (st' := []) rfl rfl rfl ?_
        refine E_s (p' := 36) (st' := aA 124 :: _) rfl rfl ?_
        refine E_gA (b := 133) rfl rfl rfl rfl rfl rfl ?_
        refine E_s (p' := 41) (st' := aI ((1800 * i + 30 * c + jp + 1 : Nat) : Int) :: _) rfl rfl ?_
        refine E_s (p' := 42) (st' := aA 124 :: _) rfl rfl ?_
        refine E_gA (b := 133) rfl rfl rfl rfl rfl rfl ?_
        refine E_s (p' := 47) (st' := aI ((1800 * i + 30 * c + jp + 1 : Nat) : Int) :: _) rfl rfl ?_
        refine E_s (p' := 48) (st' := aI 1 :: _) rfl rfl ?_
        refine E_sub (v := ((1800 * i + 30 * c + jp : Nat) : Int)) rfl (by omega) (by omega) ?_
        refine E_ald (e := 1800 * i + 30 * c + jp) (N := 7200) (v := ((ht (Cp R c jp) : Nat) : Int)) rfl rfl (rfl) (by omega) ((I1 _ jp (by omega) (by omega)).trans (MR_133 hM hcc (by omega) rfl)) ?_
        refine E_ast (e := 1800 * i + 30 * c + jp + 1) (N := 7200) rfl rfl (rfl) (by omega) ?_
        refine E_s (p' := 52) (st' := aA 124 :: _) rfl rfl ?_
        refine E_gA (b := 134) rfl rfl rfl rfl rfl rfl ?_
        refine E_s (p' := 57) (st' := aI ((1800 * i + 30 * c + jp + 1 : Nat) : Int) :: _) rfl rfl ?_
        refine E_s (p' := 58) (st' := aA 124 :: _) rfl rfl ?_
        refine E_gA (b := 134) rfl rfl rfl rfl rfl rfl ?_
        refine E_s (p' := 63) (st' := aI ((1800 * i + 30 * c + jp + 1 : Nat) : Int) :: _) rfl rfl ?_
        refine E_s (p' := 64) (st' := aI 1 :: _) rfl rfl ?_
        refine E_sub (v := ((1800 * i + 30 * c + jp : Nat) : Int)) rfl (by omega) (by omega) ?_
        refine E_ald (e := 1800 * i + 30 * c + jp) (N := 7200) (v := ((so (Cp R c jp) : Nat) : Int)) rfl rfl (rfl) (by omega) ((up2_ne (by omega)).trans (((I1 _ jp (by omega) (by omega)).trans (MR_134 hM hcc (by omega) rfl)))) ?_
        refine E_ast (e := 1800 * i + 30 * c + jp + 1) (N := 7200) rfl rfl (rfl) (by omega) ?_
        refine E_s (p' := 68) (st' := aA 124 :: _) rfl rfl ?_
        refine E_gA (b := 135) rfl rfl rfl rfl rfl rfl ?_
        refine E_s (p' := 73) (st' := aI ((1800 * i + 30 * c + jp + 1 : Nat) : Int) :: _) rfl rfl ?_
        refine E_s (p' := 74) (st' := aA 124 :: _) rfl rfl ?_
        refine E_gA (b := 135) rfl rfl rfl rfl rfl rfl ?_
        refine E_s (p' := 79) (st' := aI ((1800 * i + 30 * c + jp + 1 : Nat) : Int) :: _) rfl rfl ?_
        refine E_s (p' := 80) (st' := aI 1 :: _) rfl rfl ?_
        refine E_sub (v := ((1800 * i + 30 * c + jp : Nat) : Int)) rfl (by omega) (by omega) ?_
        refine E_ald (e := 1800 * i + 30 * c + jp) (N := 7200) (v := ((tu (Cp R c jp) : Nat) : Int)) rfl rfl (rfl) (by omega) ((up2_ne (by omega)).trans ((up2_ne (by omega)).trans (((I1 _ jp (by omega) (by omega)).trans (MR_135 hM hcc (by omega) rfl))))) ?_
        refine E_ast (e := 1800 * i + 30 * c + jp + 1) (N := 7200) rfl rfl (rfl) (by omega) ?_
        refine E_inc (x := ((1800 * i + 30 * c + jp + 1 : Nat) : Int)) (w := ((1800 * i + 30 * c + jp : Nat) : Int)) (L' := [some (aA 124), some (aI ((60 * i + c : Nat) : Int)), some (aI ((hn : Nat) : Int)), some (aI ((sn : Nat) : Int)), some (aI ((tn : Nat) : Int)), some (aI ((1800 * i + 30 * c + jp : Nat) : Int))]) rfl rfl rfl (by omega) (by omega) rfl ?_
        refine E_s (p' := 13) rfl rfl ?_
        refine ih jp _ (by omega) (by omega) (fun b e g1 g2 => ?_) (fun b e g1 g2 g3 => ?_) (fun b z g1 => ?_) (fun e g1 g2 => ?_)
        · exact ((up2_sl (by omega)).trans ((up2_sl (by omega)).trans (up2_sl (by omega)))).trans (I1 b e g1 (by omega))
        · by_cases g : e = jp
          · subst g
            rcases (show b = 133 ∨ b = 134 ∨ b = 135 by omega) with g4 | g4 | g4
            · subst g4; exact ((up2_ne (by omega)).trans ((up2_ne (by omega)).trans up2_eq)).trans (MR_133 hM hcc g3 rfl).symm
            · subst g4; exact ((up2_ne (by omega)).trans up2_eq).trans (MR_134 hM hcc g3 rfl).symm
            · subst g4; exact up2_eq.trans (MR_135 hM hcc g3 rfl).symm
          · exact ((up2_sl (by omega)).trans ((up2_sl (by omega)).trans (up2_sl (by omega)))).trans (I2 b e g1 (by omega) g3)
        · exact ((up2_o (by omega)).trans ((up2_o (by omega)).trans (up2_o (by omega)))).trans (I3 b z g1)
        · by_cases g : e = jp
          · subst g; omega
          · exact I4 e (by omega) g2
theorem m_put (hi : i < 4) (hM : MR R i m0) (hV : VR R) (hcc : c < Cn R) (hk9 : Ck R c < 30) (hs4 : sn < 4) (ht16 : tn < 16) (hno : ∀ k, k < Ck R c → ht (Cp R c k) ≠ hn) (q : ∀ m1, MR (Rkn R c (Ck R c + 1) (insP (Cp R c) (posn (Cp R c) hn (Ck R c)) (pck hn sn tn))) i m1 → Mx i m0 m1 → Fx 132 135 m0 m1 → Q none (m1, tl len)) : E 138 0 [some (aA 124), some (aI ((60 * i + c : Nat) : Int)), some (aI ((hn : Nat) : Int)), some (aI ((sn : Nat) : Int)), some (aI ((tn : Nat) : Int)), none] [] (m0, tl len) Q := by
  have hn60 := hV.1
  refine E_s (p' := 2) (st' := aI 30 :: _) rfl rfl ?_
  refine E_s (p' := 3) (st' := aI ((60 * i + c : Nat) : Int) :: _) rfl rfl ?_
  refine E_mul (v := ((1800 * i + 30 * c : Nat) : Int)) rfl (by omega) (by omega) ?_
  refine E_s (p' := 5) (st' := aA 124 :: _) rfl rfl ?_
  refine E_gA (b := 132) rfl rfl rfl rfl rfl rfl ?_
  refine E_s (p' := 9) (st' := aI ((60 * i + c : Nat) : Int) :: _) rfl rfl ?_
  refine E_ald (e := 60 * i + c) (N := 240) (v := ((Ck R c : Nat) : Int)) rfl rfl (rfl) (by omega) (MR_132 hM (by omega) (by omega)) ?_
  refine E_add (v := ((1800 * i + 30 * c + Ck R c : Nat) : Int)) rfl (by omega) (by omega) ?_
  refine E_s (p' := 13) (L' := [some (aA 124), some (aI ((60 * i + c : Nat) : Int)), some (aI ((hn : Nat) : Int)), some (aI ((sn : Nat) : Int)), some (aI ((tn : Nat) : Int)), some (aI ((1800 * i + 30 * c + Ck R c : Nat) : Int))]) rfl rfl ?_
  exact yl_put hi hM hV hcc hk9 hs4 ht16 hno q (Ck R c + 1) (Ck R c) m0 (by omega) (by omega) (fun b e _ _ => rfl) (fun b e _ g1 g2 => absurd g1 (by omega)) (fun b z _ => rfl) (fun e g1 g2 => absurd g1 (by omega))
end

theorem Ctz_c (R : RD) (c : Nat) : (Ct R c = 0 ∧ Ctz R c = -1) ∨ (0 < Ct R c ∧ Ctz R c = (Ct R c : Int)) := by
  unfold Ctz
  by_cases h : Ct R c = 0
  · exact Or.inl ⟨h, if_pos h⟩
  · exact Or.inr ⟨by omega, if_neg h⟩
theorem MR.Fx {R : RD} {i lo hi : Nat} {m m' : Mm} (h : MR R i m) (hF : Fx lo hi m m') (hb : 139 < lo ∨ hi < 125) : MR R i m' := h.of (fun b j g1 g2 => hF b j (by omega))
section
variable {len : Nat} {m : Mm} {Q : Option AV → Sx → Prop} {S : Nat → RD} {r c l g o h s t : Int}
theorem M_knot (hS : MS S m) (q : ∀ m1, MS (on1 S r (-2) (oKnot c h s t)).2 m1 → Co1 m m1 → Q (some (aI (on1 S r (-2) (oKnot c h s t)).1)) (m1, tl len)) : E 136 0 [some (aA 124), some (aI (r)), some (aI (c)), some (aI (h)), some (aI (s)), some (aI (t)), none] [] (m, tl len) Q := by
  refine E_s (p' := 1) (st' := aA 124 :: _) rfl rfl ?_
  refine E_s (p' := 2) (st' := aI (r) :: _) rfl rfl ?_
  refine E_s (p' := 3) (st' := aI (c) :: _) rfl rfl ?_
  refine E_callV (k' := 135) (a := 124) (r := []) (L0 := [some (aA 124), some (aI (r)), some (aI (c))]) rfl rfl rfl rfl rfl rfl rfl rfl rfl rfl ?_
  refine m_isCord hS (fun i ci hi hr hc hcc => ?_) (fun hno => ?_)
  · refine E_go (p' := 6) (L' := [some (aA 124), some (aI (r)), some (aI (c)), some (aI (h)), some (aI (s)), some (aI (t)), none]) (st' := [aI 1]) rfl rfl rfl ?_
    obtain ⟨hV, hM⟩ := hS i hi
    have hn60 := hV.1
    have hs40 := hV.2.2.2.2.1
    subst hr hc
    refine E_s (p' := 9) rfl rfl ?_
    refine E_s (p' := 11) (st' := aI (s) :: _) rfl rfl ?_
    refine E_s (p' := 12) (st' := aI 0 :: _) rfl rfl ?_
    refine E_s (p' := 13) (st' := aI 2 :: _) rfl rfl ?_
    refine E_callL (p' := 16) (L0 := [some (aI (s)), some (aI 0), some (aI 2)]) rfl rfl rfl ?_
    refine m_in (fun h_1 h_2 => ?_) (fun h_3 => ?_)
    · refine E_go (p' := 16) (L' := [some (aA 124), some (aI ((i : Nat) : Int)), some (aI ((ci : Nat) : Int)), some (aI (h)), some (aI (s)), some (aI (t)), none]) (st' := [aI 1]) rfl rfl rfl ?_
      refine E_s (p' := 19) rfl rfl ?_
      refine E_s (p' := 21) (st' := aI (s) :: _) rfl rfl ?_
      refine E_s (p' := 22) (st' := aI 1 :: _) rfl rfl ?_
      refine E_icmp_ne (x := (s)) (y := 1) rfl (by decide) (fun h_4 => ?_) (fun h_4 => ?_)
      · refine E_go (p' := 39) (L' := [some (aA 124), some (aI ((i : Nat) : Int)), some (aI ((ci : Nat) : Int)), some (aI (h)), some (aI (s)), some (aI (t)), none]) (st' := []) rfl rfl rfl ?_
        refine E_s (p' := 41) (st' := aI (t) :: _) rfl rfl ?_
        refine E_if_eq (x := (t)) rfl (by decide) (fun h_5 => ?_) (fun h_5 => ?_)
        · refine E_go (p' := 47) (L' := [some (aA 124), some (aI ((i : Nat) : Int)), some (aI ((ci : Nat) : Int)), some (aI (h)), some (aI (s)), some (aI (t)), none]) (st' := []) rfl rfl rfl ?_
          have hctz := Ctz_c (S i) ci
          obtain ⟨⟨vg1, vg2⟩, ⟨vo1, vo2⟩, vc1, ⟨vl1, vl2⟩, vt1, vk1⟩ := hV.2.2.1 ci hcc
          refine E_s (p' := 49) (st' := aI 60 :: _) rfl rfl ?_
          refine E_s (p' := 50) (st' := aI ((i : Nat) : Int) :: _) rfl rfl ?_
          refine E_mul (v := ((60 * i : Nat) : Int)) rfl (by omega) (by omega) ?_
          refine E_s (p' := 52) (st' := aI ((ci : Nat) : Int) :: _) rfl rfl ?_
          refine E_add (v := ((60 * i + ci : Nat) : Int)) rfl (by omega) (by omega) ?_
          refine E_s (p' := 55) (L' := [some (aA 124), some (aI ((i : Nat) : Int)), some (aI ((ci : Nat) : Int)), some (aI (h)), some (aI (s)), some (aI (t)), some (aI ((60 * i + ci : Nat) : Int))]) rfl rfl ?_
          refine E_s (p' := 56) (st' := aI (h) :: _) rfl rfl ?_
          refine E_s (p' := 57) (st' := aI 1 :: _) rfl rfl ?_
          refine E_s (p' := 58) (st' := aA 124 :: _) rfl rfl ?_
          refine E_gA (b := 130) rfl rfl rfl rfl rfl rfl ?_
          refine E_s (p' := 63) (st' := aI ((60 * i + ci : Nat) : Int) :: _) rfl rfl ?_
          refine E_ald (e := 60 * i + ci) (N := 240) (v := ((Cl (S i) ci : Nat) : Int)) rfl rfl (rfl) (by omega) (MR_130 hM (by omega) (by omega)) ?_
          refine E_callL (p' := 67) (L0 := [some (aI (h)), some (aI 1), some (aI ((Cl (S i) ci : Nat) : Int))]) rfl rfl rfl ?_
          refine m_in (fun h_6 h_7 => ?_) (fun h_8 => ?_)
          · refine E_go (p' := 67) (L' := [some (aA 124), some (aI ((i : Nat) : Int)), some (aI ((ci : Nat) : Int)), some (aI (h)), some (aI (s)), some (aI (t)), some (aI ((60 * i + ci : Nat) : Int))]) (st' := [aI 1]) rfl rfl rfl ?_
            refine E_s (p' := 70) rfl rfl ?_
            refine E_s (p' := 71) (st' := aA 124 :: _) rfl rfl ?_
            refine E_s (p' := 73) (st' := aI ((60 * i + ci : Nat) : Int) :: _) rfl rfl ?_
            refine E_s (p' := 74) (st' := aI (h) :: _) rfl rfl ?_
            refine E_callV (k' := 137) (a := 124) (r := []) (L0 := [some (aA 124), some (aI ((60 * i + ci : Nat) : Int)), some (aI (h)), none]) rfl rfl rfl rfl rfl rfl rfl rfl rfl rfl ?_
            refine m_find hi hM hV hcc (fun k1 hk1 hk2 => ?_) (fun hnf => ?_)
            · refine E_go (p' := 77) (L' := [some (aA 124), some (aI ((i : Nat) : Int)), some (aI ((ci : Nat) : Int)), some (aI (h)), some (aI (s)), some (aI (t)), some (aI ((60 * i + ci : Nat) : Int))]) (st' := [aI ((k1 : Nat) : Int)]) rfl rfl rfl ?_
              refine E_s (p' := 78) (st' := aI (-1) :: _) rfl rfl ?_
              refine E_icmp_ne (x := ((k1 : Nat) : Int)) (y := (-1)) rfl (by decide) (fun h_9 => ?_) (fun q => absurd q (by omega))
              refine E_go (p' := 103) (L' := [some (aA 124), some (aI ((i : Nat) : Int)), some (aI ((ci : Nat) : Int)), some (aI (h)), some (aI (s)), some (aI (t)), some (aI ((60 * i + ci : Nat) : Int))]) (st' := []) rfl rfl rfl ?_
              refine E_s (p' := 105) (st' := aI (-2) :: _) rfl rfl ?_
              refine E_ret rfl rfl ?_
              exact finM_same hS hi rfl q (by unfold oKnot; (try simp only [Int.toNat_natCast]); rw [cif_neg (by first | exact fun g9 => absurd g9.2.1 (by unfold kind; omega) | exact fun g9 => absurd g9.2.2.1 (by unfold whl; omega) | exact fun g9 => g9.2.2.2 ⟨k1, hk1, hk2⟩)]) hS (fun _ _ _ => rfl)
            · refine E_go (p' := 77) (L' := [some (aA 124), some (aI ((i : Nat) : Int)), some (aI ((ci : Nat) : Int)), some (aI (h)), some (aI (s)), some (aI (t)), some (aI ((60 * i + ci : Nat) : Int))]) (st' := [aI (-1)]) rfl rfl rfl ?_
              refine E_s (p' := 78) (st' := aI (-1) :: _) rfl rfl ?_
              refine E_s (p' := 81) rfl rfl ?_
              refine E_s (p' := 82) (st' := aA 124 :: _) rfl rfl ?_
              refine E_gA (b := 131) rfl rfl rfl rfl rfl rfl ?_
              refine E_s (p' := 87) (st' := aI ((60 * i + ci : Nat) : Int) :: _) rfl rfl ?_
              refine E_ald (e := 60 * i + ci) (N := 240) (v := (((Ctz (S i) ci)))) rfl rfl (rfl) (by omega) (MR_131 hM (by omega) (by omega)) ?_
              refine E_s (p' := 89) (st' := aI (-1) :: _) rfl rfl ?_
              refine E_icmp_eq (x := (((Ctz (S i) ci)))) (y := (-1)) rfl (by decide) (fun h_10 => ?_) (fun h_10 => ?_)
              · refine E_go (p' := 106) (L' := [some (aA 124), some (aI ((i : Nat) : Int)), some (aI ((ci : Nat) : Int)), some (aI (h)), some (aI (s)), some (aI (t)), some (aI ((60 * i + ci : Nat) : Int))]) (st' := []) rfl rfl rfl ?_
                refine E_s (p' := 107) (st' := aA 124 :: _) rfl rfl ?_
                refine E_gA (b := 132) rfl rfl rfl rfl rfl rfl ?_
                refine E_s (p' := 112) (st' := aI ((60 * i + ci : Nat) : Int) :: _) rfl rfl ?_
                refine E_ald (e := 60 * i + ci) (N := 240) (v := ((Ck (S i) ci : Nat) : Int)) rfl rfl (rfl) (by omega) (MR_132 hM (by omega) (by omega)) ?_
                refine E_s (p' := 115) (st' := aI 30 :: _) rfl rfl ?_
                refine E_icmp_ne (x := ((Ck (S i) ci : Nat) : Int)) (y := 30) rfl (by decide) (fun h_11 => ?_) (fun h_11 => ?_)
                · refine E_go (p' := 121) (L' := [some (aA 124), some (aI ((i : Nat) : Int)), some (aI ((ci : Nat) : Int)), some (aI (h)), some (aI (s)), some (aI (t)), some (aI ((60 * i + ci : Nat) : Int))]) (st' := []) rfl rfl rfl ?_
                  have hw1 : whl (S i) ci h := by unfold whl; omega
                  have hkd : kind s t := by unfold kind; omega
                  obtain ⟨hn, eh⟩ : ∃ x : Nat, h = (x : Int) := ⟨h.toNat, by omega⟩
                  obtain ⟨sn, es⟩ : ∃ x : Nat, s = (x : Int) := ⟨s.toNat, by omega⟩
                  obtain ⟨tn, et⟩ : ∃ x : Nat, t = (x : Int) := ⟨t.toNat, by unfold kind at hkd; omega⟩
                  subst eh es et
                  have hb3 : hn ≤ 600 ∧ sn < 4 ∧ tn < 16 ∧ 1 ≤ hn := by unfold kind at hkd; omega
                  have eht := pck_ht (h := hn) (s := sn) (t := tn) hb3.2.1 hb3.2.2.1
                  refine E_s (p' := 122) (st' := aA 124 :: _) rfl rfl ?_
                  refine E_s (p' := 124) (st' := aI ((60 * i + ci : Nat) : Int) :: _) rfl rfl ?_
                  refine E_s (p' := 125) (st' := aI ((hn : Nat) : Int) :: _) rfl rfl ?_
                  refine E_s (p' := 127) (st' := aI ((sn : Nat) : Int) :: _) rfl rfl ?_
                  refine E_s (p' := 129) (st' := aI ((tn : Nat) : Int) :: _) rfl rfl ?_
                  refine E_callV (k' := 138) (a := 124) (r := []) (L0 := [some (aA 124), some (aI ((60 * i + ci : Nat) : Int)), some (aI ((hn : Nat) : Int)), some (aI ((sn : Nat) : Int)), some (aI ((tn : Nat) : Int)), none]) rfl rfl rfl rfl rfl rfl rfl rfl rfl rfl ?_
                  refine m_put hi hM hV hcc (by omega) hb3.2.1 hb3.2.2.1 (fun k hk e => hnf k hk (by omega)) (fun m1 hM1 hx1 hF1 => ?_)
                  refine E_go (p' := 132) (L' := [some (aA 124), some (aI ((i : Nat) : Int)), some (aI ((ci : Nat) : Int)), some (aI ((hn : Nat) : Int)), some (aI ((sn : Nat) : Int)), some (aI ((tn : Nat) : Int)), some (aI ((60 * i + ci : Nat) : Int))]) (st' := []) rfl rfl rfl ?_
                  refine E_s (p' := 133) (st' := aA 124 :: _) rfl rfl ?_
                  refine E_s (p' := 134) (st' := aI ((i : Nat) : Int) :: _) rfl rfl ?_
                  refine E_callV (k' := 133) (a := 124) (r := []) (L0 := [some (aA 124), some (aI ((i : Nat) : Int))]) rfl rfl rfl rfl rfl rfl rfl rfl rfl rfl ?_
                  refine m_changes (i := i) (by omega) ?_
                  refine E_go (p' := 137) (L' := [some (aA 124), some (aI ((i : Nat) : Int)), some (aI ((ci : Nat) : Int)), some (aI ((hn : Nat) : Int)), some (aI ((sn : Nat) : Int)), some (aI ((tn : Nat) : Int)), some (aI ((60 * i + ci : Nat) : Int))]) (st' := []) rfl rfl rfl ?_
                  refine E_s (p' := 138) (st' := aA 124 :: _) rfl rfl ?_
                  refine E_gA (b := 132) rfl rfl rfl rfl rfl rfl ?_
                  refine E_s (p' := 143) (st' := aI ((60 * i + ci : Nat) : Int) :: _) rfl rfl ?_
                  refine E_ald (e := 60 * i + ci) (N := 240) (v := ((Ck (S i) ci + 1 : Nat) : Int)) rfl rfl (rfl) (by omega) ((up2_ne (by omega)).trans (((MR_132 hM1 hcc rfl).trans (by show ((upf (Ck (S i)) ci (Ck (S i) ci + 1) ci : Nat) : Int) = _; rw [upf_eq])))) ?_
                  refine E_ret rfl rfl ?_
                  have hps := posn_sp (Cp (S i) ci) hn (Ck (S i) ci)
                  exact finMx hS hi rfl q (by unfold oKnot; simp only [Int.toNat_natCast]; rw [cif_pos ⟨(by unfold inC; omega), hkd, hw1, (fun ⟨k, hk, e⟩ => hnf k hk e)⟩, cif_neg (by omega)]) (V_ins hV hcc (by omega) (by unfold kok; rw [pck_so hb3.2.1 hb3.2.2.1, pck_tu hb3.2.2.1]; unfold kind at hkd; omega) (by rw [eht]; unfold whl at hw1; omega) (fun k hk e => hnf k hk (by rw [e, eht])) (posn_le _ _ _) (by rw [eht]; exact hps.1) (by rw [eht]; exact hps.2)) (hM1.of (fun b j g1 g2 => up2_ne (by omega))) (hx1.up (by unfold blk; omega)) (fun b j hb => (up2_ne (by omega)).trans (hF1 _ _ (by omega)))
                · refine E_go (p' := 118) (L' := [some (aA 124), some (aI ((i : Nat) : Int)), some (aI ((ci : Nat) : Int)), some (aI (h)), some (aI (s)), some (aI (t)), some (aI ((60 * i + ci : Nat) : Int))]) (st' := []) rfl rfl rfl ?_
                  refine E_s (p' := 120) (st' := aI (-3) :: _) rfl rfl ?_
                  refine E_ret rfl rfl ?_
                  exact finM_same hS hi rfl q (by unfold oKnot; (try simp only [Int.toNat_natCast]); rw [cif_pos ⟨(by unfold inC; omega), (by unfold kind; omega), (by unfold whl; omega), (fun ⟨k, hk, e⟩ => hnf k hk e)⟩, cif_pos (by omega)]) hS (fun _ _ _ => rfl)
              · refine E_go (p' := 92) (L' := [some (aA 124), some (aI ((i : Nat) : Int)), some (aI ((ci : Nat) : Int)), some (aI (h)), some (aI (s)), some (aI (t)), some (aI ((60 * i + ci : Nat) : Int))]) (st' := []) rfl rfl rfl ?_
                refine E_s (p' := 93) (st' := aI (h) :: _) rfl rfl ?_
                refine E_s (p' := 94) (st' := aA 124 :: _) rfl rfl ?_
                refine E_gA (b := 131) rfl rfl rfl rfl rfl rfl ?_
                refine E_s (p' := 99) (st' := aI ((60 * i + ci : Nat) : Int) :: _) rfl rfl ?_
                refine E_ald (e := 60 * i + ci) (N := 240) (v := (((Ctz (S i) ci)))) rfl rfl (rfl) (by omega) (MR_131 hM (by omega) (by omega)) ?_
                refine E_icmp_lt (x := (h)) (y := (((Ctz (S i) ci)))) rfl (by decide) (fun h_12 => ?_) (fun h_12 => ?_)
                · refine E_go (p' := 106) (L' := [some (aA 124), some (aI ((i : Nat) : Int)), some (aI ((ci : Nat) : Int)), some (aI (h)), some (aI (s)), some (aI (t)), some (aI ((60 * i + ci : Nat) : Int))]) (st' := []) rfl rfl rfl ?_
                  refine E_s (p' := 107) (st' := aA 124 :: _) rfl rfl ?_
                  refine E_gA (b := 132) rfl rfl rfl rfl rfl rfl ?_
                  refine E_s (p' := 112) (st' := aI ((60 * i + ci : Nat) : Int) :: _) rfl rfl ?_
                  refine E_ald (e := 60 * i + ci) (N := 240) (v := ((Ck (S i) ci : Nat) : Int)) rfl rfl (rfl) (by omega) (MR_132 hM (by omega) (by omega)) ?_
                  refine E_s (p' := 115) (st' := aI 30 :: _) rfl rfl ?_
                  refine E_icmp_ne (x := ((Ck (S i) ci : Nat) : Int)) (y := 30) rfl (by decide) (fun h_13 => ?_) (fun h_13 => ?_)
                  · refine E_go (p' := 121) (L' := [some (aA 124), some (aI ((i : Nat) : Int)), some (aI ((ci : Nat) : Int)), some (aI (h)), some (aI (s)), some (aI (t)), some (aI ((60 * i + ci : Nat) : Int))]) (st' := []) rfl rfl rfl ?_
                    have hw1 : whl (S i) ci h := by unfold whl; omega
                    have hkd : kind s t := by unfold kind; omega
                    obtain ⟨hn, eh⟩ : ∃ x : Nat, h = (x : Int) := ⟨h.toNat, by omega⟩
                    obtain ⟨sn, es⟩ : ∃ x : Nat, s = (x : Int) := ⟨s.toNat, by omega⟩
                    obtain ⟨tn, et⟩ : ∃ x : Nat, t = (x : Int) := ⟨t.toNat, by unfold kind at hkd; omega⟩
                    subst eh es et
                    have hb3 : hn ≤ 600 ∧ sn < 4 ∧ tn < 16 ∧ 1 ≤ hn := by unfold kind at hkd; omega
                    have eht := pck_ht (h := hn) (s := sn) (t := tn) hb3.2.1 hb3.2.2.1
                    refine E_s (p' := 122) (st' := aA 124 :: _) rfl rfl ?_
                    refine E_s (p' := 124) (st' := aI ((60 * i + ci : Nat) : Int) :: _) rfl rfl ?_
                    refine E_s (p' := 125) (st' := aI ((hn : Nat) : Int) :: _) rfl rfl ?_
                    refine E_s (p' := 127) (st' := aI ((sn : Nat) : Int) :: _) rfl rfl ?_
                    refine E_s (p' := 129) (st' := aI ((tn : Nat) : Int) :: _) rfl rfl ?_
                    refine E_callV (k' := 138) (a := 124) (r := []) (L0 := [some (aA 124), some (aI ((60 * i + ci : Nat) : Int)), some (aI ((hn : Nat) : Int)), some (aI ((sn : Nat) : Int)), some (aI ((tn : Nat) : Int)), none]) rfl rfl rfl rfl rfl rfl rfl rfl rfl rfl ?_
                    refine m_put hi hM hV hcc (by omega) hb3.2.1 hb3.2.2.1 (fun k hk e => hnf k hk (by omega)) (fun m1 hM1 hx1 hF1 => ?_)
                    refine E_go (p' := 132) (L' := [some (aA 124), some (aI ((i : Nat) : Int)), some (aI ((ci : Nat) : Int)), some (aI ((hn : Nat) : Int)), some (aI ((sn : Nat) : Int)), some (aI ((tn : Nat) : Int)), some (aI ((60 * i + ci : Nat) : Int))]) (st' := []) rfl rfl rfl ?_
                    refine E_s (p' := 133) (st' := aA 124 :: _) rfl rfl ?_
                    refine E_s (p' := 134) (st' := aI ((i : Nat) : Int) :: _) rfl rfl ?_
                    refine E_callV (k' := 133) (a := 124) (r := []) (L0 := [some (aA 124), some (aI ((i : Nat) : Int))]) rfl rfl rfl rfl rfl rfl rfl rfl rfl rfl ?_
                    refine m_changes (i := i) (by omega) ?_
                    refine E_go (p' := 137) (L' := [some (aA 124), some (aI ((i : Nat) : Int)), some (aI ((ci : Nat) : Int)), some (aI ((hn : Nat) : Int)), some (aI ((sn : Nat) : Int)), some (aI ((tn : Nat) : Int)), some (aI ((60 * i + ci : Nat) : Int))]) (st' := []) rfl rfl rfl ?_
                    refine E_s (p' := 138) (st' := aA 124 :: _) rfl rfl ?_
                    refine E_gA (b := 132) rfl rfl rfl rfl rfl rfl ?_
                    refine E_s (p' := 143) (st' := aI ((60 * i + ci : Nat) : Int) :: _) rfl rfl ?_
                    refine E_ald (e := 60 * i + ci) (N := 240) (v := ((Ck (S i) ci + 1 : Nat) : Int)) rfl rfl (rfl) (by omega) ((up2_ne (by omega)).trans (((MR_132 hM1 hcc rfl).trans (by show ((upf (Ck (S i)) ci (Ck (S i) ci + 1) ci : Nat) : Int) = _; rw [upf_eq])))) ?_
                    refine E_ret rfl rfl ?_
                    have hps := posn_sp (Cp (S i) ci) hn (Ck (S i) ci)
                    exact finMx hS hi rfl q (by unfold oKnot; simp only [Int.toNat_natCast]; rw [cif_pos ⟨(by unfold inC; omega), hkd, hw1, (fun ⟨k, hk, e⟩ => hnf k hk e)⟩, cif_neg (by omega)]) (V_ins hV hcc (by omega) (by unfold kok; rw [pck_so hb3.2.1 hb3.2.2.1, pck_tu hb3.2.2.1]; unfold kind at hkd; omega) (by rw [eht]; unfold whl at hw1; omega) (fun k hk e => hnf k hk (by rw [e, eht])) (posn_le _ _ _) (by rw [eht]; exact hps.1) (by rw [eht]; exact hps.2)) (hM1.of (fun b j g1 g2 => up2_ne (by omega))) (hx1.up (by unfold blk; omega)) (fun b j hb => (up2_ne (by omega)).trans (hF1 _ _ (by omega)))
                  · refine E_go (p' := 118) (L' := [some (aA 124), some (aI ((i : Nat) : Int)), some (aI ((ci : Nat) : Int)), some (aI (h)), some (aI (s)), some (aI (t)), some (aI ((60 * i + ci : Nat) : Int))]) (st' := []) rfl rfl rfl ?_
                    refine E_s (p' := 120) (st' := aI (-3) :: _) rfl rfl ?_
                    refine E_ret rfl rfl ?_
                    exact finM_same hS hi rfl q (by unfold oKnot; (try simp only [Int.toNat_natCast]); rw [cif_pos ⟨(by unfold inC; omega), (by unfold kind; omega), (by unfold whl; omega), (fun ⟨k, hk, e⟩ => hnf k hk e)⟩, cif_pos (by omega)]) hS (fun _ _ _ => rfl)
                · refine E_go (p' := 103) (L' := [some (aA 124), some (aI ((i : Nat) : Int)), some (aI ((ci : Nat) : Int)), some (aI (h)), some (aI (s)), some (aI (t)), some (aI ((60 * i + ci : Nat) : Int))]) (st' := []) rfl rfl rfl ?_
                  refine E_s (p' := 105) (st' := aI (-2) :: _) rfl rfl ?_
                  refine E_ret rfl rfl ?_
                  exact finM_same hS hi rfl q (by unfold oKnot; (try simp only [Int.toNat_natCast]); rw [cif_neg (by first | exact fun g9 => absurd g9.2.1 (by unfold kind; omega) | exact fun g9 => absurd g9.2.2.1 (by unfold whl; omega) | exact fun g9 => g9.2.2.2 ⟨k1, hk1, hk2⟩)]) hS (fun _ _ _ => rfl)
          · refine E_go (p' := 67) (L' := [some (aA 124), some (aI ((i : Nat) : Int)), some (aI ((ci : Nat) : Int)), some (aI (h)), some (aI (s)), some (aI (t)), some (aI ((60 * i + ci : Nat) : Int))]) (st' := [aI 0]) rfl rfl rfl ?_
            refine E_s (p' := 103) rfl rfl ?_
            refine E_s (p' := 105) (st' := aI (-2) :: _) rfl rfl ?_
            refine E_ret rfl rfl ?_
            exact finM_same hS hi rfl q (by unfold oKnot; (try simp only [Int.toNat_natCast]); rw [cif_neg (by first | exact fun g9 => absurd g9.2.1 (by unfold kind; omega) | exact fun g9 => absurd g9.2.2.1 (by unfold whl; omega) | exact fun g9 => g9.2.2.2 ⟨k1, hk1, hk2⟩)]) hS (fun _ _ _ => rfl)
        · refine E_go (p' := 44) (L' := [some (aA 124), some (aI ((i : Nat) : Int)), some (aI ((ci : Nat) : Int)), some (aI (h)), some (aI (s)), some (aI (t)), none]) (st' := []) rfl rfl rfl ?_
          refine E_s (p' := 46) (st' := aI (-2) :: _) rfl rfl ?_
          refine E_ret rfl rfl ?_
          exact finM_same hS hi rfl q (by unfold oKnot; (try simp only [Int.toNat_natCast]); rw [cif_neg (by first | exact fun g9 => absurd g9.2.1 (by unfold kind; omega) | exact fun g9 => absurd g9.2.2.1 (by unfold whl; omega) | exact fun g9 => g9.2.2.2 ⟨k1, hk1, hk2⟩)]) hS (fun _ _ _ => rfl)
      · refine E_go (p' := 25) (L' := [some (aA 124), some (aI ((i : Nat) : Int)), some (aI ((ci : Nat) : Int)), some (aI (h)), some (aI (s)), some (aI (t)), none]) (st' := []) rfl rfl rfl ?_
        refine E_s (p' := 27) (st' := aI (t) :: _) rfl rfl ?_
        refine E_s (p' := 28) (st' := aI 2 :: _) rfl rfl ?_
        refine E_s (p' := 30) (st' := aI 9 :: _) rfl rfl ?_
        refine E_callL (p' := 33) (L0 := [some (aI (t)), some (aI 2), some (aI 9)]) rfl rfl rfl ?_
        refine m_in (fun h_14 h_15 => ?_) (fun h_16 => ?_)
        · refine E_go (p' := 33) (L' := [some (aA 124), some (aI ((i : Nat) : Int)), some (aI ((ci : Nat) : Int)), some (aI (h)), some (aI (s)), some (aI (t)), none]) (st' := [aI 1]) rfl rfl rfl ?_
          refine E_s (p' := 47) rfl rfl ?_
          have hctz := Ctz_c (S i) ci
          obtain ⟨⟨vg1, vg2⟩, ⟨vo1, vo2⟩, vc1, ⟨vl1, vl2⟩, vt1, vk1⟩ := hV.2.2.1 ci hcc
          refine E_s (p' := 49) (st' := aI 60 :: _) rfl rfl ?_
          refine E_s (p' := 50) (st' := aI ((i : Nat) : Int) :: _) rfl rfl ?_
          refine E_mul (v := ((60 * i : Nat) : Int)) rfl (by omega) (by omega) ?_
          refine E_s (p' := 52) (st' := aI ((ci : Nat) : Int) :: _) rfl rfl ?_
          refine E_add (v := ((60 * i + ci : Nat) : Int)) rfl (by omega) (by omega) ?_
          refine E_s (p' := 55) (L' := [some (aA 124), some (aI ((i : Nat) : Int)), some (aI ((ci : Nat) : Int)), some (aI (h)), some (aI (s)), some (aI (t)), some (aI ((60 * i + ci : Nat) : Int))]) rfl rfl ?_
          refine E_s (p' := 56) (st' := aI (h) :: _) rfl rfl ?_
          refine E_s (p' := 57) (st' := aI 1 :: _) rfl rfl ?_
          refine E_s (p' := 58) (st' := aA 124 :: _) rfl rfl ?_
          refine E_gA (b := 130) rfl rfl rfl rfl rfl rfl ?_
          refine E_s (p' := 63) (st' := aI ((60 * i + ci : Nat) : Int) :: _) rfl rfl ?_
          refine E_ald (e := 60 * i + ci) (N := 240) (v := ((Cl (S i) ci : Nat) : Int)) rfl rfl (rfl) (by omega) (MR_130 hM (by omega) (by omega)) ?_
          refine E_callL (p' := 67) (L0 := [some (aI (h)), some (aI 1), some (aI ((Cl (S i) ci : Nat) : Int))]) rfl rfl rfl ?_
          refine m_in (fun h_17 h_18 => ?_) (fun h_19 => ?_)
          · refine E_go (p' := 67) (L' := [some (aA 124), some (aI ((i : Nat) : Int)), some (aI ((ci : Nat) : Int)), some (aI (h)), some (aI (s)), some (aI (t)), some (aI ((60 * i + ci : Nat) : Int))]) (st' := [aI 1]) rfl rfl rfl ?_
            refine E_s (p' := 70) rfl rfl ?_
            refine E_s (p' := 71) (st' := aA 124 :: _) rfl rfl ?_
            refine E_s (p' := 73) (st' := aI ((60 * i + ci : Nat) : Int) :: _) rfl rfl ?_
            refine E_s (p' := 74) (st' := aI (h) :: _) rfl rfl ?_
            refine E_callV (k' := 137) (a := 124) (r := []) (L0 := [some (aA 124), some (aI ((60 * i + ci : Nat) : Int)), some (aI (h)), none]) rfl rfl rfl rfl rfl rfl rfl rfl rfl rfl ?_
            refine m_find hi hM hV hcc (fun k1 hk1 hk2 => ?_) (fun hnf => ?_)
            · refine E_go (p' := 77) (L' := [some (aA 124), some (aI ((i : Nat) : Int)), some (aI ((ci : Nat) : Int)), some (aI (h)), some (aI (s)), some (aI (t)), some (aI ((60 * i + ci : Nat) : Int))]) (st' := [aI ((k1 : Nat) : Int)]) rfl rfl rfl ?_
              refine E_s (p' := 78) (st' := aI (-1) :: _) rfl rfl ?_
              refine E_icmp_ne (x := ((k1 : Nat) : Int)) (y := (-1)) rfl (by decide) (fun h_20 => ?_) (fun q => absurd q (by omega))
              refine E_go (p' := 103) (L' := [some (aA 124), some (aI ((i : Nat) : Int)), some (aI ((ci : Nat) : Int)), some (aI (h)), some (aI (s)), some (aI (t)), some (aI ((60 * i + ci : Nat) : Int))]) (st' := []) rfl rfl rfl ?_
              refine E_s (p' := 105) (st' := aI (-2) :: _) rfl rfl ?_
              refine E_ret rfl rfl ?_
              exact finM_same hS hi rfl q (by unfold oKnot; (try simp only [Int.toNat_natCast]); rw [cif_neg (by first | exact fun g9 => absurd g9.2.1 (by unfold kind; omega) | exact fun g9 => absurd g9.2.2.1 (by unfold whl; omega) | exact fun g9 => g9.2.2.2 ⟨k1, hk1, hk2⟩)]) hS (fun _ _ _ => rfl)
            · refine E_go (p' := 77) (L' := [some (aA 124), some (aI ((i : Nat) : Int)), some (aI ((ci : Nat) : Int)), some (aI (h)), some (aI (s)), some (aI (t)), some (aI ((60 * i + ci : Nat) : Int))]) (st' := [aI (-1)]) rfl rfl rfl ?_
              refine E_s (p' := 78) (st' := aI (-1) :: _) rfl rfl ?_
              refine E_s (p' := 81) rfl rfl ?_
              refine E_s (p' := 82) (st' := aA 124 :: _) rfl rfl ?_
              refine E_gA (b := 131) rfl rfl rfl rfl rfl rfl ?_
              refine E_s (p' := 87) (st' := aI ((60 * i + ci : Nat) : Int) :: _) rfl rfl ?_
              refine E_ald (e := 60 * i + ci) (N := 240) (v := (((Ctz (S i) ci)))) rfl rfl (rfl) (by omega) (MR_131 hM (by omega) (by omega)) ?_
              refine E_s (p' := 89) (st' := aI (-1) :: _) rfl rfl ?_
              refine E_icmp_eq (x := (((Ctz (S i) ci)))) (y := (-1)) rfl (by decide) (fun h_21 => ?_) (fun h_21 => ?_)
              · refine E_go (p' := 106) (L' := [some (aA 124), some (aI ((i : Nat) : Int)), some (aI ((ci : Nat) : Int)), some (aI (h)), some (aI (s)), some (aI (t)), some (aI ((60 * i + ci : Nat) : Int))]) (st' := []) rfl rfl rfl ?_
                refine E_s (p' := 107) (st' := aA 124 :: _) rfl rfl ?_
                refine E_gA (b := 132) rfl rfl rfl rfl rfl rfl ?_
                refine E_s (p' := 112) (st' := aI ((60 * i + ci : Nat) : Int) :: _) rfl rfl ?_
                refine E_ald (e := 60 * i + ci) (N := 240) (v := ((Ck (S i) ci : Nat) : Int)) rfl rfl (rfl) (by omega) (MR_132 hM (by omega) (by omega)) ?_
                refine E_s (p' := 115) (st' := aI 30 :: _) rfl rfl ?_
                refine E_icmp_ne (x := ((Ck (S i) ci : Nat) : Int)) (y := 30) rfl (by decide) (fun h_22 => ?_) (fun h_22 => ?_)
                · refine E_go (p' := 121) (L' := [some (aA 124), some (aI ((i : Nat) : Int)), some (aI ((ci : Nat) : Int)), some (aI (h)), some (aI (s)), some (aI (t)), some (aI ((60 * i + ci : Nat) : Int))]) (st' := []) rfl rfl rfl ?_
                  have hw1 : whl (S i) ci h := by unfold whl; omega
                  have hkd : kind s t := by unfold kind; omega
                  obtain ⟨hn, eh⟩ : ∃ x : Nat, h = (x : Int) := ⟨h.toNat, by omega⟩
                  obtain ⟨sn, es⟩ : ∃ x : Nat, s = (x : Int) := ⟨s.toNat, by omega⟩
                  obtain ⟨tn, et⟩ : ∃ x : Nat, t = (x : Int) := ⟨t.toNat, by unfold kind at hkd; omega⟩
                  subst eh es et
                  have hb3 : hn ≤ 600 ∧ sn < 4 ∧ tn < 16 ∧ 1 ≤ hn := by unfold kind at hkd; omega
                  have eht := pck_ht (h := hn) (s := sn) (t := tn) hb3.2.1 hb3.2.2.1
                  refine E_s (p' := 122) (st' := aA 124 :: _) rfl rfl ?_
                  refine E_s (p' := 124) (st' := aI ((60 * i + ci : Nat) : Int) :: _) rfl rfl ?_
                  refine E_s (p' := 125) (st' := aI ((hn : Nat) : Int) :: _) rfl rfl ?_
                  refine E_s (p' := 127) (st' := aI ((sn : Nat) : Int) :: _) rfl rfl ?_
                  refine E_s (p' := 129) (st' := aI ((tn : Nat) : Int) :: _) rfl rfl ?_
                  refine E_callV (k' := 138) (a := 124) (r := []) (L0 := [some (aA 124), some (aI ((60 * i + ci : Nat) : Int)), some (aI ((hn : Nat) : Int)), some (aI ((sn : Nat) : Int)), some (aI ((tn : Nat) : Int)), none]) rfl rfl rfl rfl rfl rfl rfl rfl rfl rfl ?_
                  refine m_put hi hM hV hcc (by omega) hb3.2.1 hb3.2.2.1 (fun k hk e => hnf k hk (by omega)) (fun m1 hM1 hx1 hF1 => ?_)
                  refine E_go (p' := 132) (L' := [some (aA 124), some (aI ((i : Nat) : Int)), some (aI ((ci : Nat) : Int)), some (aI ((hn : Nat) : Int)), some (aI ((sn : Nat) : Int)), some (aI ((tn : Nat) : Int)), some (aI ((60 * i + ci : Nat) : Int))]) (st' := []) rfl rfl rfl ?_
                  refine E_s (p' := 133) (st' := aA 124 :: _) rfl rfl ?_
                  refine E_s (p' := 134) (st' := aI ((i : Nat) : Int) :: _) rfl rfl ?_
                  refine E_callV (k' := 133) (a := 124) (r := []) (L0 := [some (aA 124), some (aI ((i : Nat) : Int))]) rfl rfl rfl rfl rfl rfl rfl rfl rfl rfl ?_
                  refine m_changes (i := i) (by omega) ?_
                  refine E_go (p' := 137) (L' := [some (aA 124), some (aI ((i : Nat) : Int)), some (aI ((ci : Nat) : Int)), some (aI ((hn : Nat) : Int)), some (aI ((sn : Nat) : Int)), some (aI ((tn : Nat) : Int)), some (aI ((60 * i + ci : Nat) : Int))]) (st' := []) rfl rfl rfl ?_
                  refine E_s (p' := 138) (st' := aA 124 :: _) rfl rfl ?_
                  refine E_gA (b := 132) rfl rfl rfl rfl rfl rfl ?_
                  refine E_s (p' := 143) (st' := aI ((60 * i + ci : Nat) : Int) :: _) rfl rfl ?_
                  refine E_ald (e := 60 * i + ci) (N := 240) (v := ((Ck (S i) ci + 1 : Nat) : Int)) rfl rfl (rfl) (by omega) ((up2_ne (by omega)).trans (((MR_132 hM1 hcc rfl).trans (by show ((upf (Ck (S i)) ci (Ck (S i) ci + 1) ci : Nat) : Int) = _; rw [upf_eq])))) ?_
                  refine E_ret rfl rfl ?_
                  have hps := posn_sp (Cp (S i) ci) hn (Ck (S i) ci)
                  exact finMx hS hi rfl q (by unfold oKnot; simp only [Int.toNat_natCast]; rw [cif_pos ⟨(by unfold inC; omega), hkd, hw1, (fun ⟨k, hk, e⟩ => hnf k hk e)⟩, cif_neg (by omega)]) (V_ins hV hcc (by omega) (by unfold kok; rw [pck_so hb3.2.1 hb3.2.2.1, pck_tu hb3.2.2.1]; unfold kind at hkd; omega) (by rw [eht]; unfold whl at hw1; omega) (fun k hk e => hnf k hk (by rw [e, eht])) (posn_le _ _ _) (by rw [eht]; exact hps.1) (by rw [eht]; exact hps.2)) (hM1.of (fun b j g1 g2 => up2_ne (by omega))) (hx1.up (by unfold blk; omega)) (fun b j hb => (up2_ne (by omega)).trans (hF1 _ _ (by omega)))
                · refine E_go (p' := 118) (L' := [some (aA 124), some (aI ((i : Nat) : Int)), some (aI ((ci : Nat) : Int)), some (aI (h)), some (aI (s)), some (aI (t)), some (aI ((60 * i + ci : Nat) : Int))]) (st' := []) rfl rfl rfl ?_
                  refine E_s (p' := 120) (st' := aI (-3) :: _) rfl rfl ?_
                  refine E_ret rfl rfl ?_
                  exact finM_same hS hi rfl q (by unfold oKnot; (try simp only [Int.toNat_natCast]); rw [cif_pos ⟨(by unfold inC; omega), (by unfold kind; omega), (by unfold whl; omega), (fun ⟨k, hk, e⟩ => hnf k hk e)⟩, cif_pos (by omega)]) hS (fun _ _ _ => rfl)
              · refine E_go (p' := 92) (L' := [some (aA 124), some (aI ((i : Nat) : Int)), some (aI ((ci : Nat) : Int)), some (aI (h)), some (aI (s)), some (aI (t)), some (aI ((60 * i + ci : Nat) : Int))]) (st' := []) rfl rfl rfl ?_
                refine E_s (p' := 93) (st' := aI (h) :: _) rfl rfl ?_
                refine E_s (p' := 94) (st' := aA 124 :: _) rfl rfl ?_
                refine E_gA (b := 131) rfl rfl rfl rfl rfl rfl ?_
                refine E_s (p' := 99) (st' := aI ((60 * i + ci : Nat) : Int) :: _) rfl rfl ?_
                refine E_ald (e := 60 * i + ci) (N := 240) (v := (((Ctz (S i) ci)))) rfl rfl (rfl) (by omega) (MR_131 hM (by omega) (by omega)) ?_
                refine E_icmp_lt (x := (h)) (y := (((Ctz (S i) ci)))) rfl (by decide) (fun h_23 => ?_) (fun h_23 => ?_)
                · refine E_go (p' := 106) (L' := [some (aA 124), some (aI ((i : Nat) : Int)), some (aI ((ci : Nat) : Int)), some (aI (h)), some (aI (s)), some (aI (t)), some (aI ((60 * i + ci : Nat) : Int))]) (st' := []) rfl rfl rfl ?_
                  refine E_s (p' := 107) (st' := aA 124 :: _) rfl rfl ?_
                  refine E_gA (b := 132) rfl rfl rfl rfl rfl rfl ?_
                  refine E_s (p' := 112) (st' := aI ((60 * i + ci : Nat) : Int) :: _) rfl rfl ?_
                  refine E_ald (e := 60 * i + ci) (N := 240) (v := ((Ck (S i) ci : Nat) : Int)) rfl rfl (rfl) (by omega) (MR_132 hM (by omega) (by omega)) ?_
                  refine E_s (p' := 115) (st' := aI 30 :: _) rfl rfl ?_
                  refine E_icmp_ne (x := ((Ck (S i) ci : Nat) : Int)) (y := 30) rfl (by decide) (fun h_24 => ?_) (fun h_24 => ?_)
                  · refine E_go (p' := 121) (L' := [some (aA 124), some (aI ((i : Nat) : Int)), some (aI ((ci : Nat) : Int)), some (aI (h)), some (aI (s)), some (aI (t)), some (aI ((60 * i + ci : Nat) : Int))]) (st' := []) rfl rfl rfl ?_
                    have hw1 : whl (S i) ci h := by unfold whl; omega
                    have hkd : kind s t := by unfold kind; omega
                    obtain ⟨hn, eh⟩ : ∃ x : Nat, h = (x : Int) := ⟨h.toNat, by omega⟩
                    obtain ⟨sn, es⟩ : ∃ x : Nat, s = (x : Int) := ⟨s.toNat, by omega⟩
                    obtain ⟨tn, et⟩ : ∃ x : Nat, t = (x : Int) := ⟨t.toNat, by unfold kind at hkd; omega⟩
                    subst eh es et
                    have hb3 : hn ≤ 600 ∧ sn < 4 ∧ tn < 16 ∧ 1 ≤ hn := by unfold kind at hkd; omega
                    have eht := pck_ht (h := hn) (s := sn) (t := tn) hb3.2.1 hb3.2.2.1
                    refine E_s (p' := 122) (st' := aA 124 :: _) rfl rfl ?_
                    refine E_s (p' := 124) (st' := aI ((60 * i + ci : Nat) : Int) :: _) rfl rfl ?_
                    refine E_s (p' := 125) (st' := aI ((hn : Nat) : Int) :: _) rfl rfl ?_
                    refine E_s (p' := 127) (st' := aI ((sn : Nat) : Int) :: _) rfl rfl ?_
                    refine E_s (p' := 129) (st' := aI ((tn : Nat) : Int) :: _) rfl rfl ?_
                    refine E_callV (k' := 138) (a := 124) (r := []) (L0 := [some (aA 124), some (aI ((60 * i + ci : Nat) : Int)), some (aI ((hn : Nat) : Int)), some (aI ((sn : Nat) : Int)), some (aI ((tn : Nat) : Int)), none]) rfl rfl rfl rfl rfl rfl rfl rfl rfl rfl ?_
                    refine m_put hi hM hV hcc (by omega) hb3.2.1 hb3.2.2.1 (fun k hk e => hnf k hk (by omega)) (fun m1 hM1 hx1 hF1 => ?_)
                    refine E_go (p' := 132) (L' := [some (aA 124), some (aI ((i : Nat) : Int)), some (aI ((ci : Nat) : Int)), some (aI ((hn : Nat) : Int)), some (aI ((sn : Nat) : Int)), some (aI ((tn : Nat) : Int)), some (aI ((60 * i + ci : Nat) : Int))]) (st' := []) rfl rfl rfl ?_
                    refine E_s (p' := 133) (st' := aA 124 :: _) rfl rfl ?_
                    refine E_s (p' := 134) (st' := aI ((i : Nat) : Int) :: _) rfl rfl ?_
                    refine E_callV (k' := 133) (a := 124) (r := []) (L0 := [some (aA 124), some (aI ((i : Nat) : Int))]) rfl rfl rfl rfl rfl rfl rfl rfl rfl rfl ?_
                    refine m_changes (i := i) (by omega) ?_
                    refine E_go (p' := 137) (L' := [some (aA 124), some (aI ((i : Nat) : Int)), some (aI ((ci : Nat) : Int)), some (aI ((hn : Nat) : Int)), some (aI ((sn : Nat) : Int)), some (aI ((tn : Nat) : Int)), some (aI ((60 * i + ci : Nat) : Int))]) (st' := []) rfl rfl rfl ?_
                    refine E_s (p' := 138) (st' := aA 124 :: _) rfl rfl ?_
                    refine E_gA (b := 132) rfl rfl rfl rfl rfl rfl ?_
                    refine E_s (p' := 143) (st' := aI ((60 * i + ci : Nat) : Int) :: _) rfl rfl ?_
                    refine E_ald (e := 60 * i + ci) (N := 240) (v := ((Ck (S i) ci + 1 : Nat) : Int)) rfl rfl (rfl) (by omega) ((up2_ne (by omega)).trans (((MR_132 hM1 hcc rfl).trans (by show ((upf (Ck (S i)) ci (Ck (S i) ci + 1) ci : Nat) : Int) = _; rw [upf_eq])))) ?_
                    refine E_ret rfl rfl ?_
                    have hps := posn_sp (Cp (S i) ci) hn (Ck (S i) ci)
                    exact finMx hS hi rfl q (by unfold oKnot; simp only [Int.toNat_natCast]; rw [cif_pos ⟨(by unfold inC; omega), hkd, hw1, (fun ⟨k, hk, e⟩ => hnf k hk e)⟩, cif_neg (by omega)]) (V_ins hV hcc (by omega) (by unfold kok; rw [pck_so hb3.2.1 hb3.2.2.1, pck_tu hb3.2.2.1]; unfold kind at hkd; omega) (by rw [eht]; unfold whl at hw1; omega) (fun k hk e => hnf k hk (by rw [e, eht])) (posn_le _ _ _) (by rw [eht]; exact hps.1) (by rw [eht]; exact hps.2)) (hM1.of (fun b j g1 g2 => up2_ne (by omega))) (hx1.up (by unfold blk; omega)) (fun b j hb => (up2_ne (by omega)).trans (hF1 _ _ (by omega)))
                  · refine E_go (p' := 118) (L' := [some (aA 124), some (aI ((i : Nat) : Int)), some (aI ((ci : Nat) : Int)), some (aI (h)), some (aI (s)), some (aI (t)), some (aI ((60 * i + ci : Nat) : Int))]) (st' := []) rfl rfl rfl ?_
                    refine E_s (p' := 120) (st' := aI (-3) :: _) rfl rfl ?_
                    refine E_ret rfl rfl ?_
                    exact finM_same hS hi rfl q (by unfold oKnot; (try simp only [Int.toNat_natCast]); rw [cif_pos ⟨(by unfold inC; omega), (by unfold kind; omega), (by unfold whl; omega), (fun ⟨k, hk, e⟩ => hnf k hk e)⟩, cif_pos (by omega)]) hS (fun _ _ _ => rfl)
                · refine E_go (p' := 103) (L' := [some (aA 124), some (aI ((i : Nat) : Int)), some (aI ((ci : Nat) : Int)), some (aI (h)), some (aI (s)), some (aI (t)), some (aI ((60 * i + ci : Nat) : Int))]) (st' := []) rfl rfl rfl ?_
                  refine E_s (p' := 105) (st' := aI (-2) :: _) rfl rfl ?_
                  refine E_ret rfl rfl ?_
                  exact finM_same hS hi rfl q (by unfold oKnot; (try simp only [Int.toNat_natCast]); rw [cif_neg (by first | exact fun g9 => absurd g9.2.1 (by unfold kind; omega) | exact fun g9 => absurd g9.2.2.1 (by unfold whl; omega) | exact fun g9 => g9.2.2.2 ⟨k1, hk1, hk2⟩)]) hS (fun _ _ _ => rfl)
          · refine E_go (p' := 67) (L' := [some (aA 124), some (aI ((i : Nat) : Int)), some (aI ((ci : Nat) : Int)), some (aI (h)), some (aI (s)), some (aI (t)), some (aI ((60 * i + ci : Nat) : Int))]) (st' := [aI 0]) rfl rfl rfl ?_
            refine E_s (p' := 103) rfl rfl ?_
            refine E_s (p' := 105) (st' := aI (-2) :: _) rfl rfl ?_
            refine E_ret rfl rfl ?_
            exact finM_same hS hi rfl q (by unfold oKnot; (try simp only [Int.toNat_natCast]); rw [cif_neg (by first | exact fun g9 => absurd g9.2.1 (by unfold kind; omega) | exact fun g9 => absurd g9.2.2.1 (by unfold whl; omega) | exact fun g9 => g9.2.2.2 ⟨k1, hk1, hk2⟩)]) hS (fun _ _ _ => rfl)
        · refine E_go (p' := 33) (L' := [some (aA 124), some (aI ((i : Nat) : Int)), some (aI ((ci : Nat) : Int)), some (aI (h)), some (aI (s)), some (aI (t)), none]) (st' := [aI 0]) rfl rfl rfl ?_
          refine E_s (p' := 36) rfl rfl ?_
          refine E_s (p' := 44) rfl rfl ?_
          refine E_s (p' := 46) (st' := aI (-2) :: _) rfl rfl ?_
          refine E_ret rfl rfl ?_
          exact finM_same hS hi rfl q (by unfold oKnot; (try simp only [Int.toNat_natCast]); rw [cif_neg (by first | exact fun g9 => absurd g9.2.1 (by unfold kind; omega) | exact fun g9 => absurd g9.2.2.1 (by unfold whl; omega) | exact fun g9 => g9.2.2.2 ⟨k1, hk1, hk2⟩)]) hS (fun _ _ _ => rfl)
    · refine E_go (p' := 16) (L' := [some (aA 124), some (aI ((i : Nat) : Int)), some (aI ((ci : Nat) : Int)), some (aI (h)), some (aI (s)), some (aI (t)), none]) (st' := [aI 0]) rfl rfl rfl ?_
      refine E_s (p' := 44) rfl rfl ?_
      refine E_s (p' := 46) (st' := aI (-2) :: _) rfl rfl ?_
      refine E_ret rfl rfl ?_
      exact finM_same hS hi rfl q (by unfold oKnot; (try simp only [Int.toNat_natCast]); rw [cif_neg (by first | exact fun g9 => absurd g9.2.1 (by unfold kind; omega) | exact fun g9 => absurd g9.2.2.1 (by unfold whl; omega) | exact fun g9 => g9.2.2.2 ⟨k1, hk1, hk2⟩)]) hS (fun _ _ _ => rfl)
  · refine E_go (p' := 6) (L' := [some (aA 124), some (aI (r)), some (aI (c)), some (aI (h)), some (aI (s)), some (aI (t)), none]) (st' := [aI 0]) rfl rfl rfl ?_
    refine E_s (p' := 44) rfl rfl ?_
    refine E_s (p' := 46) (st' := aI (-2) :: _) rfl rfl ?_
    refine E_ret rfl rfl ?_
    rcases hno with hr | ⟨i, hi, hr, hno⟩
    · exact finM_out hS q hr
    · exact finM_same hS hi hr q (by unfold oKnot; rw [cif_neg (fun g9 => hno g9.1)]) hS (fun _ _ _ => rfl)
end
section
variable {len : Nat} {m0 : Mm} {Q : Option AV → Sx → Prop} {R : RD} {i c k1 : Nat} {h : Int}
theorem yl_untie (hi : i < 4) (hM : MR R i m0) (hV : VR R) (hcc : c < Cn R) (hk1 : k1 < Ck R c) (hk : ∀ m1 : Mm, m1 132 (60 * i + c) = (Ck R c : Int) - 1 → (∀ b e, 133 ≤ b ∧ b ≤ 135 → k1 ≤ e → e + 1 < Ck R c → m1 b (1800 * i + 30 * c + e) = m0 b (1800 * i + 30 * c + e + 1)) → (∀ b z, ¬ (b = 132 ∧ z = 60 * i + c) → ¬ (133 ≤ b ∧ b ≤ 135 ∧ 1800 * i + 30 * c + k1 ≤ z ∧ z + 1 < 1800 * i + 30 * c + Ck R c) → m1 b z = m0 b z) → E 139 129 [some (aA 124), some (aI (i : Int)), some (aI (c : Int)), some (aI h), some (aI ((60 * i + c : Nat) : Int)), some (aI (k1 : Int)), some (aI ((1800 * i + 30 * c + (Ck R c - 1) : Nat) : Int))] [] (m1, tl len) Q) : ∀ (d : Nat) (j : Nat) (m : Mm), (Ck R c ≤ j + d) → (k1 ≤ j ∧ j < Ck R c) → (m 132 (60 * i + c) = (Ck R c : Int) - 1) → (∀ b e, 133 ≤ b ∧ b ≤ 135 → k1 ≤ e → e < j → m b (1800 * i + 30 * c + e) = m0 b (1800 * i + 30 * c + e + 1)) → (∀ b z, ¬ ((b = 132 ∧ z = 60 * i + c) ∨ (133 ≤ b ∧ b ≤ 135 ∧ 1800 * i + 30 * c + k1 ≤ z ∧ z < 1800 * i + 30 * c + j)) → m b z = m0 b z) → E 139 57 [some (aA 124), some (aI ((i : Nat) : Int)), some (aI ((c : Nat) : Int)), some (aI (h)), some (aI ((60 * i + c : Nat) : Int)), some (aI ((k1 : Nat) : Int)), some (aI ((1800 * i + 30 * c + j : Nat) : Int))] [] (m, tl len) Q := by
  intro d
  induction d with
  | zero => intro j m hd hj I0 I1 I2; omega
  | succ d ih =>
    intro j m hd hj I0 I1 I2
    have hn60 := hV.1
    have hk30 := (hV.2.2.1 c hcc).2.2.2.2.2
    refine E_s (p' := 59) (st' := aI ((1800 * i + 30 * c + j : Nat) : Int) :: _) rfl rfl ?_
    refine E_s (p' := 61) (st' := aI 30 :: _) rfl rfl ?_
    refine E_s (p' := 63) (st' := aI ((60 * i + c : Nat) : Int) :: _) rfl rfl ?_
    refine E_mul (v := ((1800 * i + 30 * c : Nat) : Int)) rfl (by omega) (by omega) ?_
    refine E_s (p' := 65) (st' := aA 124 :: _) rfl rfl ?_
    refine E_gA (b := 132) rfl rfl rfl rfl rfl rfl ?_
    refine E_s (p' := 70) (st' := aI ((60 * i + c : Nat) : Int) :: _) rfl rfl ?_
    refine E_ald (e := 60 * i + c) (N := 240) (v := ((Ck R c : Int) - 1)) rfl rfl (rfl) (by omega) I0 ?_
    refine E_add (v := (1800 * (i : Int) + 30 * (c : Int) + (Ck R c : Int) - 1)) rfl (by omega) (by omega) ?_
    refine E_icmp_ge (x := ((1800 * i + 30 * c + j : Nat) : Int)) (y := (1800 * (i : Int) + 30 * (c : Int) + (Ck R c : Int) - 1)) rfl (by decide) (fun h_1 => ?_) (fun h_1 => ?_)
    · refine E_go (p' := 129) (L' := [some (aA 124), some (aI ((i : Nat) : Int)), some (aI ((c : Nat) : Int)), some (aI (h)), some (aI ((60 * i + c : Nat) : Int)), some (aI ((k1 : Nat) : Int)), some (aI ((1800 * i + 30 * c + j : Nat) : Int))]) (st' := []) rfl rfl rfl ?_
      have ej : j = Ck R c - 1 := by omega
      subst ej
      exact hk m I0 (fun b e g1 g2 g3 => I1 b e g1 g2 (by omega)) (fun b z g1 g2 => I2 b z (by omega))
    · refine E_go (p' := 75) (L' := [some (aA 124), some (aI ((i : Nat) : Int)), some (aI ((c : Nat) : Int)), some (aI (h)), some (aI ((60 * i + c : Nat) : Int)), some (aI ((k1 : Nat) : Int)), some (aI ((1800 * i + 30 * c + j : Nat) : Int))]) (st' := []) rfl rfl rfl ?_
      refine E_s (p' := 76) (st' := aA 124 :: _) rfl rfl ?_
      refine E_gA (b := 133) rfl rfl rfl rfl rfl rfl ?_
      refine E_s (p' := 81) (st' := aI ((1800 * i + 30 * c + j : Nat) : Int) :: _) rfl rfl ?_
      refine E_s (p' := 82) (st' := aA 124 :: _) rfl rfl ?_
      refine E_gA (b := 133) rfl rfl rfl rfl rfl rfl ?_
      refine E_s (p' := 87) (st' := aI ((1800 * i + 30 * c + j : Nat) : Int) :: _) rfl rfl ?_
      refine E_s (p' := 88) (st' := aI 1 :: _) rfl rfl ?_
      refine E_add (v := ((1800 * i + 30 * c + j + 1 : Nat) : Int)) rfl (by omega) (by omega) ?_
      refine E_ald (e := 1800 * i + 30 * c + j + 1) (N := 7200) (v := ((ht (Cp R c (j + 1)) : Nat) : Int)) rfl rfl (rfl) (by omega) ((I2 _ (1800 * i + 30 * c + j + 1) (by omega)).trans (MR_133 hM hcc (by omega) (by omega))) ?_
      refine E_ast (e := 1800 * i + 30 * c + j) (N := 7200) rfl rfl (rfl) (by omega) ?_
      refine E_s (p' := 92) (st' := aA 124 :: _) rfl rfl ?_
      refine E_gA (b := 134) rfl rfl rfl rfl rfl rfl ?_
      refine E_s (p' := 97) (st' := aI ((1800 * i + 30 * c + j : Nat) : Int) :: _) rfl rfl ?_
      refine E_s (p' := 98) (st' := aA 124 :: _) rfl rfl ?_
      refine E_gA (b := 134) rfl rfl rfl rfl rfl rfl ?_
      refine E_s (p' := 103) (st' := aI ((1800 * i + 30 * c + j : Nat) : Int) :: _) rfl rfl ?_
      refine E_s (p' := 104) (st' := aI 1 :: _) rfl rfl ?_
      refine E_add (v := ((1800 * i + 30 * c + j + 1 : Nat) : Int)) rfl (by omega) (by omega) ?_
      refine E_ald (e := 1800 * i + 30 * c + j + 1) (N := 7200) (v := ((so (Cp R c (j + 1)) : Nat) : Int)) rfl rfl (rfl) (by omega) ((up2_ne (by omega)).trans (((I2 _ (1800 * i + 30 * c + j + 1) (by omega)).trans (MR_134 hM hcc (by omega) (by omega))))) ?_
      refine E_ast (e := 1800 * i + 30 * c + j) (N := 7200) rfl rfl (rfl) (by omega) ?_
      refine E_s (p' := 108) (st' := aA 124 :: _) rfl rfl ?_
      refine E_gA (b := 135) rfl rfl rfl rfl rfl rfl ?_
      refine E_s (p' := 113) (st' := aI ((1800 * i + 30 * c + j : Nat) : Int) :: _) rfl rfl ?_
      refine E_s (p' := 114) (st' := aA 124 :: _) rfl rfl ?_
      refine E_gA (b := 135) rfl rfl rfl rfl rfl rfl ?_
      refine E_s (p' := 119) (st' := aI ((1800 * i + 30 * c + j : Nat) : Int) :: _) rfl rfl ?_
      refine E_s (p' := 120) (st' := aI 1 :: _) rfl rfl ?_
      refine E_add (v := ((1800 * i + 30 * c + j + 1 : Nat) : Int)) rfl (by omega) (by omega) ?_
      refine E_ald (e := 1800 * i + 30 * c + j + 1) (N := 7200) (v := ((tu (Cp R c (j + 1)) : Nat) : Int)) rfl rfl (rfl) (by omega) ((up2_ne (by omega)).trans ((up2_ne (by omega)).trans (((I2 _ (1800 * i + 30 * c + j + 1) (by omega)).trans (MR_135 hM hcc (by omega) (by omega)))))) ?_
      refine E_ast (e := 1800 * i + 30 * c + j) (N := 7200) rfl rfl (rfl) (by omega) ?_
      refine E_inc (x := ((1800 * i + 30 * c + j : Nat) : Int)) (w := ((1800 * i + 30 * c + j + 1 : Nat) : Int)) (L' := [some (aA 124), some (aI ((i : Nat) : Int)), some (aI ((c : Nat) : Int)), some (aI (h)), some (aI ((60 * i + c : Nat) : Int)), some (aI ((k1 : Nat) : Int)), some (aI ((1800 * i + 30 * c + j + 1 : Nat) : Int))]) rfl rfl rfl (by omega) (by omega) rfl ?_
      refine E_s (p' := 57) rfl rfl ?_
      refine ih (j + 1) _ (by omega) (by omega) (((up2_ne (by omega)).trans ((up2_ne (by omega)).trans (up2_ne (by omega)))).trans I0) (fun b e g1 g2 g3 => ?_) (fun b z g1 => ?_)
      · by_cases g : e = j
        · subst g
          rcases (show b = 133 ∨ b = 134 ∨ b = 135 by omega) with g4 | g4 | g4
          · subst g4; exact ((up2_ne (by omega)).trans ((up2_ne (by omega)).trans up2_eq)).trans (MR_133 hM hcc (k := e + 1) (by omega) (by omega)).symm
          · subst g4; exact ((up2_ne (by omega)).trans up2_eq).trans (MR_134 hM hcc (k := e + 1) (by omega) (by omega)).symm
          · subst g4; exact up2_eq.trans (MR_135 hM hcc (k := e + 1) (by omega) (by omega)).symm
        · exact ((up2_sl (by omega)).trans ((up2_sl (by omega)).trans (up2_sl (by omega)))).trans (I1 b e g1 g2 (by omega))
      · exact ((up2_o (by omega)).trans ((up2_o (by omega)).trans (up2_o (by omega)))).trans (I2 b z (by omega))
end
section
variable {len : Nat} {m : Mm} {Q : Option AV → Sx → Prop} {S : Nat → RD} {r c l g o h s t : Int}
theorem M_untie (hS : MS S m) (q : ∀ m1, MS (on1 S r (-1) (oUntie c h)).2 m1 → Co1 m m1 → Q (some (aI (on1 S r (-1) (oUntie c h)).1)) (m1, tl len)) : E 139 0 [some (aA 124), some (aI (r)), some (aI (c)), some (aI (h)), none, none, none] [] (m, tl len) Q := by
  refine E_s (p' := 1) (st' := aA 124 :: _) rfl rfl ?_
  refine E_s (p' := 2) (st' := aI (r) :: _) rfl rfl ?_
  refine E_s (p' := 3) (st' := aI (c) :: _) rfl rfl ?_
  refine E_callV (k' := 135) (a := 124) (r := []) (L0 := [some (aA 124), some (aI (r)), some (aI (c))]) rfl rfl rfl rfl rfl rfl rfl rfl rfl rfl ?_
  refine m_isCord hS (fun i ci hi hr hc hcc => ?_) (fun hno => ?_)
  · refine E_go (p' := 6) (L' := [some (aA 124), some (aI (r)), some (aI (c)), some (aI (h)), none, none, none]) (st' := [aI 1]) rfl rfl rfl ?_
    obtain ⟨hV, hM⟩ := hS i hi
    have hn60 := hV.1
    have hs40 := hV.2.2.2.2.1
    subst hr hc
    refine E_s (p' := 11) rfl rfl ?_
    have hk30 := (hV.2.2.1 ci hcc).2.2.2.2.2
    refine E_s (p' := 13) (st' := aI 60 :: _) rfl rfl ?_
    refine E_s (p' := 14) (st' := aI ((i : Nat) : Int) :: _) rfl rfl ?_
    refine E_mul (v := ((60 * i : Nat) : Int)) rfl (by omega) (by omega) ?_
    refine E_s (p' := 16) (st' := aI ((ci : Nat) : Int) :: _) rfl rfl ?_
    refine E_add (v := ((60 * i + ci : Nat) : Int)) rfl (by omega) (by omega) ?_
    refine E_s (p' := 19) (L' := [some (aA 124), some (aI ((i : Nat) : Int)), some (aI ((ci : Nat) : Int)), some (aI (h)), some (aI ((60 * i + ci : Nat) : Int)), none, none]) rfl rfl ?_
    refine E_s (p' := 20) (st' := aA 124 :: _) rfl rfl ?_
    refine E_s (p' := 22) (st' := aI ((60 * i + ci : Nat) : Int) :: _) rfl rfl ?_
    refine E_s (p' := 23) (st' := aI (h) :: _) rfl rfl ?_
    refine E_callV (k' := 137) (a := 124) (r := []) (L0 := [some (aA 124), some (aI ((60 * i + ci : Nat) : Int)), some (aI (h)), none]) rfl rfl rfl rfl rfl rfl rfl rfl rfl rfl ?_
    refine m_find hi hM hV hcc (fun k1 hk1 hk2 => ?_) (fun hnf => ?_)
    · refine E_go (p' := 26) (L' := [some (aA 124), some (aI ((i : Nat) : Int)), some (aI ((ci : Nat) : Int)), some (aI (h)), some (aI ((60 * i + ci : Nat) : Int)), none, none]) (st' := [aI ((k1 : Nat) : Int)]) rfl rfl rfl ?_
      refine E_s (p' := 28) (L' := [some (aA 124), some (aI ((i : Nat) : Int)), some (aI ((ci : Nat) : Int)), some (aI (h)), some (aI ((60 * i + ci : Nat) : Int)), some (aI ((k1 : Nat) : Int)), none]) rfl rfl ?_
      refine E_s (p' := 30) (st' := aI ((k1 : Nat) : Int) :: _) rfl rfl ?_
      refine E_s (p' := 31) (st' := aI (-1) :: _) rfl rfl ?_
      refine E_icmp_ne (x := ((k1 : Nat) : Int)) (y := (-1)) rfl (by decide) (fun h_1 => ?_) (fun q => absurd q (by omega))
      refine E_go (p' := 36) (L' := [some (aA 124), some (aI ((i : Nat) : Int)), some (aI ((ci : Nat) : Int)), some (aI (h)), some (aI ((60 * i + ci : Nat) : Int)), some (aI ((k1 : Nat) : Int)), none]) (st' := []) rfl rfl rfl ?_
      refine E_s (p' := 37) (st' := aA 124 :: _) rfl rfl ?_
      refine E_gA (b := 132) rfl rfl rfl rfl rfl rfl ?_
      refine E_s (p' := 42) (st' := aI ((60 * i + ci : Nat) : Int) :: _) rfl rfl ?_
      refine E_s (p' := 43) rfl rfl ?_
      refine E_ald (e := 60 * i + ci) (N := 240) (v := ((Ck (S i) ci : Nat) : Int)) rfl rfl (rfl) (by omega) (MR_132 hM (by omega) (by omega)) ?_
      refine E_s (p' := 45) (st' := aI 1 :: _) rfl rfl ?_
      refine E_sub (v := ((Ck (S i) ci : Int) - 1)) rfl (by omega) (by omega) ?_
      refine E_ast (e := 60 * i + ci) (N := 240) rfl rfl (rfl) (by omega) ?_
      refine E_s (p' := 49) (st' := aI 30 :: _) rfl rfl ?_
      refine E_s (p' := 51) (st' := aI ((60 * i + ci : Nat) : Int) :: _) rfl rfl ?_
      refine E_mul (v := ((1800 * i + 30 * ci : Nat) : Int)) rfl (by omega) (by omega) ?_
      refine E_s (p' := 54) (st' := aI ((k1 : Nat) : Int) :: _) rfl rfl ?_
      refine E_add (v := ((1800 * i + 30 * ci + k1 : Nat) : Int)) rfl (by omega) (by omega) ?_
      refine E_s (p' := 57) (L' := [some (aA 124), some (aI ((i : Nat) : Int)), some (aI ((ci : Nat) : Int)), some (aI (h)), some (aI ((60 * i + ci : Nat) : Int)), some (aI ((k1 : Nat) : Int)), some (aI ((1800 * i + 30 * ci + k1 : Nat) : Int))]) rfl rfl ?_
      refine yl_untie hi hM hV hcc hk1 (fun m1 J0 J1 J2 => ?_) (Ck (S i) ci + 1) k1 _ (by omega) (by omega) up2_eq (fun b e _ g1 g2 => absurd g1 (by omega)) (fun b z g1 => up2_o (by omega))
      refine E_s (p' := 130) (st' := aA 124 :: _) rfl rfl ?_
      refine E_s (p' := 131) (st' := aI ((i : Nat) : Int) :: _) rfl rfl ?_
      refine E_callV (k' := 133) (a := 124) (r := []) (L0 := [some (aA 124), some (aI ((i : Nat) : Int))]) rfl rfl rfl rfl rfl rfl rfl rfl rfl rfl ?_
      refine m_changes (i := i) (by omega) ?_
      refine E_go (p' := 134) (L' := [some (aA 124), some (aI ((i : Nat) : Int)), some (aI ((ci : Nat) : Int)), some (aI (h)), some (aI ((60 * i + ci : Nat) : Int)), some (aI ((k1 : Nat) : Int)), some (aI ((1800 * i + 30 * ci + (Ck (S i) ci - 1) : Nat) : Int))]) (st' := []) rfl rfl rfl ?_
      refine E_s (p' := 135) (st' := aA 124 :: _) rfl rfl ?_
      refine E_gA (b := 132) rfl rfl rfl rfl rfl rfl ?_
      refine E_s (p' := 140) (st' := aI ((60 * i + ci : Nat) : Int) :: _) rfl rfl ?_
      refine E_ald (e := 60 * i + ci) (N := 240) (v := ((Ck (S i) ci : Int) - 1)) rfl rfl (rfl) (by omega) ((up2_ne (by omega)).trans (J0)) ?_
      refine E_ret rfl rfl ?_
      obtain ⟨hn, eh⟩ : ∃ x : Nat, h = (x : Int) := ⟨h.toNat, by omega⟩
      subst eh
      have ep := posn_u (P := Cp (S i) ci) (h := hn) (n := Ck (S i) ci) (k := k1) (by omega) (fun j hj => by have := hV.mono hcc hj hk1; omega) (fun _ => by omega)
      have hrm : ∀ (b : Nat) (f : Nat → Nat), (133 ≤ b ∧ b ≤ 135) → (∀ e, e < Ck (S i) ci → m b (1800 * i + 30 * ci + e) = (f (Cp (S i) ci e) : Int)) → ∀ e, e < Ck (S i) ci - 1 → up2 m1 140 i 0 b (1800 * i + 30 * ci + e) = (f (remP (Cp (S i) ci) k1 e) : Int) := fun b f hb hf e he => by
        refine (up2_ne (by omega)).trans ?_
        unfold remP
        rcases Nat.lt_or_ge e k1 with g | g
        · rw [if_pos g]; exact (J2 _ _ (by omega) (by omega)).trans (hf e (by omega))
        · rw [if_neg (by omega)]; exact (J1 b e hb g (by omega)).trans (hf (e + 1) (by omega))
      refine finMx hS hi rfl q (v := (Ck (S i) ci : Int) - 1) (R := Rkn (S i) ci (Ck (S i) ci - 1) (remP (Cp (S i) ci) k1)) (by unfold oUntie; simp only [Int.toNat_natCast]; rw [cif_pos ⟨(by unfold inC; omega), (⟨k1, hk1, hk2⟩ : tied (S i) ci hn)⟩, ← ep]; exact Prod.ext (show ((Ck (S i) ci - 1 : Nat) : Int) = _ by omega) rfl) (V_rem hV hcc hk1) (MR.kn hM hV (by omega) ((up2_ne (by omega)).trans (J0.trans (by omega))) (fun e he => ⟨hrm 133 ht (by omega) (fun e he => MR_133 hM hcc he rfl) e he, hrm 134 so (by omega) (fun e he => MR_134 hM hcc he rfl) e he, hrm 135 tu (by omega) (fun e he => MR_135 hM hcc he rfl) e he⟩) (fun b z g1 g2 g3 g4 => (up2_ne (by omega)).trans (J2 b z (by omega) (by omega)))) (fun b z hb => ?_) (fun b z hb => (up2_ne (by omega)).trans (J2 _ _ (by omega) (by omega)))
      have hb2 : ¬ ((b < 125 ∨ 139 < b) ∨ (b = 132 ∧ 60 * i ≤ z ∧ z < 60 * i + 60) ∨ (133 ≤ b ∧ b ≤ 135 ∧ 1800 * i ≤ z ∧ z < 1800 * i + 1800)) := fun g => hb (by unfold blk; omega)
      exact (up2_ne (by omega)).trans (J2 _ _ (by omega) (by omega))
    · refine E_go (p' := 26) (L' := [some (aA 124), some (aI ((i : Nat) : Int)), some (aI ((ci : Nat) : Int)), some (aI (h)), some (aI ((60 * i + ci : Nat) : Int)), none, none]) (st' := [aI (-1)]) rfl rfl rfl ?_
      refine E_s (p' := 28) (L' := [some (aA 124), some (aI ((i : Nat) : Int)), some (aI ((ci : Nat) : Int)), some (aI (h)), some (aI ((60 * i + ci : Nat) : Int)), some (aI (-1)), none]) rfl rfl ?_
      refine E_s (p' := 30) (st' := aI (-1) :: _) rfl rfl ?_
      refine E_s (p' := 31) (st' := aI (-1) :: _) rfl rfl ?_
      refine E_s (p' := 34) rfl rfl ?_
      refine E_s (p' := 35) (st' := aI (-1) :: _) rfl rfl ?_
      refine E_ret rfl rfl ?_
      exact finM_same hS hi rfl q (by unfold oUntie; (try simp only [Int.toNat_natCast]); rw [cif_neg (fun g9 => g9.2.elim (fun k g8 => hnf k g8.1 g8.2))]) hS (fun _ _ _ => rfl)
  · refine E_go (p' := 6) (L' := [some (aA 124), some (aI (r)), some (aI (c)), some (aI (h)), none, none, none]) (st' := [aI 0]) rfl rfl rfl ?_
    refine E_s (p' := 9) rfl rfl ?_
    refine E_s (p' := 10) (st' := aI (-1) :: _) rfl rfl ?_
    refine E_ret rfl rfl ?_
    rcases hno with hr | ⟨i, hi, hr, hno⟩
    · exact finM_out hS q hr
    · exact finM_same hS hi hr q (by unfold oUntie; rw [cif_neg (fun g9 => hno g9.1)]) hS (fun _ _ _ => rfl)
end

section
variable {len : Nat} {m0 : Mm} {Q : Option AV → Sx → Prop} {R : RD} {i c hn : Nat}
theorem yl_tear (hi : i < 4) (hM : MR R i m0) (hV : VR R) (hcc : c < Cn R) (hk : ∀ m1 : Mm, m1 131 (60 * i + c) = (hn : Int) → m1 132 (60 * i + c) = (posn (Cp R c) hn (Ck R c) : Int) → (∀ b z, ¬ (131 ≤ b ∧ b ≤ 132 ∧ z = 60 * i + c) → m1 b z = m0 b z) → E 140 116 [some (aA 124), some (aI (i : Int)), some (aI (c : Int)), some (aI (hn : Int)), some (aI ((60 * i + c : Nat) : Int))] [] (m1, tl len) Q) : ∀ (d : Nat) (n : Nat) (m : Mm), (n < d) → (n ≤ Ck R c) → (m 132 (60 * i + c) = (n : Int)) → (m 131 (60 * i + c) = (hn : Int)) → (∀ b z, ¬ (131 ≤ b ∧ b ≤ 132 ∧ z = 60 * i + c) → m b z = m0 b z) → (∀ e, n ≤ e → e < Ck R c → hn ≤ ht (Cp R c e)) → E 140 68 [some (aA 124), some (aI ((i : Nat) : Int)), some (aI ((c : Nat) : Int)), some (aI ((hn : Nat) : Int)), some (aI ((60 * i + c : Nat) : Int))] [] (m, tl len) Q := by
  intro d
  induction d with
  | zero => intro n m hd hj I0 I1 I2 I3; omega
  | succ d ih =>
    intro n m hd hj I0 I1 I2 I3
    have hn60 := hV.1
    have hk30 := (hV.2.2.1 c hcc).2.2.2.2.2
    refine E_s (p' := 69) (st' := aA 124 :: _) rfl rfl ?_
    refine E_gA (b := 132) rfl rfl rfl rfl rfl rfl ?_
    refine E_s (p' := 74) (st' := aI ((60 * i + c : Nat) : Int) :: _) rfl rfl ?_
    refine E_ald (e := 60 * i + c) (N := 240) (v := ((n : Nat) : Int)) rfl rfl (rfl) (by omega) I0 ?_
    refine E_if_le (x := ((n : Nat) : Int)) rfl (by decide) (fun h_1 => ?_) (fun h_1 => ?_)
    · refine E_go (p' := 116) (L' := [some (aA 124), some (aI ((i : Nat) : Int)), some (aI ((c : Nat) : Int)), some (aI ((hn : Nat) : Int)), some (aI ((60 * i + c : Nat) : Int))]) (st' := []) rfl rfl rfl ?_
      have ep := posn_u (P := Cp R c) (h := hn) (n := Ck R c) (k := n) hj (fun e he => by
        first
          | omega
          | (rcases Nat.lt_or_ge e np with g | g
             · have := hV.mono hcc g (by omega); omega
             · rw [show e = np by omega]; omega)) (fun g => I3 n (Nat.le_refl _) g)
      rw [ep] at I0
      exact hk m I1 I0 I2
    · refine E_go (p' := 78) (L' := [some (aA 124), some (aI ((i : Nat) : Int)), some (aI ((c : Nat) : Int)), some (aI ((hn : Nat) : Int)), some (aI ((60 * i + c : Nat) : Int))]) (st' := []) rfl rfl rfl ?_
      obtain ⟨np, en⟩ : ∃ x, n = x + 1 := ⟨n - 1, by omega⟩
      refine E_s (p' := 79) (st' := aA 124 :: _) rfl rfl ?_
      refine E_gA (b := 133) rfl rfl rfl rfl rfl rfl ?_
      refine E_s (p' := 84) (st' := aI 30 :: _) rfl rfl ?_
      refine E_s (p' := 86) (st' := aI ((60 * i + c : Nat) : Int) :: _) rfl rfl ?_
      refine E_mul (v := ((1800 * i + 30 * c : Nat) : Int)) rfl (by omega) (by omega) ?_
      refine E_s (p' := 88) (st' := aA 124 :: _) rfl rfl ?_
      refine E_gA (b := 132) rfl rfl rfl rfl rfl rfl ?_
      refine E_s (p' := 93) (st' := aI ((60 * i + c : Nat) : Int) :: _) rfl rfl ?_
      refine E_ald (e := 60 * i + c) (N := 240) (v := ((n : Nat) : Int)) rfl rfl (rfl) (by omega) I0 ?_
      refine E_add (v := ((1800 * i + 30 * c + n : Nat) : Int)) rfl (by omega) (by omega) ?_
      refine E_s (p' := 96) (st' := aI 1 :: _) rfl rfl ?_
      refine E_sub (v := (1800 * (i : Int) + 30 * (c : Int) + (n : Int) - 1)) rfl (by omega) (by omega) ?_
      refine E_ald (e := (1800 * (i : Int) + 30 * (c : Int) + (n : Int) - 1).toNat) (N := 7200) (v := ((ht (Cp R c np) : Nat) : Int)) rfl rfl (by omega) (by omega) ((I2 _ _ (by omega)).trans (MR_133 hM hcc (by omega) (by omega))) ?_
      refine E_s (p' := 99) (st' := aI ((hn : Nat) : Int) :: _) rfl rfl ?_
      refine E_icmp_lt (x := ((ht (Cp R c np) : Nat) : Int)) (y := ((hn : Nat) : Int)) rfl (by decide) (fun h_2 => ?_) (fun h_2 => ?_)
      · refine E_go (p' := 116) (L' := [some (aA 124), some (aI ((i : Nat) : Int)), some (aI ((c : Nat) : Int)), some (aI ((hn : Nat) : Int)), some (aI ((60 * i + c : Nat) : Int))]) (st' := []) rfl rfl rfl ?_
        have ep := posn_u (P := Cp R c) (h := hn) (n := Ck R c) (k := n) hj (fun e he => by
          first
            | omega
            | (rcases Nat.lt_or_ge e np with g | g
               · have := hV.mono hcc g (by omega); omega
               · rw [show e = np by omega]; omega)) (fun g => I3 n (Nat.le_refl _) g)
        rw [ep] at I0
        exact hk m I1 I0 I2
      · refine E_go (p' := 102) (L' := [some (aA 124), some (aI ((i : Nat) : Int)), some (aI ((c : Nat) : Int)), some (aI ((hn : Nat) : Int)), some (aI ((60 * i + c : Nat) : Int))]) (st' := []) rfl rfl rfl ?_
        refine E_s (p' := 103) (st' := aA 124 :: _) rfl rfl ?_
        refine E_gA (b := 132) rfl rfl rfl rfl rfl rfl ?_
        refine E_s (p' := 108) (st' := aI ((60 * i + c : Nat) : Int) :: _) rfl rfl ?_
        refine E_s (p' := 109) rfl rfl ?_
        refine E_ald (e := 60 * i + c) (N := 240) (v := ((n : Nat) : Int)) rfl rfl (rfl) (by omega) I0 ?_
        refine E_s (p' := 111) (st' := aI 1 :: _) rfl rfl ?_
        refine E_sub (v := ((n : Int) - 1)) rfl (by omega) (by omega) ?_
        refine E_ast (e := 60 * i + c) (N := 240) rfl rfl (rfl) (by omega) ?_
        refine E_s (p' := 68) rfl rfl ?_
        exact ih np _ (by omega) (by omega) (up2_eq.trans (by omega)) ((up2_ne (by omega)).trans I1) (fun b z g1 => (up2_o (by omega)).trans (I2 b z g1)) (fun e g1 g2 => by
          by_cases g : e = np
          · subst g; omega
          · exact I3 e (by omega) g2)
end
section
variable {len : Nat} {m : Mm} {Q : Option AV → Sx → Prop} {S : Nat → RD} {r c l g o h s t : Int}
theorem M_tear (hS : MS S m) (q : ∀ m1, MS (on1 S r (-2) (oTear c h)).2 m1 → Co1 m m1 → Q (some (aI (on1 S r (-2) (oTear c h)).1)) (m1, tl len)) : E 140 0 [some (aA 124), some (aI (r)), some (aI (c)), some (aI (h)), none] [] (m, tl len) Q := by
  refine E_s (p' := 1) (st' := aA 124 :: _) rfl rfl ?_
  refine E_s (p' := 2) (st' := aI (r) :: _) rfl rfl ?_
  refine E_s (p' := 3) (st' := aI (c) :: _) rfl rfl ?_
  refine E_callV (k' := 135) (a := 124) (r := []) (L0 := [some (aA 124), some (aI (r)), some (aI (c))]) rfl rfl rfl rfl rfl rfl rfl rfl rfl rfl ?_
  refine m_isCord hS (fun i ci hi hr hc hcc => ?_) (fun hno => ?_)
  · refine E_go (p' := 6) (L' := [some (aA 124), some (aI (r)), some (aI (c)), some (aI (h)), none]) (st' := [aI 1]) rfl rfl rfl ?_
    obtain ⟨hV, hM⟩ := hS i hi
    have hn60 := hV.1
    have hs40 := hV.2.2.2.2.1
    subst hr hc
    refine E_s (p' := 12) rfl rfl ?_
    have hctz := Ctz_c (S i) ci
    obtain ⟨⟨vg1, vg2⟩, ⟨vo1, vo2⟩, vc1, ⟨vl1, vl2⟩, vt1, vk1⟩ := hV.2.2.1 ci hcc
    refine E_s (p' := 14) (st' := aI 60 :: _) rfl rfl ?_
    refine E_s (p' := 15) (st' := aI ((i : Nat) : Int) :: _) rfl rfl ?_
    refine E_mul (v := ((60 * i : Nat) : Int)) rfl (by omega) (by omega) ?_
    refine E_s (p' := 17) (st' := aI ((ci : Nat) : Int) :: _) rfl rfl ?_
    refine E_add (v := ((60 * i + ci : Nat) : Int)) rfl (by omega) (by omega) ?_
    refine E_s (p' := 20) (L' := [some (aA 124), some (aI ((i : Nat) : Int)), some (aI ((ci : Nat) : Int)), some (aI (h)), some (aI ((60 * i + ci : Nat) : Int))]) rfl rfl ?_
    refine E_s (p' := 21) (st' := aI (h) :: _) rfl rfl ?_
    refine E_s (p' := 22) (st' := aI 1 :: _) rfl rfl ?_
    refine E_s (p' := 23) (st' := aA 124 :: _) rfl rfl ?_
    refine E_gA (b := 130) rfl rfl rfl rfl rfl rfl ?_
    refine E_s (p' := 28) (st' := aI ((60 * i + ci : Nat) : Int) :: _) rfl rfl ?_
    refine E_ald (e := 60 * i + ci) (N := 240) (v := ((Cl (S i) ci : Nat) : Int)) rfl rfl (rfl) (by omega) (MR_130 hM (by omega) (by omega)) ?_
    refine E_callL (p' := 32) (L0 := [some (aI (h)), some (aI 1), some (aI ((Cl (S i) ci : Nat) : Int))]) rfl rfl rfl ?_
    refine m_in (fun h_1 h_2 => ?_) (fun h_3 => ?_)
    · refine E_go (p' := 32) (L' := [some (aA 124), some (aI ((i : Nat) : Int)), some (aI ((ci : Nat) : Int)), some (aI (h)), some (aI ((60 * i + ci : Nat) : Int))]) (st' := [aI 1]) rfl rfl rfl ?_
      refine E_s (p' := 35) rfl rfl ?_
      refine E_s (p' := 36) (st' := aA 124 :: _) rfl rfl ?_
      refine E_gA (b := 131) rfl rfl rfl rfl rfl rfl ?_
      refine E_s (p' := 41) (st' := aI ((60 * i + ci : Nat) : Int) :: _) rfl rfl ?_
      refine E_ald (e := 60 * i + ci) (N := 240) (v := (((Ctz (S i) ci)))) rfl rfl (rfl) (by omega) (MR_131 hM (by omega) (by omega)) ?_
      refine E_s (p' := 43) (st' := aI (-1) :: _) rfl rfl ?_
      refine E_icmp_eq (x := (((Ctz (S i) ci)))) (y := (-1)) rfl (by decide) (fun h_4 => ?_) (fun h_4 => ?_)
      · refine E_go (p' := 60) (L' := [some (aA 124), some (aI ((i : Nat) : Int)), some (aI ((ci : Nat) : Int)), some (aI (h)), some (aI ((60 * i + ci : Nat) : Int))]) (st' := []) rfl rfl rfl ?_
        have hw1 : whl (S i) ci h := by unfold whl; omega
        obtain ⟨hn, eh⟩ : ∃ x : Nat, h = (x : Int) := ⟨h.toNat, by omega⟩
        subst eh
        refine E_s (p' := 61) (st' := aA 124 :: _) rfl rfl ?_
        refine E_gA (b := 131) rfl rfl rfl rfl rfl rfl ?_
        refine E_s (p' := 66) (st' := aI ((60 * i + ci : Nat) : Int) :: _) rfl rfl ?_
        refine E_s (p' := 67) (st' := aI ((hn : Nat) : Int) :: _) rfl rfl ?_
        refine E_ast (e := 60 * i + ci) (N := 240) rfl rfl (rfl) (by omega) ?_
        refine yl_tear hi hM hV hcc (fun m1 J0 J1 J2 => ?_) (Ck (S i) ci + 1) (Ck (S i) ci) _ (by omega) (by omega) ((up2_ne (by omega)).trans (MR_132 hM hcc rfl)) up2_eq (fun b z g1 => up2_o (by omega)) (fun e g1 g2 => absurd g1 (by omega))
        refine E_s (p' := 117) (st' := aA 124 :: _) rfl rfl ?_
        refine E_s (p' := 118) (st' := aI ((i : Nat) : Int) :: _) rfl rfl ?_
        refine E_callV (k' := 133) (a := 124) (r := []) (L0 := [some (aA 124), some (aI ((i : Nat) : Int))]) rfl rfl rfl rfl rfl rfl rfl rfl rfl rfl ?_
        refine m_changes (i := i) (by omega) ?_
        refine E_go (p' := 121) (L' := [some (aA 124), some (aI ((i : Nat) : Int)), some (aI ((ci : Nat) : Int)), some (aI ((hn : Nat) : Int)), some (aI ((60 * i + ci : Nat) : Int))]) (st' := []) rfl rfl rfl ?_
        refine E_s (p' := 122) (st' := aA 124 :: _) rfl rfl ?_
        refine E_gA (b := 132) rfl rfl rfl rfl rfl rfl ?_
        refine E_s (p' := 127) (st' := aI ((60 * i + ci : Nat) : Int) :: _) rfl rfl ?_
        refine E_ald (e := 60 * i + ci) (N := 240) (v := ((posn (Cp (S i) ci) hn (Ck (S i) ci) : Nat) : Int)) rfl rfl (rfl) (by omega) ((up2_ne (by omega)).trans (J1)) ?_
        refine E_ret rfl rfl ?_
        have hps := posn_sp (Cp (S i) ci) hn (Ck (S i) ci)
        refine finMx hS hi rfl q (by unfold oTear; simp only [Int.toNat_natCast]; rw [cif_pos ⟨(by unfold inC; omega), hw1⟩]) (V_tr hV hcc (by unfold whl at hw1; omega) (posn_le _ _ _) hps.1) (MR.trn hM (by unfold whl at hw1; omega) (posn_le _ _ _) ((up2_ne (by omega)).trans J0) ((up2_ne (by omega)).trans J1) (fun b z g1 g2 g3 => (up2_ne (by omega)).trans (J2 b z g3))) (fun b z hb => ?_) (fun b z hb => (up2_ne (by omega)).trans (J2 _ _ (by omega)))
        have hb2 : ¬ ((b < 125 ∨ 139 < b) ∨ (131 ≤ b ∧ b ≤ 132 ∧ 60 * i ≤ z ∧ z < 60 * i + 60)) := fun g => hb (by unfold blk; omega)
        exact (up2_ne (by omega)).trans (J2 _ _ (by omega))
      · refine E_go (p' := 46) (L' := [some (aA 124), some (aI ((i : Nat) : Int)), some (aI ((ci : Nat) : Int)), some (aI (h)), some (aI ((60 * i + ci : Nat) : Int))]) (st' := []) rfl rfl rfl ?_
        refine E_s (p' := 47) (st' := aI (h) :: _) rfl rfl ?_
        refine E_s (p' := 48) (st' := aA 124 :: _) rfl rfl ?_
        refine E_gA (b := 131) rfl rfl rfl rfl rfl rfl ?_
        refine E_s (p' := 53) (st' := aI ((60 * i + ci : Nat) : Int) :: _) rfl rfl ?_
        refine E_ald (e := 60 * i + ci) (N := 240) (v := (((Ctz (S i) ci)))) rfl rfl (rfl) (by omega) (MR_131 hM (by omega) (by omega)) ?_
        refine E_icmp_lt (x := (h)) (y := (((Ctz (S i) ci)))) rfl (by decide) (fun h_5 => ?_) (fun h_5 => ?_)
        · refine E_go (p' := 60) (L' := [some (aA 124), some (aI ((i : Nat) : Int)), some (aI ((ci : Nat) : Int)), some (aI (h)), some (aI ((60 * i + ci : Nat) : Int))]) (st' := []) rfl rfl rfl ?_
          have hw1 : whl (S i) ci h := by unfold whl; omega
          obtain ⟨hn, eh⟩ : ∃ x : Nat, h = (x : Int) := ⟨h.toNat, by omega⟩
          subst eh
          refine E_s (p' := 61) (st' := aA 124 :: _) rfl rfl ?_
          refine E_gA (b := 131) rfl rfl rfl rfl rfl rfl ?_
          refine E_s (p' := 66) (st' := aI ((60 * i + ci : Nat) : Int) :: _) rfl rfl ?_
          refine E_s (p' := 67) (st' := aI ((hn : Nat) : Int) :: _) rfl rfl ?_
          refine E_ast (e := 60 * i + ci) (N := 240) rfl rfl (rfl) (by omega) ?_
          refine yl_tear hi hM hV hcc (fun m1 J0 J1 J2 => ?_) (Ck (S i) ci + 1) (Ck (S i) ci) _ (by omega) (by omega) ((up2_ne (by omega)).trans (MR_132 hM hcc rfl)) up2_eq (fun b z g1 => up2_o (by omega)) (fun e g1 g2 => absurd g1 (by omega))
          refine E_s (p' := 117) (st' := aA 124 :: _) rfl rfl ?_
          refine E_s (p' := 118) (st' := aI ((i : Nat) : Int) :: _) rfl rfl ?_
          refine E_callV (k' := 133) (a := 124) (r := []) (L0 := [some (aA 124), some (aI ((i : Nat) : Int))]) rfl rfl rfl rfl rfl rfl rfl rfl rfl rfl ?_
          refine m_changes (i := i) (by omega) ?_
          refine E_go (p' := 121) (L' := [some (aA 124), some (aI ((i : Nat) : Int)), some (aI ((ci : Nat) : Int)), some (aI ((hn : Nat) : Int)), some (aI ((60 * i + ci : Nat) : Int))]) (st' := []) rfl rfl rfl ?_
          refine E_s (p' := 122) (st' := aA 124 :: _) rfl rfl ?_
          refine E_gA (b := 132) rfl rfl rfl rfl rfl rfl ?_
          refine E_s (p' := 127) (st' := aI ((60 * i + ci : Nat) : Int) :: _) rfl rfl ?_
          refine E_ald (e := 60 * i + ci) (N := 240) (v := ((posn (Cp (S i) ci) hn (Ck (S i) ci) : Nat) : Int)) rfl rfl (rfl) (by omega) ((up2_ne (by omega)).trans (J1)) ?_
          refine E_ret rfl rfl ?_
          have hps := posn_sp (Cp (S i) ci) hn (Ck (S i) ci)
          refine finMx hS hi rfl q (by unfold oTear; simp only [Int.toNat_natCast]; rw [cif_pos ⟨(by unfold inC; omega), hw1⟩]) (V_tr hV hcc (by unfold whl at hw1; omega) (posn_le _ _ _) hps.1) (MR.trn hM (by unfold whl at hw1; omega) (posn_le _ _ _) ((up2_ne (by omega)).trans J0) ((up2_ne (by omega)).trans J1) (fun b z g1 g2 g3 => (up2_ne (by omega)).trans (J2 b z g3))) (fun b z hb => ?_) (fun b z hb => (up2_ne (by omega)).trans (J2 _ _ (by omega)))
          have hb2 : ¬ ((b < 125 ∨ 139 < b) ∨ (131 ≤ b ∧ b ≤ 132 ∧ 60 * i ≤ z ∧ z < 60 * i + 60)) := fun g => hb (by unfold blk; omega)
          exact (up2_ne (by omega)).trans (J2 _ _ (by omega))
        · refine E_go (p' := 57) (L' := [some (aA 124), some (aI ((i : Nat) : Int)), some (aI ((ci : Nat) : Int)), some (aI (h)), some (aI ((60 * i + ci : Nat) : Int))]) (st' := []) rfl rfl rfl ?_
          refine E_s (p' := 59) (st' := aI (-2) :: _) rfl rfl ?_
          refine E_ret rfl rfl ?_
          exact finM_same hS hi rfl q (by unfold oTear; (try simp only [Int.toNat_natCast]); rw [cif_neg (fun g9 => absurd g9.2 (by unfold whl; omega))]) hS (fun _ _ _ => rfl)
    · refine E_go (p' := 32) (L' := [some (aA 124), some (aI ((i : Nat) : Int)), some (aI ((ci : Nat) : Int)), some (aI (h)), some (aI ((60 * i + ci : Nat) : Int))]) (st' := [aI 0]) rfl rfl rfl ?_
      refine E_s (p' := 57) rfl rfl ?_
      refine E_s (p' := 59) (st' := aI (-2) :: _) rfl rfl ?_
      refine E_ret rfl rfl ?_
      exact finM_same hS hi rfl q (by unfold oTear; (try simp only [Int.toNat_natCast]); rw [cif_neg (fun g9 => absurd g9.2 (by unfold whl; omega))]) hS (fun _ _ _ => rfl)
  · refine E_go (p' := 6) (L' := [some (aA 124), some (aI (r)), some (aI (c)), some (aI (h)), none]) (st' := [aI 0]) rfl rfl rfl ?_
    refine E_s (p' := 9) rfl rfl ?_
    refine E_s (p' := 11) (st' := aI (-2) :: _) rfl rfl ?_
    refine E_ret rfl rfl ?_
    rcases hno with hr | ⟨i, hi, hr, hno⟩
    · exact finM_out hS q hr
    · exact finM_same hS hi hr q (by unfold oTear; rw [cif_neg (fun g9 => hno g9.1)]) hS (fun _ _ _ => rfl)
theorem M_sum (hS : MS S m) (q : ∀ m1, MS (on1 S r (-2) (oSum c)).2 m1 → Co1 m m1 → Q (some (aI (on1 S r (-2) (oSum c)).1)) (m1, tl len)) : E 161 0 [some (aA 124), some (aI (r)), some (aI (c))] [] (m, tl len) Q := by
  refine E_s (p' := 1) (st' := aA 124 :: _) rfl rfl ?_
  refine E_s (p' := 2) (st' := aI (r) :: _) rfl rfl ?_
  refine E_s (p' := 3) (st' := aI (c) :: _) rfl rfl ?_
  refine E_callV (k' := 135) (a := 124) (r := []) (L0 := [some (aA 124), some (aI (r)), some (aI (c))]) rfl rfl rfl rfl rfl rfl rfl rfl rfl rfl ?_
  refine m_isCord hS (fun i ci hi hr hc hcc => ?_) (fun hno => ?_)
  · refine E_go (p' := 6) (L' := [some (aA 124), some (aI (r)), some (aI (c))]) (st' := [aI 1]) rfl rfl rfl ?_
    obtain ⟨hV, hM⟩ := hS i hi
    have hn60 := hV.1
    have hs40 := hV.2.2.2.2.1
    subst hr hc
    refine E_s (p' := 12) rfl rfl ?_
    refine E_s (p' := 13) (st' := aA 124 :: _) rfl rfl ?_
    refine E_gA (b := 136) rfl rfl rfl rfl rfl rfl ?_
    refine E_s (p' := 17) (st' := aI ((i : Nat) : Int) :: _) rfl rfl ?_
    refine E_ald (e := i) (N := 4) (v := ((Sn (S i) : Nat) : Int)) rfl rfl (rfl) (by omega) (MR_136 hM) ?_
    refine E_s (p' := 20) (st' := aI 40 :: _) rfl rfl ?_
    refine E_icmp_ne (x := ((Sn (S i) : Nat) : Int)) (y := 40) rfl (by decide) (fun h_1 => ?_) (fun h_1 => ?_)
    · refine E_go (p' := 26) (L' := [some (aA 124), some (aI ((i : Nat) : Int)), some (aI ((ci : Nat) : Int))]) (st' := []) rfl rfl rfl ?_
      refine E_s (p' := 27) (st' := aA 124 :: _) rfl rfl ?_
      refine E_gA (b := 137) rfl rfl rfl rfl rfl rfl ?_
      refine E_s (p' := 32) (st' := aI 40 :: _) rfl rfl ?_
      refine E_s (p' := 33) (st' := aI ((i : Nat) : Int) :: _) rfl rfl ?_
      refine E_mul (v := ((40 * i : Nat) : Int)) rfl (by omega) (by omega) ?_
      refine E_s (p' := 35) (st' := aA 124 :: _) rfl rfl ?_
      refine E_gA (b := 136) rfl rfl rfl rfl rfl rfl ?_
      refine E_s (p' := 39) (st' := aI ((i : Nat) : Int) :: _) rfl rfl ?_
      refine E_ald (e := i) (N := 4) (v := ((Sn (S i) : Nat) : Int)) rfl rfl (rfl) (by omega) (MR_136 hM) ?_
      refine E_add (v := ((40 * i + Sn (S i) : Nat) : Int)) rfl (by omega) (by omega) ?_
      refine E_s (p' := 42) (st' := aI ((ci : Nat) : Int) :: _) rfl rfl ?_
      refine E_ast (e := 40 * i + Sn (S i)) (N := 160) rfl rfl (rfl) (by omega) ?_
      refine E_s (p' := 44) (st' := aA 124 :: _) rfl rfl ?_
      refine E_gA (b := 138) rfl rfl rfl rfl rfl rfl ?_
      refine E_s (p' := 49) (st' := aI 40 :: _) rfl rfl ?_
      refine E_s (p' := 50) (st' := aI ((i : Nat) : Int) :: _) rfl rfl ?_
      refine E_mul (v := ((40 * i : Nat) : Int)) rfl (by omega) (by omega) ?_
      refine E_s (p' := 52) (st' := aA 124 :: _) rfl rfl ?_
      refine E_gA (b := 136) rfl rfl rfl rfl rfl rfl ?_
      refine E_s (p' := 56) (st' := aI ((i : Nat) : Int) :: _) rfl rfl ?_
      refine E_ald (e := i) (N := 4) (v := ((Sn (S i) : Nat) : Int)) rfl rfl (rfl) (by omega) ((up2_ne (by omega)).trans ((MR_136 hM))) ?_
      refine E_add (v := ((40 * i + Sn (S i) : Nat) : Int)) rfl (by omega) (by omega) ?_
      refine E_s (p' := 59) (st' := aI 0 :: _) rfl rfl ?_
      refine E_ast (e := 40 * i + Sn (S i)) (N := 160) rfl rfl (rfl) (by omega) ?_
      refine E_s (p' := 61) (st' := aA 124 :: _) rfl rfl ?_
      refine E_gA (b := 136) rfl rfl rfl rfl rfl rfl ?_
      refine E_s (p' := 65) (st' := aI ((i : Nat) : Int) :: _) rfl rfl ?_
      refine E_s (p' := 66) rfl rfl ?_
      refine E_ald (e := i) (N := 4) (v := ((Sn (S i) : Nat) : Int)) rfl rfl (rfl) (by omega) ((up2_ne (by omega)).trans ((up2_ne (by omega)).trans ((MR_136 hM)))) ?_
      refine E_s (p' := 68) (st' := aI 1 :: _) rfl rfl ?_
      refine E_add (v := ((Sn (S i) + 1 : Nat) : Int)) rfl (by omega) (by omega) ?_
      refine E_ast (e := i) (N := 4) rfl rfl (rfl) (by omega) ?_
      refine E_s (p' := 71) (st' := aA 124 :: _) rfl rfl ?_
      refine E_s (p' := 72) (st' := aI ((i : Nat) : Int) :: _) rfl rfl ?_
      refine E_callV (k' := 133) (a := 124) (r := []) (L0 := [some (aA 124), some (aI ((i : Nat) : Int))]) rfl rfl rfl rfl rfl rfl rfl rfl rfl rfl ?_
      refine m_changes (i := i) (by omega) ?_
      refine E_go (p' := 75) (L' := [some (aA 124), some (aI ((i : Nat) : Int)), some (aI ((ci : Nat) : Int))]) (st' := []) rfl rfl rfl ?_
      refine E_s (p' := 76) (st' := aA 124 :: _) rfl rfl ?_
      refine E_gA (b := 136) rfl rfl rfl rfl rfl rfl ?_
      refine E_s (p' := 80) (st' := aI ((i : Nat) : Int) :: _) rfl rfl ?_
      refine E_ald (e := i) (N := 4) (v := ((Sn (S i) + 1 : Nat) : Int)) rfl rfl (rfl) (by omega) ((up2_ne (by omega)).trans (up2_eq)) ?_
      refine E_s (p' := 82) (st' := aI 1 :: _) rfl rfl ?_
      refine E_sub (v := ((Sn (S i) : Nat) : Int)) rfl (by omega) (by omega) ?_
      refine E_ret rfl rfl ?_
      refine finMx hS hi rfl q (by unfold oSum; simp only [Int.toNat_natCast]; rw [cif_pos (by unfold inC; omega), cif_neg (by omega)]) (V_sm hV (by omega) (fun s hs => ?_) (fun s k hs hk => ?_)) (MR.sm hM ((up2_ne (by omega)).trans (up2_eq)) (fun s hs => ?_) (fun s k hs hk => ?_) (fun b j h1 h2 => ((up2_ne (by omega)).trans ((up2_ne (by omega)).trans ((up2_ne (by omega)).trans (up2_ne (by omega))))))) ((((Mx.rf.up (by unfold blk; omega)).up (by unfold blk; omega)).up (by unfold blk; omega)).up (by unfold blk; omega)) (fun b j hb => ((up2_ne (by omega)).trans ((up2_ne (by omega)).trans ((up2_ne (by omega)).trans (up2_ne (by omega))))))
      · by_cases g : s = Sn (S i)
        · subst g; rw [upf_eq, upf_eq]; exact ⟨hcc, by omega⟩
        · rw [upf_ne g, upf_ne g]; exact hV.2.2.2.2.2.1 s (by omega)
      · by_cases g : s = Sn (S i)
        · subst g; rw [upf_eq] at hk; omega
        · rw [upf_ne g] at hk; exact hV.2.2.2.2.2.2 s k (by omega) hk
      · by_cases g : s = Sn (S i)
        · subst g; rw [upf_eq, upf_eq]; exact ⟨((up2_ne (by omega)).trans ((up2_ne (by omega)).trans ((up2_ne (by omega)).trans (up2_eq)))), ((up2_ne (by omega)).trans ((up2_ne (by omega)).trans (up2_eq)))⟩
        · rw [upf_ne g, upf_ne g]
          exact ⟨((up2_o (by omega)).trans ((up2_o (by omega)).trans ((up2_o (by omega)).trans (up2_o (by omega))))).trans (MR_137 hM (by omega) rfl), ((up2_o (by omega)).trans ((up2_o (by omega)).trans ((up2_o (by omega)).trans (up2_o (by omega))))).trans (MR_138 hM (by omega) rfl)⟩
      · by_cases g : s = Sn (S i)
        · subst g; rw [upf_eq] at hk; omega
        · rw [upf_ne g] at hk
          exact ((up2_ne (by omega)).trans ((up2_ne (by omega)).trans ((up2_ne (by omega)).trans (up2_ne (by omega))))).trans (MR_139 hM (by omega) hk rfl)
    · refine E_go (p' := 23) (L' := [some (aA 124), some (aI ((i : Nat) : Int)), some (aI ((ci : Nat) : Int))]) (st' := []) rfl rfl rfl ?_
      refine E_s (p' := 25) (st' := aI (-3) :: _) rfl rfl ?_
      refine E_ret rfl rfl ?_
      exact finM_same hS hi rfl q (by unfold oSum; (try simp only [Int.toNat_natCast]); rw [cif_pos (by unfold inC; omega), cif_pos (by omega)]) hS (fun _ _ _ => rfl)
  · refine E_go (p' := 6) (L' := [some (aA 124), some (aI (r)), some (aI (c))]) (st' := [aI 0]) rfl rfl rfl ?_
    refine E_s (p' := 9) rfl rfl ?_
    refine E_s (p' := 11) (st' := aI (-2) :: _) rfl rfl ?_
    refine E_ret rfl rfl ?_
    rcases hno with hr | ⟨i, hi, hr, hno⟩
    · exact finM_out hS q hr
    · exact finM_same hS hi hr q (by unfold oSum; rw [cif_neg (hno)]) hS (fun _ _ _ => rfl)
theorem hld_up {R : RD} {s : Nat} {h : Int} : ∀ {n k : Nat}, k ≤ n → hld R s h k = true → hld R s h n = true := by
  intro n
  induction n with
  | zero => intro k hk e; rw [show k = 0 by omega] at e; exact e
  | succ n ih =>
    intro k hk e
    rcases Nat.lt_or_ge k (n + 1) with g | g
    · show (hld R s h n || _) = true
      rw [ih (by omega) e]; rfl
    · rw [show k = n + 1 by omega] at e; exact e
theorem yl_part {i sn ci : Nat} (hi : i < 4) {R : RD} (hM : MR R i m) (hV : VR R) (hs : sn < Sn R) (hk : hld R sn (ci : Int) (Sp R sn) = false → E 162 87 [some (aA 124), some (aI (i : Int)), some (aI (ci : Int)), some (aI ((40 * i + sn : Nat) : Int)), some (aI (Sp R sn : Int))] [] (m, tl len) Q) (q : hld R sn (ci : Int) (Sp R sn) = true → Q (some (aI (-2))) (m, tl len)) : ∀ (d : Nat) (k : Nat), (Sp R sn < k + d) → (k ≤ Sp R sn) → (hld R sn (ci : Int) k = false) → E 162 51 [some (aA 124), some (aI ((i : Nat) : Int)), some (aI ((ci : Nat) : Int)), some (aI ((40 * i + sn : Nat) : Int)), some (aI ((k : Nat) : Int))] [] (m, tl len) Q := by
  intro d
  induction d with
  | zero => intro k hd hj I0; omega
  | succ d ih =>
    intro k hd hj I0
    have hs40 := hV.2.2.2.2.1
    have hp12 := (hV.2.2.2.2.2.1 sn hs).2
    refine E_s (p' := 53) (st' := aI ((k : Nat) : Int) :: _) rfl rfl ?_
    refine E_s (p' := 54) (st' := aA 124 :: _) rfl rfl ?_
    refine E_gA (b := 138) rfl rfl rfl rfl rfl rfl ?_
    refine E_s (p' := 58) (st' := aI ((40 * i + sn : Nat) : Int) :: _) rfl rfl ?_
    refine E_ald (e := 40 * i + sn) (N := 160) (v := ((Sp R sn : Nat) : Int)) rfl rfl (rfl) (by omega) (MR_138 hM (by omega) (by omega)) ?_
    refine E_icmp_ge (x := ((k : Nat) : Int)) (y := ((Sp R sn : Nat) : Int)) rfl (by decide) (fun h_1 => ?_) (fun h_1 => ?_)
    · refine E_go (p' := 87) (L' := [some (aA 124), some (aI ((i : Nat) : Int)), some (aI ((ci : Nat) : Int)), some (aI ((40 * i + sn : Nat) : Int)), some (aI ((k : Nat) : Int))]) (st' := []) rfl rfl rfl ?_
      have ek : k = Sp R sn := by omega
      subst ek
      exact hk I0
    · refine E_go (p' := 62) (L' := [some (aA 124), some (aI ((i : Nat) : Int)), some (aI ((ci : Nat) : Int)), some (aI ((40 * i + sn : Nat) : Int)), some (aI ((k : Nat) : Int))]) (st' := []) rfl rfl rfl ?_
      refine E_s (p' := 63) (st' := aA 124 :: _) rfl rfl ?_
      refine E_gA (b := 139) rfl rfl rfl rfl rfl rfl ?_
      refine E_s (p' := 68) (st' := aI 12 :: _) rfl rfl ?_
      refine E_s (p' := 69) (st' := aI ((40 * i + sn : Nat) : Int) :: _) rfl rfl ?_
      refine E_mul (v := ((480 * i + 12 * sn : Nat) : Int)) rfl (by omega) (by omega) ?_
      refine E_s (p' := 72) (st' := aI ((k : Nat) : Int) :: _) rfl rfl ?_
      refine E_add (v := ((480 * i + 12 * sn + k : Nat) : Int)) rfl (by omega) (by omega) ?_
      refine E_ald (e := 480 * i + 12 * sn + k) (N := 1920) (v := ((Sq R sn k : Nat) : Int)) rfl rfl (rfl) (by omega) (MR_139 hM (by omega) (by omega) (by omega)) ?_
      refine E_s (p' := 75) (st' := aI ((ci : Nat) : Int) :: _) rfl rfl ?_
      refine E_icmp_ne (x := ((Sq R sn k : Nat) : Int)) (y := ((ci : Nat) : Int)) rfl (by decide) (fun h_2 => ?_) (fun h_2 => ?_)
      · refine E_go (p' := 81) (L' := [some (aA 124), some (aI ((i : Nat) : Int)), some (aI ((ci : Nat) : Int)), some (aI ((40 * i + sn : Nat) : Int)), some (aI ((k : Nat) : Int))]) (st' := []) rfl rfl rfl ?_
        refine E_inc (x := ((k : Nat) : Int)) (w := ((k + 1 : Nat) : Int)) (L' := [some (aA 124), some (aI ((i : Nat) : Int)), some (aI ((ci : Nat) : Int)), some (aI ((40 * i + sn : Nat) : Int)), some (aI ((k + 1 : Nat) : Int))]) rfl rfl rfl (by omega) (by omega) rfl ?_
        refine E_s (p' := 51) rfl rfl ?_
        exact ih (k + 1) (by omega) (by omega) (by show (hld R sn (ci : Int) k || _) = false; rw [I0]; simp; omega)
      · refine E_go (p' := 78) (L' := [some (aA 124), some (aI ((i : Nat) : Int)), some (aI ((ci : Nat) : Int)), some (aI ((40 * i + sn : Nat) : Int)), some (aI ((k : Nat) : Int))]) (st' := []) rfl rfl rfl ?_
        refine E_s (p' := 80) (st' := aI (-2) :: _) rfl rfl ?_
        refine E_ret rfl rfl ?_
        exact q (hld_up (k := k + 1) (by omega) (by simp [hld]; right; omega))
theorem M_part (hS : MS S m) (q : ∀ m1, MS (on1 S r (-2) (oPart c)).2 m1 → Co1 m m1 → Q (some (aI (on1 S r (-2) (oPart c)).1)) (m1, tl len)) : E 162 0 [some (aA 124), some (aI (r)), some (aI (c)), none, none] [] (m, tl len) Q := by
  refine E_s (p' := 1) (st' := aA 124 :: _) rfl rfl ?_
  refine E_s (p' := 2) (st' := aI (r) :: _) rfl rfl ?_
  refine E_s (p' := 3) (st' := aI (c) :: _) rfl rfl ?_
  refine E_callV (k' := 135) (a := 124) (r := []) (L0 := [some (aA 124), some (aI (r)), some (aI (c))]) rfl rfl rfl rfl rfl rfl rfl rfl rfl rfl ?_
  refine m_isCord hS (fun i ci hi hr hc hcc => ?_) (fun hno => ?_)
  · refine E_go (p' := 6) (L' := [some (aA 124), some (aI (r)), some (aI (c)), none, none]) (st' := [aI 1]) rfl rfl rfl ?_
    obtain ⟨hV, hM⟩ := hS i hi
    have hn60 := hV.1
    have hs40 := hV.2.2.2.2.1
    subst hr hc
    refine E_s (p' := 9) rfl rfl ?_
    refine E_s (p' := 10) (st' := aA 124 :: _) rfl rfl ?_
    refine E_gA (b := 136) rfl rfl rfl rfl rfl rfl ?_
    refine E_s (p' := 14) (st' := aI ((i : Nat) : Int) :: _) rfl rfl ?_
    refine E_ald (e := i) (N := 4) (v := ((Sn (S i) : Nat) : Int)) rfl rfl (rfl) (by omega) (MR_136 hM) ?_
    refine E_if_ne (x := ((Sn (S i) : Nat) : Int)) rfl (by decide) (fun h_1 => ?_) (fun h_1 => ?_)
    · refine E_go (p' := 21) (L' := [some (aA 124), some (aI ((i : Nat) : Int)), some (aI ((ci : Nat) : Int)), none, none]) (st' := []) rfl rfl rfl ?_
      refine E_s (p' := 23) (st' := aI 40 :: _) rfl rfl ?_
      refine E_s (p' := 24) (st' := aI ((i : Nat) : Int) :: _) rfl rfl ?_
      refine E_mul (v := ((40 * i : Nat) : Int)) rfl (by omega) (by omega) ?_
      refine E_s (p' := 26) (st' := aA 124 :: _) rfl rfl ?_
      refine E_gA (b := 136) rfl rfl rfl rfl rfl rfl ?_
      refine E_s (p' := 30) (st' := aI ((i : Nat) : Int) :: _) rfl rfl ?_
      refine E_ald (e := i) (N := 4) (v := ((Sn (S i) : Nat) : Int)) rfl rfl (rfl) (by omega) (MR_136 hM) ?_
      refine E_add (v := ((40 * i + Sn (S i) : Nat) : Int)) rfl (by omega) (by omega) ?_
      refine E_s (p' := 33) (st' := aI 1 :: _) rfl rfl ?_
      refine E_sub (v := (40 * (i : Int) + (Sn (S i) : Int) - 1)) rfl (by omega) (by omega) ?_
      refine E_s (p' := 35) (L' := [some (aA 124), some (aI ((i : Nat) : Int)), some (aI ((ci : Nat) : Int)), some (aI (40 * (i : Int) + (Sn (S i) : Int) - 1)), none]) rfl rfl ?_
      obtain ⟨sn, es⟩ : ∃ x, Sn (S i) = x + 1 := ⟨Sn (S i) - 1, by omega⟩
      have hp12 := (hV.2.2.2.2.2.1 sn (by omega)).2
      rw [show (40 * (i : Int) + (Sn (S i) : Int) - 1) = ((40 * i + sn : Nat) : Int) by omega]
      refine E_s (p' := 36) (st' := aA 124 :: _) rfl rfl ?_
      refine E_gA (b := 137) rfl rfl rfl rfl rfl rfl ?_
      refine E_s (p' := 40) (st' := aI ((40 * i + sn : Nat) : Int) :: _) rfl rfl ?_
      refine E_ald (e := 40 * i + sn) (N := 160) (v := ((Sw (S i) sn : Nat) : Int)) rfl rfl (rfl) (by omega) (MR_137 hM (by omega) (by omega)) ?_
      refine E_s (p' := 42) (st' := aI ((ci : Nat) : Int) :: _) rfl rfl ?_
      refine E_icmp_ne (x := ((Sw (S i) sn : Nat) : Int)) (y := ((ci : Nat) : Int)) rfl (by decide) (fun h_2 => ?_) (fun h_2 => ?_)
      · refine E_go (p' := 48) (L' := [some (aA 124), some (aI ((i : Nat) : Int)), some (aI ((ci : Nat) : Int)), some (aI ((40 * i + sn : Nat) : Int)), none]) (st' := []) rfl rfl rfl ?_
        refine E_s (p' := 49) (st' := aI 0 :: _) rfl rfl ?_
        refine E_s (p' := 51) (L' := [some (aA 124), some (aI ((i : Nat) : Int)), some (aI ((ci : Nat) : Int)), some (aI ((40 * i + sn : Nat) : Int)), some (aI 0)]) rfl rfl ?_
        refine yl_part hi hM hV (by omega) (fun hfl => ?_) (fun htr => ?_) (Sp (S i) sn + 1) 0 (by omega) (by omega) (by simp [hld]; omega)
        rotate_left
        · exact finM_same hS hi rfl q (by unfold oPart; rw [show Sn (S i) - 1 = sn by omega, cif_neg (fun g9 => absurd g9.2.2 (by rw [htr]; decide))]) hS (fun _ _ _ => rfl)
        refine E_s (p' := 88) (st' := aA 124 :: _) rfl rfl ?_
        refine E_gA (b := 138) rfl rfl rfl rfl rfl rfl ?_
        refine E_s (p' := 92) (st' := aI ((40 * i + sn : Nat) : Int) :: _) rfl rfl ?_
        refine E_ald (e := 40 * i + sn) (N := 160) (v := ((Sp (S i) sn : Nat) : Int)) rfl rfl (rfl) (by omega) (MR_138 hM (by omega) (by omega)) ?_
        refine E_s (p' := 95) (st' := aI 12 :: _) rfl rfl ?_
        refine E_icmp_ne (x := ((Sp (S i) sn : Nat) : Int)) (y := 12) rfl (by decide) (fun h_3 => ?_) (fun h_3 => ?_)
        · refine E_go (p' := 101) (L' := [some (aA 124), some (aI ((i : Nat) : Int)), some (aI ((ci : Nat) : Int)), some (aI ((40 * i + sn : Nat) : Int)), some (aI ((Sp (S i) sn : Nat) : Int))]) (st' := []) rfl rfl rfl ?_
          refine E_s (p' := 102) (st' := aA 124 :: _) rfl rfl ?_
          refine E_gA (b := 139) rfl rfl rfl rfl rfl rfl ?_
          refine E_s (p' := 107) (st' := aI 12 :: _) rfl rfl ?_
          refine E_s (p' := 108) (st' := aI ((40 * i + sn : Nat) : Int) :: _) rfl rfl ?_
          refine E_mul (v := ((480 * i + 12 * sn : Nat) : Int)) rfl (by omega) (by omega) ?_
          refine E_s (p' := 110) (st' := aA 124 :: _) rfl rfl ?_
          refine E_gA (b := 138) rfl rfl rfl rfl rfl rfl ?_
          refine E_s (p' := 114) (st' := aI ((40 * i + sn : Nat) : Int) :: _) rfl rfl ?_
          refine E_ald (e := 40 * i + sn) (N := 160) (v := ((Sp (S i) sn : Nat) : Int)) rfl rfl (rfl) (by omega) (MR_138 hM (by omega) (by omega)) ?_
          refine E_add (v := ((480 * i + 12 * sn + Sp (S i) sn : Nat) : Int)) rfl (by omega) (by omega) ?_
          refine E_s (p' := 117) (st' := aI ((ci : Nat) : Int) :: _) rfl rfl ?_
          refine E_ast (e := 480 * i + 12 * sn + Sp (S i) sn) (N := 1920) rfl rfl (rfl) (by omega) ?_
          refine E_s (p' := 119) (st' := aA 124 :: _) rfl rfl ?_
          refine E_gA (b := 138) rfl rfl rfl rfl rfl rfl ?_
          refine E_s (p' := 123) (st' := aI ((40 * i + sn : Nat) : Int) :: _) rfl rfl ?_
          refine E_s (p' := 124) rfl rfl ?_
          refine E_ald (e := 40 * i + sn) (N := 160) (v := ((Sp (S i) sn : Nat) : Int)) rfl rfl (rfl) (by omega) ((up2_ne (by omega)).trans ((MR_138 hM (by omega) (by omega)))) ?_
          refine E_s (p' := 126) (st' := aI 1 :: _) rfl rfl ?_
          refine E_add (v := ((Sp (S i) sn + 1 : Nat) : Int)) rfl (by omega) (by omega) ?_
          refine E_ast (e := 40 * i + sn) (N := 160) rfl rfl (rfl) (by omega) ?_
          refine E_s (p' := 129) (st' := aA 124 :: _) rfl rfl ?_
          refine E_s (p' := 130) (st' := aI ((i : Nat) : Int) :: _) rfl rfl ?_
          refine E_callV (k' := 133) (a := 124) (r := []) (L0 := [some (aA 124), some (aI ((i : Nat) : Int))]) rfl rfl rfl rfl rfl rfl rfl rfl rfl rfl ?_
          refine m_changes (i := i) (by omega) ?_
          refine E_go (p' := 133) (L' := [some (aA 124), some (aI ((i : Nat) : Int)), some (aI ((ci : Nat) : Int)), some (aI ((40 * i + sn : Nat) : Int)), some (aI ((Sp (S i) sn : Nat) : Int))]) (st' := []) rfl rfl rfl ?_
          refine E_s (p' := 134) (st' := aA 124 :: _) rfl rfl ?_
          refine E_gA (b := 138) rfl rfl rfl rfl rfl rfl ?_
          refine E_s (p' := 138) (st' := aI ((40 * i + sn : Nat) : Int) :: _) rfl rfl ?_
          refine E_ald (e := 40 * i + sn) (N := 160) (v := ((Sp (S i) sn + 1 : Nat) : Int)) rfl rfl (rfl) (by omega) ((up2_ne (by omega)).trans (up2_eq)) ?_
          refine E_ret rfl rfl ?_
          refine finMx hS hi rfl q (by unfold oPart; simp only [Int.toNat_natCast]; rw [show Sn (S i) - 1 = sn by omega, cif_pos ⟨by unfold inC; omega, by omega, hfl⟩, cif_neg (by omega)]) (V_sm hV (by omega) (fun t ht => ?_) (fun t k ht hk => ?_)) (MR.sm hM (((up2_ne (by omega)).trans ((up2_ne (by omega)).trans (up2_ne (by omega)))).trans (MR_136 hM)) (fun t ht => ?_) (fun t k ht hk => ?_) (fun b j h1 h2 => ((up2_ne (by omega)).trans ((up2_ne (by omega)).trans (up2_ne (by omega)))))) (((Mx.rf.up (by unfold blk; omega)).up (by unfold blk; omega)).up (by unfold blk; omega)) (fun b j hb => ((up2_ne (by omega)).trans ((up2_ne (by omega)).trans (up2_ne (by omega)))))
          · refine ⟨(hV.2.2.2.2.2.1 t ht).1, ?_⟩
            by_cases g : t = sn
            · subst g; rw [upf_eq]; omega
            · rw [upf_ne g]; exact (hV.2.2.2.2.2.1 t ht).2
          · by_cases g : t = sn
            · subst g
              rw [upf_eq] at hk
              rw [upf_eq]
              by_cases g2 : k = Sp (S i) t
              · subst g2; rw [upf_eq]; exact hcc
              · rw [upf_ne g2]; exact hV.2.2.2.2.2.2 t k ht (by omega)
            · rw [upf_ne g] at hk
              rw [upf_ne g]; exact hV.2.2.2.2.2.2 t k ht hk
          · refine ⟨((up2_ne (by omega)).trans ((up2_ne (by omega)).trans (up2_ne (by omega)))).trans (MR_137 hM ht rfl), ?_⟩
            by_cases g : t = sn
            · subst g; rw [upf_eq]; exact ((up2_ne (by omega)).trans (up2_eq))
            · rw [upf_ne g]; exact ((up2_o (by omega)).trans ((up2_o (by omega)).trans (up2_o (by omega)))).trans (MR_138 hM ht rfl)
          · by_cases g : t = sn
            · subst g
              rw [upf_eq] at hk
              rw [upf_eq]
              by_cases g2 : k = Sp (S i) t
              · subst g2; rw [upf_eq]; exact ((up2_ne (by omega)).trans ((up2_ne (by omega)).trans (up2_eq)))
              · rw [upf_ne g2]; exact ((up2_o (by omega)).trans ((up2_o (by omega)).trans (up2_o (by omega)))).trans (MR_139 hM ht (by omega) rfl)
            · rw [upf_ne g] at hk
              rw [upf_ne g]
              have := (hV.2.2.2.2.2.1 t ht).2
              exact ((up2_o (by omega)).trans ((up2_o (by omega)).trans (up2_o (by omega)))).trans (MR_139 hM ht hk rfl)
        · refine E_go (p' := 98) (L' := [some (aA 124), some (aI ((i : Nat) : Int)), some (aI ((ci : Nat) : Int)), some (aI ((40 * i + sn : Nat) : Int)), some (aI ((Sp (S i) sn : Nat) : Int))]) (st' := []) rfl rfl rfl ?_
          refine E_s (p' := 100) (st' := aI (-3) :: _) rfl rfl ?_
          refine E_ret rfl rfl ?_
          exact finM_same hS hi rfl q (by unfold oPart; simp only [Int.toNat_natCast]; rw [show Sn (S i) - 1 = sn by omega, cif_pos ⟨by unfold inC; omega, by omega, hfl⟩, cif_pos (by omega)]) hS (fun _ _ _ => rfl)
      · refine E_go (p' := 45) (L' := [some (aA 124), some (aI ((i : Nat) : Int)), some (aI ((ci : Nat) : Int)), some (aI ((40 * i + sn : Nat) : Int)), none]) (st' := []) rfl rfl rfl ?_
        refine E_s (p' := 47) (st' := aI (-2) :: _) rfl rfl ?_
        refine E_ret rfl rfl ?_
        exact finM_same hS hi rfl q (by unfold oPart; rw [show Sn (S i) - 1 = sn by omega, cif_neg (fun g9 => absurd g9.2.2 (by rw [hld_up (k := 0) (Nat.zero_le _) (by simp [hld]; omega)]; decide))]) hS (fun _ _ _ => rfl)
    · refine E_go (p' := 18) (L' := [some (aA 124), some (aI ((i : Nat) : Int)), some (aI ((ci : Nat) : Int)), none, none]) (st' := []) rfl rfl rfl ?_
      refine E_s (p' := 20) (st' := aI (-2) :: _) rfl rfl ?_
      refine E_ret rfl rfl ?_
      exact finM_same hS hi rfl q (by unfold oPart; rw [cif_neg (by omega)]) hS (fun _ _ _ => rfl)
  · refine E_go (p' := 6) (L' := [some (aA 124), some (aI (r)), some (aI (c)), none, none]) (st' := [aI 0]) rfl rfl rfl ?_
    refine E_s (p' := 18) rfl rfl ?_
    refine E_s (p' := 20) (st' := aI (-2) :: _) rfl rfl ?_
    refine E_ret rfl rfl ?_
    rcases hno with hr | ⟨i, hi, hr, hno⟩
    · exact finM_out hS q hr
    · exact finM_same hS hi hr q (by unfold oPart; rw [cif_neg (fun g9 => hno g9.1)]) hS (fun _ _ _ => rfl)
end

section
variable {len : Nat} {m : Mm} {Q : Option AV → Sx → Prop} {S : Nat → RD} {r c l g o h s t : Int}
theorem C_part (hS : CS S m) (q : ∀ m1, CS (on1 S r (-2) (oPart c)).2 m1 → Mo m m1 → Q (some (aI (on1 S r (-2) (oPart c)).1)) (m1, tl len)) : E 77 0 [some (aA 1), some (aI (r)), some (aI (c)), none, none] [] (m, tl len) Q := by
  refine E_s (p' := 1) (st' := aA 1 :: _) rfl rfl ?_
  refine E_s (p' := 2) (st' := aI (r) :: _) rfl rfl ?_
  refine E_callV (k' := 12) (a := 1) (r := []) (L0 := [some (aA 1), some (aI (r))]) rfl rfl rfl rfl rfl rfl rfl rfl rfl rfl ?_
  refine c_recordOf' (fun i a hi hr ha hR => ?_) (fun hr => ?_)
  · refine E_go (p' := 5) (L' := [some (aA 1), some (aI (r)), some (aI (c)), none, none]) (st' := [aA a]) rfl rfl rfl ?_
    obtain ⟨hV, hC, hrd⟩ := hS i hi
    rw [← ha] at hC hrd
    have hn60 := hV.1
    have hab := isR_b hR
    have hs40 := hV.2.2.2.2.1
    refine E_s (p' := 6) (L' := [some (aA 1), some (aI (r)), some (aI (c)), some (aA a), none]) rfl rfl ?_
    refine E_s (p' := 7) (st' := aA a :: _) rfl rfl ?_
    refine E_s (p' := 10) rfl rfl ?_
    refine E_s (p' := 11) (st' := aA a :: _) rfl rfl ?_
    refine E_gA (b := a + 1) rfl rfl rfl (kR_0 hR) (hR_0_0 hR) rfl ?_
    refine E_s (p' := 15) (st' := aI (c) :: _) rfl rfl ?_
    refine E_callV (k' := 17) (a := a + 1) (r := []) (L0 := [some (aA (a + 1)), some (aI (c))]) rfl rfl rfl rfl rfl (kR_1 hR) rfl rfl rfl rfl ?_
    refine c_has hR hC (fun ci he_ci hc_ci => ?_) (fun hno => ?_)
    · refine E_go (p' := 18) (L' := [some (aA 1), some (aI (r)), some (aI (c)), some (aA a), none]) (st' := [aI 1]) rfl rfl rfl ?_
      subst he_ci
      refine E_s (p' := 21) rfl rfl ?_
      refine E_s (p' := 22) (st' := aA a :: _) rfl rfl ?_
      refine E_gA (b := a + 9) rfl rfl rfl (kR_0 hR) (hR_0_1 hR) rfl ?_
      refine E_gI (v := ((Sn (S i) : Nat) : Int)) rfl rfl rfl (kR_9 hR) (CRS hC) ?_
      refine E_if_ne (x := ((Sn (S i) : Nat) : Int)) rfl (by decide) (fun h_1 => ?_) (fun h_1 => ?_)
      · refine E_go (p' := 34) (L' := [some (aA 1), some (aI (r)), some (aI ((ci : Nat) : Int)), some (aA a), none]) (st' := []) rfl rfl rfl ?_
        refine E_s (p' := 35) (st' := aA a :: _) rfl rfl ?_
        refine E_gA (b := a + 9) rfl rfl rfl (kR_0 hR) (hR_0_1 hR) rfl ?_
        refine E_gI (v := ((Sn (S i) : Nat) : Int)) rfl rfl rfl (kR_9 hR) (CRS hC) ?_
        refine E_s (p' := 42) (st' := aI 1 :: _) rfl rfl ?_
        refine E_sub (v := ((Sn (S i) : Int) - 1)) rfl (by omega) (by omega) ?_
        refine E_s (p' := 45) (L' := [some (aA 1), some (aI (r)), some (aI ((ci : Nat) : Int)), some (aA a), some (aI ((Sn (S i) : Int) - 1))]) rfl rfl ?_
        obtain ⟨sn, es⟩ : ∃ x, Sn (S i) = x + 1 := ⟨Sn (S i) - 1, by omega⟩
        have hp12 := (hV.2.2.2.2.2.1 sn (by omega)).2
        rw [show ((Sn (S i) : Int) - 1) = ((sn : Nat) : Int) by omega]
        refine E_s (p' := 46) (st' := aA a :: _) rfl rfl ?_
        refine E_gA (b := a + 9) rfl rfl rfl (kR_0 hR) (hR_0_1 hR) rfl ?_
        refine E_s (p' := 51) (st' := aI ((sn : Nat) : Int) :: _) rfl rfl ?_
        refine E_s (p' := 52) (st' := aI ((ci : Nat) : Int) :: _) rfl rfl ?_
        refine E_callV (k' := 78) (a := a + 9) (r := []) (L0 := [some (aA (a + 9)), some (aI ((sn : Nat) : Int)), some (aI ((ci : Nat) : Int)), none, none]) rfl rfl rfl rfl rfl (kR_9 hR) rfl rfl rfl rfl ?_
        refine c_holds hR hC hV (s := sn) (by omega) ?_
        refine E_go (p' := 55) (L' := [some (aA 1), some (aI (r)), some (aI ((ci : Nat) : Int)), some (aA a), some (aI ((sn : Nat) : Int))]) (st' := [aI (bi (hld (S i) sn ((ci : Nat) : Int) (Sp (S i) sn)))]) rfl rfl rfl ?_
        refine E_b_eq0 (b := (hld (S i) sn ((ci : Nat) : Int) (Sp (S i) sn))) rfl (by decide) (fun h_2 => ?_) (fun h_2 => ?_)
        · refine E_go (p' := 61) (L' := [some (aA 1), some (aI (r)), some (aI ((ci : Nat) : Int)), some (aA a), some (aI ((sn : Nat) : Int))]) (st' := []) rfl rfl rfl ?_
          refine E_s (p' := 62) (st' := aA a :: _) rfl rfl ?_
          refine E_gA (b := a + 9) rfl rfl rfl (kR_0 hR) (hR_0_1 hR) rfl ?_
          refine E_gA (b := a + 11) rfl rfl rfl (kR_9 hR) (hR_9_1 hR) rfl ?_
          refine E_s (p' := 70) (st' := aI ((sn : Nat) : Int) :: _) rfl rfl ?_
          refine E_ald (e := sn) (N := 40) (v := ((Sp (S i) sn : Nat) : Int)) rfl (kR_11 hR) (rfl) (by omega) (CR_11 hC (by omega)) ?_
          refine E_s (p' := 73) (st' := aI 12 :: _) rfl rfl ?_
          refine E_icmp_lt (x := ((Sp (S i) sn : Nat) : Int)) (y := 12) rfl (by decide) (fun h_3 => ?_) (fun h_3 => ?_)
          · refine E_go (p' := 79) (L' := [some (aA 1), some (aI (r)), some (aI ((ci : Nat) : Int)), some (aA a), some (aI ((sn : Nat) : Int))]) (st' := []) rfl rfl rfl ?_
            refine E_s (p' := 80) (st' := aA a :: _) rfl rfl ?_
            refine E_gA (b := a + 9) rfl rfl rfl (kR_0 hR) (hR_0_1 hR) rfl ?_
            refine E_s (p' := 85) (st' := aI ((sn : Nat) : Int) :: _) rfl rfl ?_
            refine E_s (p' := 86) (st' := aI ((ci : Nat) : Int) :: _) rfl rfl ?_
            refine E_callV (k' := 80) (a := a + 9) (r := []) (L0 := [some (aA (a + 9)), some (aI ((sn : Nat) : Int)), some (aI ((ci : Nat) : Int))]) rfl rfl rfl rfl rfl (kR_9 hR) rfl rfl rfl rfl ?_
            refine c_addPart hR hC hV (s := sn) (by omega) (by omega) (fun m1 hC1 hF1 => ?_)
            refine E_go (p' := 89) (L' := [some (aA 1), some (aI (r)), some (aI ((ci : Nat) : Int)), some (aA a), some (aI ((sn : Nat) : Int))]) (st' := []) rfl rfl rfl ?_
            refine E_s (p' := 90) (st' := aA a :: _) rfl rfl ?_
            refine E_callV (k' := 15) (a := a) (r := []) (L0 := [some (aA a)]) rfl rfl rfl rfl rfl (kR_0 hR) rfl rfl rfl rfl ?_
            refine c_changed hR ?_
            refine E_go (p' := 93) (L' := [some (aA 1), some (aI (r)), some (aI ((ci : Nat) : Int)), some (aA a), some (aI ((sn : Nat) : Int))]) (st' := []) rfl rfl rfl ?_
            refine E_s (p' := 94) (st' := aA a :: _) rfl rfl ?_
            refine E_gA (b := a + 9) rfl rfl rfl (kR_0 hR) (hR_0_1 hR) rfl ?_
            refine E_gA (b := a + 11) rfl rfl rfl (kR_9 hR) (hR_9_1 hR) rfl ?_
            refine E_s (p' := 102) (st' := aI ((sn : Nat) : Int) :: _) rfl rfl ?_
            refine E_ald (e := sn) (N := 40) (v := ((Sp (S i) sn + 1 : Nat) : Int)) rfl (kR_11 hR) (rfl) (by omega) ((up2_ne (by omega)).trans ((up2_ne (by omega)).trans (((CR_11 hC1 (show sn < Sn (S i) by omega)).trans (by show ((upf (Sp (S i)) sn (Sp (S i) sn + 1) sn : Nat) : Int) = _; rw [upf_eq]))))) ?_
            refine E_ret rfl rfl ?_
            refine fin_in hS hi hr ha q (by unfold oPart; simp only [Int.toNat_natCast]; rw [show Sn (S i) - 1 = sn by omega, cif_pos ⟨by unfold inC; omega, by omega, by assumption⟩, cif_neg (by omega)]) ⟨V_sm hV (by omega) (fun t ht => ?_) (fun t k ht hk => ?_), hC1.of (fun b j g1 g2 g3 => (up2_o (by omega)).trans (up2_o (by omega))), Or.inl ((up2_sl (by decide)).trans up2_eq)⟩ (fun b j hb => (up2_ne (by omega)).trans ((up2_ne (by omega)).trans (hF1 _ _ (by omega))))
            · refine ⟨(hV.2.2.2.2.2.1 t ht).1, ?_⟩
              by_cases g : t = sn
              · subst g; rw [upf_eq]; omega
              · rw [upf_ne g]; exact (hV.2.2.2.2.2.1 t ht).2
            · by_cases g : t = sn
              · subst g
                rw [upf_eq] at hk
                rw [upf_eq]
                by_cases g2 : k = Sp (S i) t
                · subst g2; rw [upf_eq]; exact hc_ci
                · rw [upf_ne g2]; exact hV.2.2.2.2.2.2 t k ht (by omega)
              · rw [upf_ne g] at hk
                rw [upf_ne g]; exact hV.2.2.2.2.2.2 t k ht hk
          · refine E_go (p' := 76) (L' := [some (aA 1), some (aI (r)), some (aI ((ci : Nat) : Int)), some (aA a), some (aI ((sn : Nat) : Int))]) (st' := []) rfl rfl rfl ?_
            refine E_s (p' := 78) (st' := aI (-3) :: _) rfl rfl ?_
            refine E_ret rfl rfl ?_
            exact fin_same hS hi hr q (by unfold oPart; simp only [Int.toNat_natCast]; rw [show Sn (S i) - 1 = sn by omega, cif_pos ⟨by unfold inC; omega, by omega, by assumption⟩, cif_pos (by omega)])
        · refine E_go (p' := 58) (L' := [some (aA 1), some (aI (r)), some (aI ((ci : Nat) : Int)), some (aA a), some (aI ((sn : Nat) : Int))]) (st' := []) rfl rfl rfl ?_
          refine E_s (p' := 60) (st' := aI (-2) :: _) rfl rfl ?_
          refine E_ret rfl rfl ?_
          exact fin_same hS hi hr q (by unfold oPart; rw [show Sn (S i) - 1 = sn by omega, cif_neg (fun g9 => absurd g9.2.2 (by rw [show hld (S i) sn ((ci : Nat) : Int) (Sp (S i) sn) = true by assumption]; decide))])
      · refine E_go (p' := 31) (L' := [some (aA 1), some (aI (r)), some (aI ((ci : Nat) : Int)), some (aA a), none]) (st' := []) rfl rfl rfl ?_
        refine E_s (p' := 33) (st' := aI (-2) :: _) rfl rfl ?_
        refine E_ret rfl rfl ?_
        exact fin_same hS hi hr q (by unfold oPart; rw [cif_neg (by unfold inC; omega)])
    · refine E_go (p' := 18) (L' := [some (aA 1), some (aI (r)), some (aI (c)), some (aA a), none]) (st' := [aI 0]) rfl rfl rfl ?_
      refine E_s (p' := 31) rfl rfl ?_
      refine E_s (p' := 33) (st' := aI (-2) :: _) rfl rfl ?_
      refine E_ret rfl rfl ?_
      exact fin_same hS hi hr q (by unfold oPart; rw [cif_neg (by unfold inC; omega)])
  · refine E_go (p' := 5) (L' := [some (aA 1), some (aI (r)), some (aI (c)), none, none]) (st' := [aN]) rfl rfl rfl ?_
    refine E_s (p' := 6) (L' := [some (aA 1), some (aI (r)), some (aI (c)), some (aN), none]) rfl rfl ?_
    refine E_s (p' := 7) (st' := aN :: _) rfl rfl ?_
    refine E_s (p' := 31) rfl rfl ?_
    refine E_s (p' := 33) (st' := aI (-2) :: _) rfl rfl ?_
    refine E_ret rfl rfl ?_
    exact fin_out hS q hr
/-- what copy answers, and the RECORDS behind it; where nothing was unlike they may stand as they were -/
def spCopy (S : Nat → RD) (r t v : Int) (S' : Nat → RD) : Prop := (∃ i k : Nat, i < 4 ∧ k < 4 ∧ r = i ∧ t = k ∧ v = (Cn (S i) : Int) ∧ (S' = upf S k (S i) ∨ (S' = S ∧ agr (S i) (S k)))) ∨ (((r < 0 ∨ 3 < r) ∨ (t < 0 ∨ 3 < t)) ∧ v = -2 ∧ S' = S)
theorem C_copy (hS : CS S m) (q : ∀ (v : Int) (S9 : Nat → RD) (m1 : Mm), spCopy S r t v S9 → CS S9 m1 → Mo m m1 → Q (some (aI v)) (m1, tl len)) : E 62 0 [some (aA 1), some (aI (r)), some (aI (t)), none, none] [] (m, tl len) Q := by
  refine E_s (p' := 1) (st' := aA 1 :: _) rfl rfl ?_
  refine E_s (p' := 2) (st' := aI (r) :: _) rfl rfl ?_
  refine E_callV (k' := 12) (a := 1) (r := []) (L0 := [some (aA 1), some (aI (r))]) rfl rfl rfl rfl rfl rfl rfl rfl rfl rfl ?_
  refine c_recordOf' (fun i l9 hi hr hal hL => ?_) (fun hr => ?_)
  · refine E_go (p' := 5) (L' := [some (aA 1), some (aI (r)), some (aI (t)), none, none]) (st' := [aA l9]) rfl rfl rfl ?_
    obtain ⟨hV, hC, -⟩ := hS i hi
    rw [← hal] at hC
    have hn60 := hV.1
    refine E_s (p' := 6) (L' := [some (aA 1), some (aI (r)), some (aI (t)), some (aA l9), none]) rfl rfl ?_
    refine E_s (p' := 7) (st' := aA 1 :: _) rfl rfl ?_
    refine E_s (p' := 8) (st' := aI (t) :: _) rfl rfl ?_
    refine E_callV (k' := 12) (a := 1) (r := []) (L0 := [some (aA 1), some (aI (t))]) rfl rfl rfl rfl rfl rfl rfl rfl rfl rfl ?_
    refine c_recordOf' (fun k a hk ht ha hR => ?_) (fun ht => ?_)
    · refine E_go (p' := 11) (L' := [some (aA 1), some (aI (r)), some (aI (t)), some (aA l9), none]) (st' := [aA a]) rfl rfl rfl ?_
      obtain ⟨hV2, hC2, hrd2⟩ := hS k hk
      rw [← ha] at hC2 hrd2
      have hab := isR_b hR
      refine E_s (p' := 13) (L' := [some (aA 1), some (aI (r)), some (aI (t)), some (aA l9), some (aA a)]) rfl rfl ?_
      refine E_s (p' := 14) (st' := aA l9 :: _) rfl rfl ?_
      refine E_s (p' := 17) rfl rfl ?_
      refine E_s (p' := 19) (st' := aA a :: _) rfl rfl ?_
      refine E_s (p' := 25) rfl rfl ?_
      refine E_s (p' := 27) (st' := aA a :: _) rfl rfl ?_
      refine E_s (p' := 28) (st' := aA l9 :: _) rfl rfl ?_
      refine E_callV (k' := 63) (a := a) (r := []) (L0 := [some (aA a), some (aA l9), none]) rfl rfl rfl rfl rfl (kR_0 hR) rfl rfl rfl rfl ?_
      refine c_becomeLike hR hL hC hV (fun hCa => ?_) (fun m1 hCa h71 hF1 => ?_)
      · refine E_go (p' := 31) (L' := [some (aA 1), some (aI (r)), some (aI (t)), some (aA l9), some (aA a)]) (st' := []) rfl rfl rfl ?_
        refine E_s (p' := 33) (st' := aA a :: _) rfl rfl ?_
        refine E_gA (b := a + 1) rfl rfl rfl (kR_0 hR) (hR_0_0 hR) rfl ?_
        refine E_gI (v := ((Cn (S i) : Nat) : Int)) rfl rfl rfl (kR_1 hR) hCa.1 ?_
        refine E_ret rfl rfl ?_
        exact q _ S m (Or.inl ⟨i, k, hi, hk, hr, ht, rfl, Or.inr ⟨rfl, hCa.agr hC2⟩⟩) hS (fun _ _ _ => rfl)
      · refine E_go (p' := 31) (L' := [some (aA 1), some (aI (r)), some (aI (t)), some (aA l9), some (aA a)]) (st' := []) rfl rfl rfl ?_
        refine E_s (p' := 33) (st' := aA a :: _) rfl rfl ?_
        refine E_gA (b := a + 1) rfl rfl rfl (kR_0 hR) (hR_0_0 hR) rfl ?_
        refine E_gI (v := ((Cn (S i) : Nat) : Int)) rfl rfl rfl (kR_1 hR) hCa.1 ?_
        refine E_ret rfl rfl ?_
        exact q _ _ m1 (Or.inl ⟨i, k, hi, hk, hr, ht, rfl, Or.inl rfl⟩) (hS.set hk ha ⟨hV, hCa, Or.inl h71⟩ (fun b j hb => hF1 b j (by omega))) (fun b j hb => hF1 b j (by omega))
    · refine E_go (p' := 11) (L' := [some (aA 1), some (aI (r)), some (aI (t)), some (aA l9), none]) (st' := [aN]) rfl rfl rfl ?_
      refine E_s (p' := 13) (L' := [some (aA 1), some (aI (r)), some (aI (t)), some (aA l9), some (aN)]) rfl rfl ?_
      refine E_s (p' := 14) (st' := aA l9 :: _) rfl rfl ?_
      refine E_s (p' := 17) rfl rfl ?_
      refine E_s (p' := 19) (st' := aN :: _) rfl rfl ?_
      refine E_s (p' := 22) rfl rfl ?_
      refine E_s (p' := 24) (st' := aI (-2) :: _) rfl rfl ?_
      refine E_ret rfl rfl ?_
      exact q _ S m (Or.inr ⟨(by omega), rfl, rfl⟩) hS (fun _ _ _ => rfl)
  · refine E_go (p' := 5) (L' := [some (aA 1), some (aI (r)), some (aI (t)), none, none]) (st' := [aN]) rfl rfl rfl ?_
    refine E_s (p' := 6) (L' := [some (aA 1), some (aI (r)), some (aI (t)), some (aN), none]) rfl rfl ?_
    refine E_s (p' := 7) (st' := aA 1 :: _) rfl rfl ?_
    refine E_s (p' := 8) (st' := aI (t) :: _) rfl rfl ?_
    refine E_callV (k' := 12) (a := 1) (r := []) (L0 := [some (aA 1), some (aI (t))]) rfl rfl rfl rfl rfl rfl rfl rfl rfl rfl ?_
    refine c_recordOf' (fun k a hk ht ha hR => ?_) (fun ht => ?_)
    · refine E_go (p' := 11) (L' := [some (aA 1), some (aI (r)), some (aI (t)), some (aN), none]) (st' := [aA a]) rfl rfl rfl ?_
      obtain ⟨hV2, hC2, hrd2⟩ := hS k hk
      rw [← ha] at hC2 hrd2
      have hab := isR_b hR
      refine E_s (p' := 13) (L' := [some (aA 1), some (aI (r)), some (aI (t)), some (aN), some (aA a)]) rfl rfl ?_
      refine E_s (p' := 14) (st' := aN :: _) rfl rfl ?_
      refine E_s (p' := 22) rfl rfl ?_
      refine E_s (p' := 24) (st' := aI (-2) :: _) rfl rfl ?_
      refine E_ret rfl rfl ?_
      exact q _ S m (Or.inr ⟨(by omega), rfl, rfl⟩) hS (fun _ _ _ => rfl)
    · refine E_go (p' := 11) (L' := [some (aA 1), some (aI (r)), some (aI (t)), some (aN), none]) (st' := [aN]) rfl rfl rfl ?_
      refine E_s (p' := 13) (L' := [some (aA 1), some (aI (r)), some (aI (t)), some (aN), some (aN)]) rfl rfl ?_
      refine E_s (p' := 14) (st' := aN :: _) rfl rfl ?_
      refine E_s (p' := 22) rfl rfl ?_
      refine E_s (p' := 24) (st' := aI (-2) :: _) rfl rfl ?_
      refine E_ret rfl rfl ?_
      exact q _ S m (Or.inr ⟨(by omega), rfl, rfl⟩) hS (fun _ _ _ => rfl)
end
section
variable {len : Nat} {m0 : Mm} {Q : Option AV → Sx → Prop} {R : RD} {i t c : Nat}
theorem yl_ck (hi : i < 4) (htt : t < 4) (hit : i ≠ t) (hM : MR R i m0) (hV : VR R) (hcc : c < Cn R) (q : ∀ m1 : Mm, m1 132 (60 * t + c) = (Ck R c : Int) → (∀ k, k < Ck R c → MK R t m1 c k) → (∀ b z, ¬ (b = 132 ∧ z = 60 * t + c) → ¬ (133 ≤ b ∧ b ≤ 135 ∧ 1800 * t + 30 * c ≤ z ∧ z < 1800 * t + 30 * c + 30) → m1 b z = m0 b z) → Q none (m1, tl len)) : ∀ (d : Nat) (k : Nat) (m : Mm), (Ck R c < k + d) → (k ≤ Ck R c) → (m 132 (60 * t + c) = (Ck R c : Int)) → (∀ j, j < k → MK R t m c j) → (∀ b z, ¬ (b = 132 ∧ z = 60 * t + c) → ¬ (133 ≤ b ∧ b ≤ 135 ∧ 1800 * t + 30 * c ≤ z ∧ z < 1800 * t + 30 * c + 30) → m b z = m0 b z) → E 144 14 [some (aA 124), some (aI ((60 * i + c : Nat) : Int)), some (aI ((60 * t + c : Nat) : Int)), some (aI ((k : Nat) : Int))] [] (m, tl len) Q := by
  intro d
  induction d with
  | zero => intro k m hd hk I0 I1 I2; omega
  | succ d ih =>
    intro k m hd hk I0 I1 I2
    have hn60 := hV.1
    have hk30 := (hV.2.2.1 c hcc).2.2.2.2.2
    refine E_s (p' := 15) (st' := aI ((k : Nat) : Int) :: _) rfl rfl ?_
    refine E_s (p' := 16) (st' := aA 124 :: _) rfl rfl ?_
    refine E_gA (b := 132) rfl rfl rfl rfl rfl rfl ?_
    refine E_s (p' := 20) (st' := aI ((60 * i + c : Nat) : Int) :: _) rfl rfl ?_
    refine E_ald (e := 60 * i + c) (N := 240) (v := ((Ck R c : Nat) : Int)) rfl rfl (rfl) (by omega) ((I2 _ _ (by omega) (by omega)).trans (MR_132 hM hcc rfl)) ?_
    refine E_icmp_ge (x := ((k : Nat) : Int)) (y := ((Ck R c : Nat) : Int)) rfl (by decide) (fun h_1 => ?_) (fun h_1 => ?_)
    · refine E_go (p' := 96) (L' := [some (aA 124), some (aI ((60 * i + c : Nat) : Int)), some (aI ((60 * t + c : Nat) : Int)), some (aI ((k : Nat) : Int))]) (st' := []) rfl rfl rfl ?_
      refine E_ret rfl rfl ?_
      have ek : k = Ck R c := by omega
      subst ek
      exact q m I0 I1 I2
    · refine E_go (p' := 24) (L' := [some (aA 124), some (aI ((60 * i + c : Nat) : Int)), some (aI ((60 * t + c : Nat) : Int)), some (aI ((k : Nat) : Int))]) (st' := []) rfl rfl rfl ?_
      refine E_s (p' := 25) (st' := aA 124 :: _) rfl rfl ?_
      refine E_gA (b := 133) rfl rfl rfl rfl rfl rfl ?_
      refine E_s (p' := 30) (st' := aI 30 :: _) rfl rfl ?_
      refine E_s (p' := 31) (st' := aI ((60 * t + c : Nat) : Int) :: _) rfl rfl ?_
      refine E_mul (v := ((1800 * t + 30 * c : Nat) : Int)) rfl (by omega) (by omega) ?_
      refine E_s (p' := 33) (st' := aI ((k : Nat) : Int) :: _) rfl rfl ?_
      refine E_add (v := ((1800 * t + 30 * c + k : Nat) : Int)) rfl (by omega) (by omega) ?_
      refine E_s (p' := 35) (st' := aA 124 :: _) rfl rfl ?_
      refine E_gA (b := 133) rfl rfl rfl rfl rfl rfl ?_
      refine E_s (p' := 40) (st' := aI 30 :: _) rfl rfl ?_
      refine E_s (p' := 41) (st' := aI ((60 * i + c : Nat) : Int) :: _) rfl rfl ?_
      refine E_mul (v := ((1800 * i + 30 * c : Nat) : Int)) rfl (by omega) (by omega) ?_
      refine E_s (p' := 43) (st' := aI ((k : Nat) : Int) :: _) rfl rfl ?_
      refine E_add (v := ((1800 * i + 30 * c + k : Nat) : Int)) rfl (by omega) (by omega) ?_
      refine E_ald (e := 1800 * i + 30 * c + k) (N := 7200) (v := ((ht (Cp R c k) : Nat) : Int)) rfl rfl (rfl) (by omega) ((I2 _ _ (by omega) (by omega)).trans (MR_133 hM hcc (by omega) rfl)) ?_
      refine E_ast (e := 1800 * t + 30 * c + k) (N := 7200) rfl rfl (rfl) (by omega) ?_
      refine E_s (p' := 47) (st' := aA 124 :: _) rfl rfl ?_
      refine E_gA (b := 134) rfl rfl rfl rfl rfl rfl ?_
      refine E_s (p' := 52) (st' := aI 30 :: _) rfl rfl ?_
      refine E_s (p' := 53) (st' := aI ((60 * t + c : Nat) : Int) :: _) rfl rfl ?_
      refine E_mul (v := ((1800 * t + 30 * c : Nat) : Int)) rfl (by omega) (by omega) ?_
      refine E_s (p' := 55) (st' := aI ((k : Nat) : Int) :: _) rfl rfl ?_
      refine E_add (v := ((1800 * t + 30 * c + k : Nat) : Int)) rfl (by omega) (by omega) ?_
      refine E_s (p' := 57) (st' := aA 124 :: _) rfl rfl ?_
      refine E_gA (b := 134) rfl rfl rfl rfl rfl rfl ?_
      refine E_s (p' := 62) (st' := aI 30 :: _) rfl rfl ?_
      refine E_s (p' := 63) (st' := aI ((60 * i + c : Nat) : Int) :: _) rfl rfl ?_
      refine E_mul (v := ((1800 * i + 30 * c : Nat) : Int)) rfl (by omega) (by omega) ?_
      refine E_s (p' := 65) (st' := aI ((k : Nat) : Int) :: _) rfl rfl ?_
      refine E_add (v := ((1800 * i + 30 * c + k : Nat) : Int)) rfl (by omega) (by omega) ?_
      refine E_ald (e := 1800 * i + 30 * c + k) (N := 7200) (v := ((so (Cp R c k) : Nat) : Int)) rfl rfl (rfl) (by omega) ((up2_ne (by omega)).trans (((I2 _ _ (by omega) (by omega)).trans (MR_134 hM hcc (by omega) rfl)))) ?_
      refine E_ast (e := 1800 * t + 30 * c + k) (N := 7200) rfl rfl (rfl) (by omega) ?_
      refine E_s (p' := 69) (st' := aA 124 :: _) rfl rfl ?_
      refine E_gA (b := 135) rfl rfl rfl rfl rfl rfl ?_
      refine E_s (p' := 74) (st' := aI 30 :: _) rfl rfl ?_
      refine E_s (p' := 75) (st' := aI ((60 * t + c : Nat) : Int) :: _) rfl rfl ?_
      refine E_mul (v := ((1800 * t + 30 * c : Nat) : Int)) rfl (by omega) (by omega) ?_
      refine E_s (p' := 77) (st' := aI ((k : Nat) : Int) :: _) rfl rfl ?_
      refine E_add (v := ((1800 * t + 30 * c + k : Nat) : Int)) rfl (by omega) (by omega) ?_
      refine E_s (p' := 79) (st' := aA 124 :: _) rfl rfl ?_
      refine E_gA (b := 135) rfl rfl rfl rfl rfl rfl ?_
      refine E_s (p' := 84) (st' := aI 30 :: _) rfl rfl ?_
      refine E_s (p' := 85) (st' := aI ((60 * i + c : Nat) : Int) :: _) rfl rfl ?_
      refine E_mul (v := ((1800 * i + 30 * c : Nat) : Int)) rfl (by omega) (by omega) ?_
      refine E_s (p' := 87) (st' := aI ((k : Nat) : Int) :: _) rfl rfl ?_
      refine E_add (v := ((1800 * i + 30 * c + k : Nat) : Int)) rfl (by omega) (by omega) ?_
      refine E_ald (e := 1800 * i + 30 * c + k) (N := 7200) (v := ((tu (Cp R c k) : Nat) : Int)) rfl rfl (rfl) (by omega) ((up2_ne (by omega)).trans ((up2_ne (by omega)).trans (((I2 _ _ (by omega) (by omega)).trans (MR_135 hM hcc (by omega) rfl))))) ?_
      refine E_ast (e := 1800 * t + 30 * c + k) (N := 7200) rfl rfl (rfl) (by omega) ?_
      refine E_inc (x := ((k : Nat) : Int)) (w := ((k + 1 : Nat) : Int)) (L' := [some (aA 124), some (aI ((60 * i + c : Nat) : Int)), some (aI ((60 * t + c : Nat) : Int)), some (aI ((k + 1 : Nat) : Int))]) rfl rfl rfl (by omega) (by omega) rfl ?_
      refine E_s (p' := 14) rfl rfl ?_
      refine ih (k + 1) _ (by omega) (by omega) (((up2_ne (by omega)).trans ((up2_ne (by omega)).trans (up2_ne (by omega)))).trans I0) (fun j hj => ?_) (fun b z g1 g2 => ((up2_o (by omega)).trans ((up2_o (by omega)).trans (up2_o (by omega)))).trans (I2 b z g1 g2))
      by_cases g : j = k
      · subst g
        exact ⟨(up2_ne (by omega)).trans ((up2_ne (by omega)).trans up2_eq), (up2_ne (by omega)).trans up2_eq, up2_eq⟩
      · obtain ⟨g1, g2, g3⟩ := I1 j (by omega)
        exact ⟨((up2_ne (by omega)).trans ((up2_ne (by omega)).trans (up2_sl (by omega)))).trans g1, ((up2_ne (by omega)).trans ((up2_sl (by omega)).trans (up2_ne (by omega)))).trans g2, ((up2_sl (by omega)).trans ((up2_ne (by omega)).trans (up2_ne (by omega)))).trans g3⟩
theorem m_copyKnots (hi : i < 4) (htt : t < 4) (hit : i ≠ t) (hM : MR R i m0) (hV : VR R) (hcc : c < Cn R) (q : ∀ m1 : Mm, m1 132 (60 * t + c) = (Ck R c : Int) → (∀ k, k < Ck R c → MK R t m1 c k) → (∀ b z, ¬ (b = 132 ∧ z = 60 * t + c) → ¬ (133 ≤ b ∧ b ≤ 135 ∧ 1800 * t + 30 * c ≤ z ∧ z < 1800 * t + 30 * c + 30) → m1 b z = m0 b z) → Q none (m1, tl len)) : E 144 0 [some (aA 124), some (aI ((60 * i + c : Nat) : Int)), some (aI ((60 * t + c : Nat) : Int)), none] [] (m0, tl len) Q := by
  have hn60 := hV.1
  have hk30 := (hV.2.2.1 c hcc).2.2.2.2.2
  refine E_s (p' := 1) (st' := aA 124 :: _) rfl rfl ?_
  refine E_gA (b := 132) rfl rfl rfl rfl rfl rfl ?_
  refine E_s (p' := 5) (st' := aI ((60 * t + c : Nat) : Int) :: _) rfl rfl ?_
  refine E_s (p' := 6) (st' := aA 124 :: _) rfl rfl ?_
  refine E_gA (b := 132) rfl rfl rfl rfl rfl rfl ?_
  refine E_s (p' := 10) (st' := aI ((60 * i + c : Nat) : Int) :: _) rfl rfl ?_
  refine E_ald (e := 60 * i + c) (N := 240) (v := ((Ck R c : Nat) : Int)) rfl rfl (rfl) (by omega) (MR_132 hM (by omega) (by omega)) ?_
  refine E_ast (e := 60 * t + c) (N := 240) rfl rfl (rfl) (by omega) ?_
  refine E_s (p' := 13) (st' := aI 0 :: _) rfl rfl ?_
  refine E_s (p' := 14) (L' := [some (aA 124), some (aI ((60 * i + c : Nat) : Int)), some (aI ((60 * t + c : Nat) : Int)), some (aI 0)]) rfl rfl ?_
  exact yl_ck hi htt hit hM hV hcc q (Ck R c + 1) 0 _ (by omega) (by omega) up2_eq (fun j hj => absurd hj (by omega)) (fun b z g1 g2 => up2_o g1)
theorem yl_cp1 (hi : i < 4) (htt : t < 4) (hit : i ≠ t) (hM : MR R i m0) (hV : VR R) (hk : ∀ (m1 : Mm) (x4 x5 : Option AV), Mx t m0 m1 → Co1 m0 m1 → m1 125 t = (Cn R : Int) → m1 126 t = (Cq R : Int) → m1 136 t = (Sn R : Int) → (∀ d, d < Cn R → MC R t m1 d) → (∀ d k, d < Cn R → k < Ck R d → MK R t m1 d k) → E 143 182 [some (aA 124), some (aI (i : Int)), some (aI (t : Int)), some (aI (Cn R : Int)), x4, x5] [] (m1, tl len) Q) : ∀ (d : Nat) (c : Nat) (m : Mm) (x4 x5 : Option AV), (Cn R < c + d) → (c ≤ Cn R) → (Mx t m0 m) → (Co1 m0 m) → (m 125 t = (Cn R : Int)) → (m 126 t = (Cq R : Int)) → (m 136 t = (Sn R : Int)) → (∀ e, e < c → MC R t m e) → (∀ e k, e < c → k < Ck R e → MK R t m e k) → E 143 72 [some (aA 124), some (aI ((i : Nat) : Int)), some (aI ((t : Nat) : Int)), some (aI ((c : Nat) : Int)), x4, x5] [] (m, tl len) Q := by
  intro d
  induction d with
  | zero => intro c m x4 x5 hd hcn hx hc e125 e126 e136 h3 h4; omega
  | succ d ih =>
    intro c m x4 x5 hd hcn hx hc e125 e126 e136 h3 h4
    have hn60 := hV.1
    have hMi : MR R i m := hM.ot hV hit hx
    refine E_s (p' := 73) (st' := aI ((c : Nat) : Int) :: _) rfl rfl ?_
    refine E_s (p' := 74) (st' := aA 124 :: _) rfl rfl ?_
    refine E_gA (b := 125) rfl rfl rfl rfl rfl rfl ?_
    refine E_s (p' := 78) (st' := aI ((i : Nat) : Int) :: _) rfl rfl ?_
    refine E_ald (e := i) (N := 4) (v := ((Cn R : Nat) : Int)) rfl rfl (rfl) (by omega) (MR_125 hMi) ?_
    refine E_icmp_ge (x := ((c : Nat) : Int)) (y := ((Cn R : Nat) : Int)) rfl (by decide) (fun h_1 => ?_) (fun h_1 => ?_)
    · refine E_go (p' := 182) (L' := [some (aA 124), some (aI ((i : Nat) : Int)), some (aI ((t : Nat) : Int)), some (aI ((c : Nat) : Int)), x4, x5]) (st' := []) rfl rfl rfl ?_
      have ec : c = Cn R := by omega
      subst ec
      exact hk m x4 x5 hx hc e125 e126 e136 h3 h4
    · refine E_go (p' := 82) (L' := [some (aA 124), some (aI ((i : Nat) : Int)), some (aI ((t : Nat) : Int)), some (aI ((c : Nat) : Int)), x4, x5]) (st' := []) rfl rfl rfl ?_
      refine E_s (p' := 84) (st' := aI 60 :: _) rfl rfl ?_
      refine E_s (p' := 85) (st' := aI ((i : Nat) : Int) :: _) rfl rfl ?_
      refine E_mul (v := ((60 * i : Nat) : Int)) rfl (by omega) (by omega) ?_
      refine E_s (p' := 87) (st' := aI ((c : Nat) : Int) :: _) rfl rfl ?_
      refine E_add (v := ((60 * i + c : Nat) : Int)) rfl (by omega) (by omega) ?_
      refine E_s (p' := 90) (L' := [some (aA 124), some (aI ((i : Nat) : Int)), some (aI ((t : Nat) : Int)), some (aI ((c : Nat) : Int)), some (aI ((60 * i + c : Nat) : Int)), x5]) rfl rfl ?_
      refine E_s (p' := 92) (st' := aI 60 :: _) rfl rfl ?_
      refine E_s (p' := 93) (st' := aI ((t : Nat) : Int) :: _) rfl rfl ?_
      refine E_mul (v := ((60 * t : Nat) : Int)) rfl (by omega) (by omega) ?_
      refine E_s (p' := 95) (st' := aI ((c : Nat) : Int) :: _) rfl rfl ?_
      refine E_add (v := ((60 * t + c : Nat) : Int)) rfl (by omega) (by omega) ?_
      refine E_s (p' := 98) (L' := [some (aA 124), some (aI ((i : Nat) : Int)), some (aI ((t : Nat) : Int)), some (aI ((c : Nat) : Int)), some (aI ((60 * i + c : Nat) : Int)), some (aI ((60 * t + c : Nat) : Int))]) rfl rfl ?_
      refine E_s (p' := 99) (st' := aA 124 :: _) rfl rfl ?_
      refine E_gA (b := 127) rfl rfl rfl rfl rfl rfl ?_
      refine E_s (p' := 104) (st' := aI ((60 * t + c : Nat) : Int) :: _) rfl rfl ?_
      refine E_s (p' := 105) (st' := aA 124 :: _) rfl rfl ?_
      refine E_gA (b := 127) rfl rfl rfl rfl rfl rfl ?_
      refine E_s (p' := 110) (st' := aI ((60 * i + c : Nat) : Int) :: _) rfl rfl ?_
      refine E_ald (e := 60 * i + c) (N := 240) (v := ((Cg R c))) rfl rfl (rfl) (by omega) (MR_127 hMi (by omega) (by omega)) ?_
      refine E_ast (e := 60 * t + c) (N := 240) rfl rfl (rfl) (by omega) ?_
      refine E_s (p' := 113) (st' := aA 124 :: _) rfl rfl ?_
      refine E_gA (b := 128) rfl rfl rfl rfl rfl rfl ?_
      refine E_s (p' := 118) (st' := aI ((60 * t + c : Nat) : Int) :: _) rfl rfl ?_
      refine E_s (p' := 119) (st' := aA 124 :: _) rfl rfl ?_
      refine E_gA (b := 128) rfl rfl rfl rfl rfl rfl ?_
      refine E_s (p' := 124) (st' := aI ((60 * i + c : Nat) : Int) :: _) rfl rfl ?_
      refine E_ald (e := 60 * i + c) (N := 240) (v := ((Co R c))) rfl rfl (rfl) (by omega) ((up2_ne (by omega)).trans ((MR_128 hMi (by omega) (by omega)))) ?_
      refine E_ast (e := 60 * t + c) (N := 240) rfl rfl (rfl) (by omega) ?_
      refine E_s (p' := 127) (st' := aA 124 :: _) rfl rfl ?_
      refine E_gA (b := 129) rfl rfl rfl rfl rfl rfl ?_
      refine E_s (p' := 132) (st' := aI ((60 * t + c : Nat) : Int) :: _) rfl rfl ?_
      refine E_s (p' := 133) (st' := aA 124 :: _) rfl rfl ?_
      refine E_gA (b := 129) rfl rfl rfl rfl rfl rfl ?_
      refine E_s (p' := 138) (st' := aI ((60 * i + c : Nat) : Int) :: _) rfl rfl ?_
      refine E_ald (e := 60 * i + c) (N := 240) (v := ((Cc R c : Nat) : Int)) rfl rfl (rfl) (by omega) ((up2_ne (by omega)).trans ((up2_ne (by omega)).trans ((MR_129 hMi (by omega) (by omega))))) ?_
      refine E_ast (e := 60 * t + c) (N := 240) rfl rfl (rfl) (by omega) ?_
      refine E_s (p' := 141) (st' := aA 124 :: _) rfl rfl ?_
      refine E_gA (b := 130) rfl rfl rfl rfl rfl rfl ?_
      refine E_s (p' := 146) (st' := aI ((60 * t + c : Nat) : Int) :: _) rfl rfl ?_
      refine E_s (p' := 147) (st' := aA 124 :: _) rfl rfl ?_
      refine E_gA (b := 130) rfl rfl rfl rfl rfl rfl ?_
      refine E_s (p' := 152) (st' := aI ((60 * i + c : Nat) : Int) :: _) rfl rfl ?_
      refine E_ald (e := 60 * i + c) (N := 240) (v := ((Cl R c : Nat) : Int)) rfl rfl (rfl) (by omega) ((up2_ne (by omega)).trans ((up2_ne (by omega)).trans ((up2_ne (by omega)).trans ((MR_130 hMi (by omega) (by omega)))))) ?_
      refine E_ast (e := 60 * t + c) (N := 240) rfl rfl (rfl) (by omega) ?_
      refine E_s (p' := 155) (st' := aA 124 :: _) rfl rfl ?_
      refine E_gA (b := 131) rfl rfl rfl rfl rfl rfl ?_
      refine E_s (p' := 160) (st' := aI ((60 * t + c : Nat) : Int) :: _) rfl rfl ?_
      refine E_s (p' := 161) (st' := aA 124 :: _) rfl rfl ?_
      refine E_gA (b := 131) rfl rfl rfl rfl rfl rfl ?_
      refine E_s (p' := 166) (st' := aI ((60 * i + c : Nat) : Int) :: _) rfl rfl ?_
      refine E_ald (e := 60 * i + c) (N := 240) (v := (((Ctz R c)))) rfl rfl (rfl) (by omega) ((up2_ne (by omega)).trans ((up2_ne (by omega)).trans ((up2_ne (by omega)).trans ((up2_ne (by omega)).trans ((MR_131 hMi (by omega) (by omega))))))) ?_
      refine E_ast (e := 60 * t + c) (N := 240) rfl rfl (rfl) (by omega) ?_
      refine E_s (p' := 169) (st' := aA 124 :: _) rfl rfl ?_
      refine E_s (p' := 171) (st' := aI ((60 * i + c : Nat) : Int) :: _) rfl rfl ?_
      refine E_s (p' := 173) (st' := aI ((60 * t + c : Nat) : Int) :: _) rfl rfl ?_
      refine E_callV (k' := 144) (a := 124) (r := []) (L0 := [some (aA 124), some (aI ((60 * i + c : Nat) : Int)), some (aI ((60 * t + c : Nat) : Int)), none]) rfl rfl rfl rfl rfl rfl rfl rfl rfl rfl ?_
      refine m_copyKnots hi htt hit (hMi.ot hV hit (((((Mx.rf.up (by unfold blk; omega)).up (by unfold blk; omega)).up (by unfold blk; omega)).up (by unfold blk; omega)).up (by unfold blk; omega))) hV (c := c) (by omega) (fun m1 J0 J1 J2 => ?_)
      refine E_go (p' := 176) (L' := [some (aA 124), some (aI ((i : Nat) : Int)), some (aI ((t : Nat) : Int)), some (aI ((c : Nat) : Int)), some (aI ((60 * i + c : Nat) : Int)), some (aI ((60 * t + c : Nat) : Int))]) (st' := []) rfl rfl rfl ?_
      refine E_inc (x := ((c : Nat) : Int)) (w := ((c + 1 : Nat) : Int)) (L' := [some (aA 124), some (aI ((i : Nat) : Int)), some (aI ((t : Nat) : Int)), some (aI ((c + 1 : Nat) : Int)), some (aI ((60 * i + c : Nat) : Int)), some (aI ((60 * t + c : Nat) : Int))]) rfl rfl rfl (by omega) (by omega) rfl ?_
      refine E_s (p' := 72) rfl rfl ?_
      refine ih (c + 1) m1 _ _ (by omega) (by omega) (hx.tr (fun b z hb => ?_)) (fun b z hb => ?_) ?_ ?_ ?_ (fun e he => ?_) (fun e k he hk9 => ?_)
      · have hb2 : ¬ ((127 ≤ b ∧ b ≤ 132 ∧ 60 * t ≤ z ∧ z < 60 * t + 60) ∨ (133 ≤ b ∧ b ≤ 135 ∧ 1800 * t ≤ z ∧ z < 1800 * t + 1800)) := fun g => hb (by unfold blk; omega)
        exact (J2 b z (by omega) (by omega)).trans ((up2_o (by omega)).trans ((up2_o (by omega)).trans ((up2_o (by omega)).trans ((up2_o (by omega)).trans (up2_o (by omega))))))
      · exact (J2 b z (by omega) (by omega)).trans (((up2_ne (by omega)).trans ((up2_ne (by omega)).trans ((up2_ne (by omega)).trans ((up2_ne (by omega)).trans (up2_ne (by omega)))))).trans (hc b z hb))
      · exact (J2 _ _ (by omega) (by omega)).trans (((up2_ne (by omega)).trans ((up2_ne (by omega)).trans ((up2_ne (by omega)).trans ((up2_ne (by omega)).trans (up2_ne (by omega)))))).trans e125)
      · exact (J2 _ _ (by omega) (by omega)).trans (((up2_ne (by omega)).trans ((up2_ne (by omega)).trans ((up2_ne (by omega)).trans ((up2_ne (by omega)).trans (up2_ne (by omega)))))).trans e126)
      · exact (J2 _ _ (by omega) (by omega)).trans (((up2_ne (by omega)).trans ((up2_ne (by omega)).trans ((up2_ne (by omega)).trans ((up2_ne (by omega)).trans (up2_ne (by omega)))))).trans e136)
      · by_cases g : e = c
        · subst g
          exact ⟨(J2 _ _ (by omega) (by omega)).trans ((up2_ne (by omega)).trans ((up2_ne (by omega)).trans ((up2_ne (by omega)).trans ((up2_ne (by omega)).trans (up2_eq))))), (J2 _ _ (by omega) (by omega)).trans ((up2_ne (by omega)).trans ((up2_ne (by omega)).trans ((up2_ne (by omega)).trans (up2_eq)))), (J2 _ _ (by omega) (by omega)).trans ((up2_ne (by omega)).trans ((up2_ne (by omega)).trans (up2_eq))), (J2 _ _ (by omega) (by omega)).trans ((up2_ne (by omega)).trans (up2_eq)), (J2 _ _ (by omega) (by omega)).trans (up2_eq), J0⟩
        · obtain ⟨g1, g2, g3, g4, g5, g6⟩ := h3 e (by omega)
          exact ⟨(J2 _ _ (by omega) (by omega)).trans (((up2_o (by omega)).trans ((up2_o (by omega)).trans ((up2_o (by omega)).trans ((up2_o (by omega)).trans (up2_o (by omega)))))).trans g1), (J2 _ _ (by omega) (by omega)).trans (((up2_o (by omega)).trans ((up2_o (by omega)).trans ((up2_o (by omega)).trans ((up2_o (by omega)).trans (up2_o (by omega)))))).trans g2), (J2 _ _ (by omega) (by omega)).trans (((up2_o (by omega)).trans ((up2_o (by omega)).trans ((up2_o (by omega)).trans ((up2_o (by omega)).trans (up2_o (by omega)))))).trans g3), (J2 _ _ (by omega) (by omega)).trans (((up2_o (by omega)).trans ((up2_o (by omega)).trans ((up2_o (by omega)).trans ((up2_o (by omega)).trans (up2_o (by omega)))))).trans g4), (J2 _ _ (by omega) (by omega)).trans (((up2_o (by omega)).trans ((up2_o (by omega)).trans ((up2_o (by omega)).trans ((up2_o (by omega)).trans (up2_o (by omega)))))).trans g5), (J2 _ _ (by omega) (by omega)).trans (((up2_o (by omega)).trans ((up2_o (by omega)).trans ((up2_o (by omega)).trans ((up2_o (by omega)).trans (up2_o (by omega)))))).trans g6)⟩
      · by_cases g : e = c
        · subst g; exact J1 k hk9
        · obtain ⟨g1, g2, g3⟩ := h4 e k (by omega) hk9
          have := (hV.2.2.1 e (by omega)).2.2.2.2.2
          exact ⟨(J2 _ _ (by omega) (by omega)).trans (((up2_ne (by omega)).trans ((up2_ne (by omega)).trans ((up2_ne (by omega)).trans ((up2_ne (by omega)).trans (up2_ne (by omega)))))).trans g1), (J2 _ _ (by omega) (by omega)).trans (((up2_ne (by omega)).trans ((up2_ne (by omega)).trans ((up2_ne (by omega)).trans ((up2_ne (by omega)).trans (up2_ne (by omega)))))).trans g2), (J2 _ _ (by omega) (by omega)).trans (((up2_ne (by omega)).trans ((up2_ne (by omega)).trans ((up2_ne (by omega)).trans ((up2_ne (by omega)).trans (up2_ne (by omega)))))).trans g3)⟩
theorem yl_cp3 {s : Nat} (hi : i < 4) (htt : t < 4) (hit : i ≠ t) (hs : s < 40) (hk : ∀ (m1 : Mm) (x5 : Option AV), (∀ e, e < 12 → m1 139 (480 * t + 12 * s + e) = m0 139 (480 * i + 12 * s + e)) → (∀ b z, ¬ (b = 139 ∧ 480 * t + 12 * s ≤ z ∧ z < 480 * t + 12 * s + 12) → m1 b z = m0 b z) → E 143 288 [some (aA 124), some (aI (i : Int)), some (aI (t : Int)), some (aI (s : Int)), some (aI 12), x5] [] (m1, tl len) Q) : ∀ (d : Nat) (k : Nat) (m : Mm) (x5 : Option AV), (12 < k + d) → (k ≤ 12) → (∀ e, e < k → m 139 (480 * t + 12 * s + e) = m0 139 (480 * i + 12 * s + e)) → (∀ b z, ¬ (b = 139 ∧ 480 * t + 12 * s ≤ z ∧ z < 480 * t + 12 * s + k) → m b z = m0 b z) → E 143 241 [some (aA 124), some (aI ((i : Nat) : Int)), some (aI ((t : Nat) : Int)), some (aI ((s : Nat) : Int)), some (aI ((k : Nat) : Int)), x5] [] (m, tl len) Q := by
  intro d
  induction d with
  | zero => intro k m x5 hd hk12 I1 I2; omega
  | succ d ih =>
    intro k m x5 hd hk12 I1 I2
    refine E_s (p' := 243) (st' := aI ((k : Nat) : Int) :: _) rfl rfl ?_
    refine E_s (p' := 245) (st' := aI 12 :: _) rfl rfl ?_
    refine E_icmp_ge (x := ((k : Nat) : Int)) (y := 12) rfl (by decide) (fun h_1 => ?_) (fun h_1 => ?_)
    · refine E_go (p' := 288) (L' := [some (aA 124), some (aI ((i : Nat) : Int)), some (aI ((t : Nat) : Int)), some (aI ((s : Nat) : Int)), some (aI ((k : Nat) : Int)), x5]) (st' := []) rfl rfl rfl ?_
      have ek : k = 12 := by omega
      subst ek
      exact hk m x5 I1 I2
    · refine E_go (p' := 248) (L' := [some (aA 124), some (aI ((i : Nat) : Int)), some (aI ((t : Nat) : Int)), some (aI ((s : Nat) : Int)), some (aI ((k : Nat) : Int)), x5]) (st' := []) rfl rfl rfl ?_
      refine E_s (p' := 249) (st' := aA 124 :: _) rfl rfl ?_
      refine E_gA (b := 139) rfl rfl rfl rfl rfl rfl ?_
      refine E_s (p' := 254) (st' := aI 12 :: _) rfl rfl ?_
      refine E_s (p' := 256) (st' := aI 40 :: _) rfl rfl ?_
      refine E_s (p' := 257) (st' := aI ((t : Nat) : Int) :: _) rfl rfl ?_
      refine E_mul (v := ((40 * t : Nat) : Int)) rfl (by omega) (by omega) ?_
      refine E_s (p' := 259) (st' := aI ((s : Nat) : Int) :: _) rfl rfl ?_
      refine E_add (v := ((40 * t + s : Nat) : Int)) rfl (by omega) (by omega) ?_
      refine E_mul (v := ((480 * t + 12 * s : Nat) : Int)) rfl (by omega) (by omega) ?_
      refine E_s (p' := 263) (st' := aI ((k : Nat) : Int) :: _) rfl rfl ?_
      refine E_add (v := ((480 * t + 12 * s + k : Nat) : Int)) rfl (by omega) (by omega) ?_
      refine E_s (p' := 265) (st' := aA 124 :: _) rfl rfl ?_
      refine E_gA (b := 139) rfl rfl rfl rfl rfl rfl ?_
      refine E_s (p' := 270) (st' := aI 12 :: _) rfl rfl ?_
      refine E_s (p' := 272) (st' := aI 40 :: _) rfl rfl ?_
      refine E_s (p' := 273) (st' := aI ((i : Nat) : Int) :: _) rfl rfl ?_
      refine E_mul (v := ((40 * i : Nat) : Int)) rfl (by omega) (by omega) ?_
      refine E_s (p' := 275) (st' := aI ((s : Nat) : Int) :: _) rfl rfl ?_
      refine E_add (v := ((40 * i + s : Nat) : Int)) rfl (by omega) (by omega) ?_
      refine E_mul (v := ((480 * i + 12 * s : Nat) : Int)) rfl (by omega) (by omega) ?_
      refine E_s (p' := 279) (st' := aI ((k : Nat) : Int) :: _) rfl rfl ?_
      refine E_add (v := ((480 * i + 12 * s + k : Nat) : Int)) rfl (by omega) (by omega) ?_
      refine E_ald (e := 480 * i + 12 * s + k) (N := 1920) (v := ((m 139 (480 * i + 12 * s + k)))) rfl rfl (rfl) (by omega) rfl ?_
      refine E_ast (e := 480 * t + 12 * s + k) (N := 1920) rfl rfl (rfl) (by omega) ?_
      refine E_inc (x := ((k : Nat) : Int)) (w := ((k + 1 : Nat) : Int)) (L' := [some (aA 124), some (aI ((i : Nat) : Int)), some (aI ((t : Nat) : Int)), some (aI ((s : Nat) : Int)), some (aI ((k + 1 : Nat) : Int)), x5]) rfl rfl rfl (by omega) (by omega) rfl ?_
      refine E_s (p' := 241) rfl rfl ?_
      refine ih (k + 1) _ x5 (by omega) (by omega) (fun e he => ?_) (fun b z g1 => (up2_o (by omega)).trans (I2 b z (by omega)))
      by_cases g : e = k
      · subst g; exact up2_eq.trans (I2 _ _ (by omega))
      · exact (up2_sl (by omega)).trans (I1 e (by omega))
theorem yl_cp2 (hi : i < 4) (htt : t < 4) (hit : i ≠ t) (hM : MR R i m0) (hV : VR R) (hk : ∀ (m1 : Mm) (x4 x5 : Option AV), Mx t m0 m1 → Co1 m0 m1 → MR R t m1 → E 143 294 [some (aA 124), some (aI (i : Int)), some (aI (t : Int)), some (aI (Sn R : Int)), x4, x5] [] (m1, tl len) Q) : ∀ (d : Nat) (s : Nat) (m : Mm) (x4 x5 : Option AV), (Sn R < s + d) → (s ≤ Sn R) → (Mx t m0 m) → (Co1 m0 m) → (m 125 t = (Cn R : Int)) → (m 126 t = (Cq R : Int)) → (m 136 t = (Sn R : Int)) → (∀ e, e < Cn R → MC R t m e) → (∀ e k, e < Cn R → k < Ck R e → MK R t m e k) → (∀ e, e < s → m 137 (40 * t + e) = (Sw R e : Int) ∧ m 138 (40 * t + e) = (Sp R e : Int)) → (∀ e k, e < s → k < Sp R e → m 139 (480 * t + 12 * e + k) = (Sq R e k : Int)) → E 143 184 [some (aA 124), some (aI ((i : Nat) : Int)), some (aI ((t : Nat) : Int)), some (aI ((s : Nat) : Int)), x4, x5] [] (m, tl len) Q := by
  intro d
  induction d with
  | zero => intro s m x4 x5 hd hsn hx hc e125 e126 e136 h3 h4 h5 h6; omega
  | succ d ih =>
    intro s m x4 x5 hd hsn hx hc e125 e126 e136 h3 h4 h5 h6
    have hs40 := hV.2.2.2.2.1
    have hMi : MR R i m := hM.ot hV hit hx
    refine E_s (p' := 185) (st' := aI ((s : Nat) : Int) :: _) rfl rfl ?_
    refine E_s (p' := 186) (st' := aA 124 :: _) rfl rfl ?_
    refine E_gA (b := 136) rfl rfl rfl rfl rfl rfl ?_
    refine E_s (p' := 190) (st' := aI ((i : Nat) : Int) :: _) rfl rfl ?_
    refine E_ald (e := i) (N := 4) (v := ((Sn R : Nat) : Int)) rfl rfl (rfl) (by omega) (MR_136 hMi) ?_
    refine E_icmp_ge (x := ((s : Nat) : Int)) (y := ((Sn R : Nat) : Int)) rfl (by decide) (fun h_1 => ?_) (fun h_1 => ?_)
    · refine E_go (p' := 294) (L' := [some (aA 124), some (aI ((i : Nat) : Int)), some (aI ((t : Nat) : Int)), some (aI ((s : Nat) : Int)), x4, x5]) (st' := []) rfl rfl rfl ?_
      have ec : s = Sn R := by omega
      subst ec
      exact hk m x4 x5 hx hc ⟨e125, e126, h3, h4, e136, h5, h6⟩
    · refine E_go (p' := 194) (L' := [some (aA 124), some (aI ((i : Nat) : Int)), some (aI ((t : Nat) : Int)), some (aI ((s : Nat) : Int)), x4, x5]) (st' := []) rfl rfl rfl ?_
      refine E_s (p' := 195) (st' := aA 124 :: _) rfl rfl ?_
      refine E_gA (b := 137) rfl rfl rfl rfl rfl rfl ?_
      refine E_s (p' := 200) (st' := aI 40 :: _) rfl rfl ?_
      refine E_s (p' := 201) (st' := aI ((t : Nat) : Int) :: _) rfl rfl ?_
      refine E_mul (v := ((40 * t : Nat) : Int)) rfl (by omega) (by omega) ?_
      refine E_s (p' := 203) (st' := aI ((s : Nat) : Int) :: _) rfl rfl ?_
      refine E_add (v := ((40 * t + s : Nat) : Int)) rfl (by omega) (by omega) ?_
      refine E_s (p' := 205) (st' := aA 124 :: _) rfl rfl ?_
      refine E_gA (b := 137) rfl rfl rfl rfl rfl rfl ?_
      refine E_s (p' := 210) (st' := aI 40 :: _) rfl rfl ?_
      refine E_s (p' := 211) (st' := aI ((i : Nat) : Int) :: _) rfl rfl ?_
      refine E_mul (v := ((40 * i : Nat) : Int)) rfl (by omega) (by omega) ?_
      refine E_s (p' := 213) (st' := aI ((s : Nat) : Int) :: _) rfl rfl ?_
      refine E_add (v := ((40 * i + s : Nat) : Int)) rfl (by omega) (by omega) ?_
      refine E_ald (e := 40 * i + s) (N := 160) (v := ((Sw R s : Nat) : Int)) rfl rfl (rfl) (by omega) (MR_137 hMi (by omega) (by omega)) ?_
      refine E_ast (e := 40 * t + s) (N := 160) rfl rfl (rfl) (by omega) ?_
      refine E_s (p' := 217) (st' := aA 124 :: _) rfl rfl ?_
      refine E_gA (b := 138) rfl rfl rfl rfl rfl rfl ?_
      refine E_s (p' := 222) (st' := aI 40 :: _) rfl rfl ?_
      refine E_s (p' := 223) (st' := aI ((t : Nat) : Int) :: _) rfl rfl ?_
      refine E_mul (v := ((40 * t : Nat) : Int)) rfl (by omega) (by omega) ?_
      refine E_s (p' := 225) (st' := aI ((s : Nat) : Int) :: _) rfl rfl ?_
      refine E_add (v := ((40 * t + s : Nat) : Int)) rfl (by omega) (by omega) ?_
      refine E_s (p' := 227) (st' := aA 124 :: _) rfl rfl ?_
      refine E_gA (b := 138) rfl rfl rfl rfl rfl rfl ?_
      refine E_s (p' := 232) (st' := aI 40 :: _) rfl rfl ?_
      refine E_s (p' := 233) (st' := aI ((i : Nat) : Int) :: _) rfl rfl ?_
      refine E_mul (v := ((40 * i : Nat) : Int)) rfl (by omega) (by omega) ?_
      refine E_s (p' := 235) (st' := aI ((s : Nat) : Int) :: _) rfl rfl ?_
      refine E_add (v := ((40 * i + s : Nat) : Int)) rfl (by omega) (by omega) ?_
      refine E_ald (e := 40 * i + s) (N := 160) (v := ((Sp R s : Nat) : Int)) rfl rfl (rfl) (by omega) ((up2_ne (by omega)).trans ((MR_138 hMi (by omega) (by omega)))) ?_
      refine E_ast (e := 40 * t + s) (N := 160) rfl rfl (rfl) (by omega) ?_
      refine E_s (p' := 239) (st' := aI 0 :: _) rfl rfl ?_
      refine E_s (p' := 241) (L' := [some (aA 124), some (aI ((i : Nat) : Int)), some (aI ((t : Nat) : Int)), some (aI ((s : Nat) : Int)), some (aI 0), x5]) rfl rfl ?_
      refine yl_cp3 hi htt hit (by omega) (fun m1 y5 J1 J2 => ?_) 13 0 _ x5 (by omega) (by omega) (fun e he => absurd he (by omega)) (fun b z _ => rfl)
      refine E_inc (x := ((s : Nat) : Int)) (w := ((s + 1 : Nat) : Int)) (L' := [some (aA 124), some (aI ((i : Nat) : Int)), some (aI ((t : Nat) : Int)), some (aI ((s + 1 : Nat) : Int)), some (aI 12), y5]) rfl rfl rfl (by omega) (by omega) rfl ?_
      refine E_s (p' := 184) rfl rfl ?_
      refine ih (s + 1) m1 _ _ (by omega) (by omega) (hx.tr (fun b z hb => ?_)) (fun b z hb => ?_) ?_ ?_ ?_ (fun e he => ?_) (fun e k he hk9 => ?_) (fun e he => ?_) (fun e k he hk9 => ?_)
      · have hb2 : ¬ ((137 ≤ b ∧ b ≤ 138 ∧ 40 * t ≤ z ∧ z < 40 * t + 40) ∨ (b = 139 ∧ 480 * t ≤ z ∧ z < 480 * t + 480)) := fun g => hb (by unfold blk; omega)
        exact (J2 b z (by omega)).trans ((up2_o (by omega)).trans (up2_o (by omega)))
      · exact (J2 b z (by omega)).trans (((up2_ne (by omega)).trans (up2_ne (by omega))).trans (hc b z hb))
      · exact (J2 _ _ (by omega)).trans (((up2_ne (by omega)).trans (up2_ne (by omega))).trans e125)
      · exact (J2 _ _ (by omega)).trans (((up2_ne (by omega)).trans (up2_ne (by omega))).trans e126)
      · exact (J2 _ _ (by omega)).trans (((up2_ne (by omega)).trans (up2_ne (by omega))).trans e136)
      · obtain ⟨g1, g2, g3, g4, g5, g6⟩ := h3 e he
        exact ⟨(J2 _ _ (by omega)).trans (((up2_ne (by omega)).trans (up2_ne (by omega))).trans g1), (J2 _ _ (by omega)).trans (((up2_ne (by omega)).trans (up2_ne (by omega))).trans g2), (J2 _ _ (by omega)).trans (((up2_ne (by omega)).trans (up2_ne (by omega))).trans g3), (J2 _ _ (by omega)).trans (((up2_ne (by omega)).trans (up2_ne (by omega))).trans g4), (J2 _ _ (by omega)).trans (((up2_ne (by omega)).trans (up2_ne (by omega))).trans g5), (J2 _ _ (by omega)).trans (((up2_ne (by omega)).trans (up2_ne (by omega))).trans g6)⟩
      · obtain ⟨g1, g2, g3⟩ := h4 e k he hk9
        exact ⟨(J2 _ _ (by omega)).trans (((up2_ne (by omega)).trans (up2_ne (by omega))).trans g1), (J2 _ _ (by omega)).trans (((up2_ne (by omega)).trans (up2_ne (by omega))).trans g2), (J2 _ _ (by omega)).trans (((up2_ne (by omega)).trans (up2_ne (by omega))).trans g3)⟩
      · by_cases g : e = s
        · subst g; exact ⟨(J2 _ _ (by omega)).trans ((up2_ne (by omega)).trans (up2_eq)), (J2 _ _ (by omega)).trans (up2_eq)⟩
        · exact ⟨(J2 _ _ (by omega)).trans (((up2_o (by omega)).trans (up2_o (by omega))).trans (h5 e (by omega)).1), (J2 _ _ (by omega)).trans (((up2_o (by omega)).trans (up2_o (by omega))).trans (h5 e (by omega)).2)⟩
      · have hp12 := (hV.2.2.2.2.2.1 e (by omega)).2
        by_cases g : e = s
        · subst g; exact (J1 k (by omega)).trans (((up2_ne (by omega)).trans (up2_ne (by omega))).trans (MR_139 hMi (by omega) hk9 rfl))
        · exact (J2 _ _ (by omega)).trans (((up2_ne (by omega)).trans (up2_ne (by omega))).trans (h6 e k (by omega) hk9))
end
section
variable {len : Nat} {m : Mm} {Q : Option AV → Sx → Prop} {S : Nat → RD} {r t : Int}
theorem M_copy (hS : MS S m) (q : ∀ (v : Int) (m1 : Mm), ((∃ i k : Nat, i < 4 ∧ k < 4 ∧ r = i ∧ t = k ∧ v = (Cn (S i) : Int) ∧ MS (upf S k (S i)) m1) ∨ (((r < 0 ∨ 3 < r) ∨ (t < 0 ∨ 3 < t)) ∧ v = -2 ∧ MS S m1)) → Co1 m m1 → Q (some (aI v)) (m1, tl len)) : E 143 0 [some (aA 124), some (aI (r)), some (aI (t)), none, none, none] [] (m, tl len) Q := by
  refine E_s (p' := 1) (st' := aI (r) :: _) rfl rfl ?_
  refine E_callL (p' := 4) (L0 := [some (aI (r))]) rfl rfl rfl ?_
  refine m_isRecord (fun i hi hr => ?_) (fun hr => ?_)
  · refine E_go (p' := 4) (L' := [some (aA 124), some (aI (r)), some (aI (t)), none, none, none]) (st' := [aI 1]) rfl rfl rfl ?_
    obtain ⟨hV, hM⟩ := hS i hi
    have hn60 := hV.1
    subst hr
    refine E_s (p' := 7) rfl rfl ?_
    refine E_s (p' := 8) (st' := aI (t) :: _) rfl rfl ?_
    refine E_callL (p' := 11) (L0 := [some (aI (t))]) rfl rfl rfl ?_
    refine m_isRecord (fun tk htk ht9 => ?_) (fun hr => ?_)
    · refine E_go (p' := 11) (L' := [some (aA 124), some (aI ((i : Nat) : Int)), some (aI (t)), none, none, none]) (st' := [aI 1]) rfl rfl rfl ?_
      subst ht9
      refine E_s (p' := 17) rfl rfl ?_
      refine E_s (p' := 18) (st' := aA 124 :: _) rfl rfl ?_
      refine E_s (p' := 19) (st' := aI ((tk : Nat) : Int) :: _) rfl rfl ?_
      refine E_callV (k' := 133) (a := 124) (r := []) (L0 := [some (aA 124), some (aI ((tk : Nat) : Int))]) rfl rfl rfl rfl rfl rfl rfl rfl rfl rfl ?_
      refine m_changes (i := tk) (by omega) ?_
      refine E_go (p' := 22) (L' := [some (aA 124), some (aI ((i : Nat) : Int)), some (aI ((tk : Nat) : Int)), none, none, none]) (st' := []) rfl rfl rfl ?_
      refine E_s (p' := 23) (st' := aI ((i : Nat) : Int) :: _) rfl rfl ?_
      refine E_s (p' := 24) (st' := aI ((tk : Nat) : Int) :: _) rfl rfl ?_
      refine E_icmp_ne (x := ((i : Nat) : Int)) (y := ((tk : Nat) : Int)) rfl (by decide) (fun h_1 => ?_) (fun h_1 => ?_)
      · refine E_go (p' := 34) (L' := [some (aA 124), some (aI ((i : Nat) : Int)), some (aI ((tk : Nat) : Int)), none, none, none]) (st' := []) rfl rfl rfl ?_
        refine E_s (p' := 35) (st' := aA 124 :: _) rfl rfl ?_
        refine E_gA (b := 125) rfl rfl rfl rfl rfl rfl ?_
        refine E_s (p' := 39) (st' := aI ((tk : Nat) : Int) :: _) rfl rfl ?_
        refine E_s (p' := 40) (st' := aA 124 :: _) rfl rfl ?_
        refine E_gA (b := 125) rfl rfl rfl rfl rfl rfl ?_
        refine E_s (p' := 44) (st' := aI ((i : Nat) : Int) :: _) rfl rfl ?_
        refine E_ald (e := i) (N := 4) (v := ((Cn (S i) : Nat) : Int)) rfl rfl (rfl) (by omega) ((up2_ne (by omega)).trans ((MR_125 hM))) ?_
        refine E_ast (e := tk) (N := 4) rfl rfl (rfl) (by omega) ?_
        refine E_s (p' := 47) (st' := aA 124 :: _) rfl rfl ?_
        refine E_gA (b := 126) rfl rfl rfl rfl rfl rfl ?_
        refine E_s (p' := 51) (st' := aI ((tk : Nat) : Int) :: _) rfl rfl ?_
        refine E_s (p' := 52) (st' := aA 124 :: _) rfl rfl ?_
        refine E_gA (b := 126) rfl rfl rfl rfl rfl rfl ?_
        refine E_s (p' := 56) (st' := aI ((i : Nat) : Int) :: _) rfl rfl ?_
        refine E_ald (e := i) (N := 4) (v := ((Cq (S i) : Nat) : Int)) rfl rfl (rfl) (by omega) ((up2_ne (by omega)).trans ((up2_ne (by omega)).trans ((MR_126 hM)))) ?_
        refine E_ast (e := tk) (N := 4) rfl rfl (rfl) (by omega) ?_
        refine E_s (p' := 59) (st' := aA 124 :: _) rfl rfl ?_
        refine E_gA (b := 136) rfl rfl rfl rfl rfl rfl ?_
        refine E_s (p' := 63) (st' := aI ((tk : Nat) : Int) :: _) rfl rfl ?_
        refine E_s (p' := 64) (st' := aA 124 :: _) rfl rfl ?_
        refine E_gA (b := 136) rfl rfl rfl rfl rfl rfl ?_
        refine E_s (p' := 68) (st' := aI ((i : Nat) : Int) :: _) rfl rfl ?_
        refine E_ald (e := i) (N := 4) (v := ((Sn (S i) : Nat) : Int)) rfl rfl (rfl) (by omega) ((up2_ne (by omega)).trans ((up2_ne (by omega)).trans ((up2_ne (by omega)).trans ((MR_136 hM))))) ?_
        refine E_ast (e := tk) (N := 4) rfl rfl (rfl) (by omega) ?_
        refine E_s (p' := 71) (st' := aI 0 :: _) rfl rfl ?_
        refine E_s (p' := 72) (L' := [some (aA 124), some (aI ((i : Nat) : Int)), some (aI ((tk : Nat) : Int)), some (aI 0), none, none]) rfl rfl ?_
        have hit : i ≠ tk := by omega
        refine yl_cp1 hi htk hit hM hV (fun m1 y4 y5 hx1 hc1 k125 k126 k136 k3 k4 => ?_) (Cn (S i) + 1) 0 _ none none (by omega) (by omega) ((((Mx.rf.up (by unfold blk; omega)).up (by unfold blk; omega)).up (by unfold blk; omega)).up (by unfold blk; omega)) (fun b j hb => ((up2_ne (by omega)).trans ((up2_ne (by omega)).trans ((up2_ne (by omega)).trans (up2_ne (by omega)))))) ((up2_ne (by omega)).trans ((up2_ne (by omega)).trans (up2_eq))) ((up2_ne (by omega)).trans (up2_eq)) (up2_eq) (fun e he => absurd he (by omega)) (fun e k he => absurd he (by omega))
        refine E_s (p' := 183) (st' := aI 0 :: _) rfl rfl ?_
        refine E_s (p' := 184) (L' := [some (aA 124), some (aI ((i : Nat) : Int)), some (aI ((tk : Nat) : Int)), some (aI 0), y4, y5]) rfl rfl ?_
        refine yl_cp2 hi htk hit hM hV (fun m2 z4 z5 hx2 hc2 hM2 => ?_) (Sn (S i) + 1) 0 m1 y4 y5 (by omega) (by omega) hx1 hc1 k125 k126 k136 k3 k4 (fun e he => absurd he (by omega)) (fun e k he => absurd he (by omega))
        refine E_s (p' := 295) (st' := aA 124 :: _) rfl rfl ?_
        refine E_gA (b := 125) rfl rfl rfl rfl rfl rfl ?_
        refine E_s (p' := 299) (st' := aI ((tk : Nat) : Int) :: _) rfl rfl ?_
        refine E_ald (e := tk) (N := 4) (v := ((Cn (S i) : Nat) : Int)) rfl rfl (rfl) (by omega) hM2.1 ?_
        refine E_ret rfl rfl ?_
        exact q _ m2 (Or.inl ⟨i, tk, hi, htk, rfl, rfl, rfl, hS.set htk hV hM2 (fun k hk hne h => h.ot (hS k hk).1 hne hx2)⟩) hc2
      · refine E_go (p' := 27) (L' := [some (aA 124), some (aI ((i : Nat) : Int)), some (aI ((tk : Nat) : Int)), none, none, none]) (st' := []) rfl rfl rfl ?_
        refine E_s (p' := 28) (st' := aA 124 :: _) rfl rfl ?_
        refine E_gA (b := 125) rfl rfl rfl rfl rfl rfl ?_
        refine E_s (p' := 32) (st' := aI ((i : Nat) : Int) :: _) rfl rfl ?_
        refine E_ald (e := i) (N := 4) (v := ((Cn (S i) : Nat) : Int)) rfl rfl (rfl) (by omega) ((up2_ne (by omega)).trans ((MR_125 hM))) ?_
        refine E_ret rfl rfl ?_
        have e9 : tk = i := by omega
        subst e9
        exact q _ _ (Or.inl ⟨tk, tk, hi, hi, rfl, rfl, rfl, by rw [upf_self]; exact hS.of (fun b j h1 h2 => up2_ne (by omega))⟩) (fun b j hb => up2_ne (by omega))
    · refine E_go (p' := 11) (L' := [some (aA 124), some (aI ((i : Nat) : Int)), some (aI (t)), none, none, none]) (st' := [aI 0]) rfl rfl rfl ?_
      refine E_s (p' := 14) rfl rfl ?_
      refine E_s (p' := 16) (st' := aI (-2) :: _) rfl rfl ?_
      refine E_ret rfl rfl ?_
      exact q _ m (Or.inr ⟨(by omega), rfl, hS⟩) (fun _ _ _ => rfl)
  · refine E_go (p' := 4) (L' := [some (aA 124), some (aI (r)), some (aI (t)), none, none, none]) (st' := [aI 0]) rfl rfl rfl ?_
    refine E_s (p' := 14) rfl rfl ?_
    refine E_s (p' := 16) (st' := aI (-2) :: _) rfl rfl ?_
    refine E_ret rfl rfl ?_
    exact q _ m (Or.inr ⟨(by omega), rfl, hS⟩) (fun _ _ _ => rfl)
end

