section
variable {len : Nat} {m : Mm} {Q : Option AV → Sx → Prop} {R : RD} {a : Nat}
theorem c_heightOf {p : Nat} (hp : p < 2147483648) (q : Q (some (aI (ht p : Int))) (m, tl len)) : E 25 0 [some (aI ((p : Nat) : Int))] [] (m, tl len) Q := by
  refine E_s (p' := 1) (st' := aI ((p : Nat) : Int) :: _) rfl rfl ?_
  refine E_s (p' := 3) (st' := aI 6 :: _) rfl rfl ?_
  refine E_shr (x := p) (y := 6) (v := (p) / 2 ^ 6) rfl (by omega) (by omega) rfl ?_
  refine E_ret rfl rfl ?_
  exact q
theorem c_sortOf {p : Nat} (hp : p < 2147483648) (q : Q (some (aI (so p : Int))) (m, tl len)) : E 41 0 [some (aI ((p : Nat) : Int))] [] (m, tl len) Q := by
  refine E_s (p' := 1) (st' := aI ((p : Nat) : Int) :: _) rfl rfl ?_
  refine E_s (p' := 2) (st' := aI 4 :: _) rfl rfl ?_
  refine E_shr (x := p) (y := 4) (v := (p) / 2 ^ 4) rfl (by have := Nat.div_le_self p (2 ^ 4); omega) (by omega) rfl ?_
  refine E_s (p' := 4) (st' := aI 3 :: _) rfl rfl ?_
  refine E_and (x := (p) / 2 ^ 4) (y := 3) (v := ((p) / 2 ^ 4) &&& 3) rfl (by have := Nat.div_le_self p (2 ^ 4); omega) (by omega) rfl ?_
  refine E_ret rfl rfl ?_
  rw [and_m _ 2]; exact q
theorem c_turnsOf {p : Nat} (hp : p < 2147483648) (q : Q (some (aI (tu p : Int))) (m, tl len)) : E 42 0 [some (aI ((p : Nat) : Int))] [] (m, tl len) Q := by
  refine E_s (p' := 1) (st' := aI ((p : Nat) : Int) :: _) rfl rfl ?_
  refine E_s (p' := 3) (st' := aI 15 :: _) rfl rfl ?_
  refine E_and (x := p) (y := 15) (v := (p) &&& 15) rfl (by omega) (by omega) rfl ?_
  refine E_ret rfl rfl ?_
  rw [and_m _ 4]; exact q
def pck (h s t : Nat) : Nat := 64 * h + 16 * s + t
theorem pck_or {h s t : Nat} (hs : s < 4) (ht : t < 16) : h * 2 ^ 6 ||| s * 2 ^ 4 ||| t = pck h s t := by
  have e1 : h * 2 ^ 6 ||| s * 2 ^ 4 = h * 2 ^ 6 + s * 2 ^ 4 := by
    rw [Nat.mul_comm h]
    exact (Nat.two_pow_add_eq_or_of_lt (i := 6) (b := s * 2 ^ 4) (by omega) h).symm
  have e2 : (h * 4 + s) * 2 ^ 4 ||| t = (h * 4 + s) * 2 ^ 4 + t := by
    rw [Nat.mul_comm (h * 4 + s)]
    exact (Nat.two_pow_add_eq_or_of_lt (i := 4) (b := t) (by omega) (h * 4 + s)).symm
  rw [e1, show h * 2 ^ 6 + s * 2 ^ 4 = (h * 4 + s) * 2 ^ 4 by omega, e2]
  unfold pck; omega
theorem c_pack {h s t : Nat} (hh : h ≤ 600) (hs : s < 4) (ht : t < 16) (q : Q (some (aI (pck h s t : Int))) (m, tl len)) : E 26 0 [some (aI ((h : Nat) : Int)), some (aI ((s : Nat) : Int)), some (aI ((t : Nat) : Int))] [] (m, tl len) Q := by
  refine E_s (p' := 1) (st' := aI ((h : Nat) : Int) :: _) rfl rfl ?_
  refine E_s (p' := 3) (st' := aI 6 :: _) rfl rfl ?_
  refine E_shl (x := h) (y := 6) (v := (h) * 2 ^ 6) rfl (by first | omega | exact Nat.or_lt_two_pow (n := 31) (by omega) (by omega)) (by omega) rfl ?_
  refine E_s (p' := 5) (st' := aI ((s : Nat) : Int) :: _) rfl rfl ?_
  refine E_s (p' := 6) (st' := aI 4 :: _) rfl rfl ?_
  refine E_shl (x := s) (y := 4) (v := (s) * 2 ^ 4) rfl (by first | omega | exact Nat.or_lt_two_pow (n := 31) (by omega) (by omega)) (by omega) rfl ?_
  refine E_or (x := (h) * 2 ^ 6) (y := (s) * 2 ^ 4) (v := ((h) * 2 ^ 6) ||| ((s) * 2 ^ 4)) rfl (by first | omega | exact Nat.or_lt_two_pow (n := 31) (by omega) (by omega)) (by omega) rfl ?_
  refine E_s (p' := 9) (st' := aI ((t : Nat) : Int) :: _) rfl rfl ?_
  refine E_or (x := ((h) * 2 ^ 6) ||| ((s) * 2 ^ 4)) (y := t) (v := (((h) * 2 ^ 6) ||| ((s) * 2 ^ 4)) ||| t) rfl (by first | omega | exact Nat.or_lt_two_pow (n := 31) (by omega) (by omega)) (by omega) rfl ?_
  refine E_ret rfl rfl ?_
  rw [pck_or hs ht]; exact q
theorem c_has {c : Int} (hR : isR a) (hC : CR R a m) (q1 : ∀ i : Nat, c = i → i < Cn R → Q (some (aI 1)) (m, tl len)) (q0 : (c < 0 ∨ (Cn R : Int) ≤ c) → Q (some (aI 0)) (m, tl len)) : E 17 0 [some (aA (a + 1)), some (aI (c))] [] (m, tl len) Q := by
  refine E_s (p' := 1) (st' := aI (c) :: _) rfl rfl ?_
  refine E_if_lt (x := (c)) rfl (by decide) (fun h_1 => ?_) (fun h_1 => ?_)
  · refine E_go (p' := 16) (L' := [some (aA (a + 1)), some (aI (c))]) (st' := []) rfl rfl rfl ?_
    refine E_s (p' := 17) (st' := aI 0 :: _) rfl rfl ?_
    refine E_ret rfl rfl ?_
    exact q0 (by omega)
  · refine E_go (p' := 4) (L' := [some (aA (a + 1)), some (aI (c))]) (st' := []) rfl rfl rfl ?_
    refine E_s (p' := 5) (st' := aI (c) :: _) rfl rfl ?_
    refine E_s (p' := 6) (st' := aA (a + 1) :: _) rfl rfl ?_
    refine E_gI (v := ((Cn R : Nat) : Int)) rfl rfl rfl (kR_1 hR) hC.1 ?_
    refine E_icmp_ge (x := (c)) (y := ((Cn R : Nat) : Int)) rfl (by decide) (fun h_2 => ?_) (fun h_2 => ?_)
    · refine E_go (p' := 16) (L' := [some (aA (a + 1)), some (aI (c))]) (st' := []) rfl rfl rfl ?_
      refine E_s (p' := 17) (st' := aI 0 :: _) rfl rfl ?_
      refine E_ret rfl rfl ?_
      exact q0 (by omega)
    · refine E_go (p' := 12) (L' := [some (aA (a + 1)), some (aI (c))]) (st' := []) rfl rfl rfl ?_
      refine E_s (p' := 13) (st' := aI 1 :: _) rfl rfl ?_
      refine E_s (p' := 17) rfl rfl ?_
      refine E_ret rfl rfl ?_
      exact q1 c.toNat (by omega) (by omega)
theorem c_recordOf {r : Int} (q1 : ∀ i : Nat, i < 4 → r = i → Q (some (aA (tgA i))) (m, tl len)) (q0 : (r < 0 ∨ 3 < r) → Q (some aN) (m, tl len)) : E 12 0 [some (aA 1), some (aI r)] [] (m, tl len) Q := by
  refine E_s (p' := 1) (st' := aI r :: _) rfl rfl ?_
  refine E_if_lt rfl (by decide) (fun h => ?_) (fun h => ?_)
  · refine E_s (p' := 19) (st' := aN :: _) rfl rfl ?_
    exact E_ret rfl rfl (q0 (by omega))
  refine E_s (p' := 5) (st' := aI r :: _) rfl rfl ?_
  refine E_s (p' := 6) (st' := aI 4 :: _) rfl rfl ?_
  refine E_icmp_ge rfl (by decide) (fun h => ?_) (fun h => ?_)
  · refine E_s (p' := 19) (st' := aN :: _) rfl rfl ?_
    exact E_ret rfl rfl (q0 (by omega))
  rcases (show r = 0 ∨ r = 1 ∨ r = 2 ∨ r = 3 by omega) with e | e | e | e
  · subst e
    refine E_s (p' := 10) (st' := aA 1 :: _) rfl rfl ?_
    refine E_s (p' := 13) (st' := aA 2 :: _) rfl rfl ?_
    refine E_s (p' := 14) (st' := aI 0 :: _) rfl rfl ?_
    refine E_s (p' := 15) (st' := aA 20 :: _) rfl rfl ?_
    refine E_s (p' := 19) rfl rfl ?_
    exact E_ret rfl rfl (q1 0 (by omega) rfl)
  · subst e
    refine E_s (p' := 10) (st' := aA 1 :: _) rfl rfl ?_
    refine E_s (p' := 13) (st' := aA 2 :: _) rfl rfl ?_
    refine E_s (p' := 14) (st' := aI 1 :: _) rfl rfl ?_
    refine E_s (p' := 15) (st' := aA 46 :: _) rfl rfl ?_
    refine E_s (p' := 19) rfl rfl ?_
    exact E_ret rfl rfl (q1 1 (by omega) rfl)
  · subst e
    refine E_s (p' := 10) (st' := aA 1 :: _) rfl rfl ?_
    refine E_s (p' := 13) (st' := aA 2 :: _) rfl rfl ?_
    refine E_s (p' := 14) (st' := aI 2 :: _) rfl rfl ?_
    refine E_s (p' := 15) (st' := aA 72 :: _) rfl rfl ?_
    refine E_s (p' := 19) rfl rfl ?_
    exact E_ret rfl rfl (q1 2 (by omega) rfl)
  · subst e
    refine E_s (p' := 10) (st' := aA 1 :: _) rfl rfl ?_
    refine E_s (p' := 13) (st' := aA 2 :: _) rfl rfl ?_
    refine E_s (p' := 14) (st' := aI 3 :: _) rfl rfl ?_
    refine E_s (p' := 15) (st' := aA 98 :: _) rfl rfl ?_
    refine E_s (p' := 19) rfl rfl ?_
    exact E_ret rfl rfl (q1 3 (by omega) rfl)
theorem c_canBeCord {c l : Int} (q1 : (0 ≤ c ∧ c ≤ 23) → (10 ≤ l ∧ l ≤ 600) → Q (some (aI 1)) (m, tl len)) (q0 : ¬ ((0 ≤ c ∧ c ≤ 23) ∧ 10 ≤ l ∧ l ≤ 600) → Q (some (aI 0)) (m, tl len)) : E 13 0 [some (aI (c)), some (aI (l))] [] (m, tl len) Q := by
  refine E_s (p' := 1) (st' := aI (c) :: _) rfl rfl ?_
  refine E_if_lt (x := (c)) rfl (by decide) (fun h_1 => ?_) (fun h_1 => ?_)
  · refine E_go (p' := 27) (L' := [some (aI (c)), some (aI (l))]) (st' := []) rfl rfl rfl ?_
    refine E_s (p' := 28) (st' := aI 0 :: _) rfl rfl ?_
    refine E_ret rfl rfl ?_
    exact q0 (by omega)
  · refine E_go (p' := 4) (L' := [some (aI (c)), some (aI (l))]) (st' := []) rfl rfl rfl ?_
    refine E_s (p' := 5) (st' := aI (c) :: _) rfl rfl ?_
    refine E_s (p' := 7) (st' := aI 24 :: _) rfl rfl ?_
    refine E_icmp_ge (x := (c)) (y := 24) rfl (by decide) (fun h_2 => ?_) (fun h_2 => ?_)
    · refine E_go (p' := 27) (L' := [some (aI (c)), some (aI (l))]) (st' := []) rfl rfl rfl ?_
      refine E_s (p' := 28) (st' := aI 0 :: _) rfl rfl ?_
      refine E_ret rfl rfl ?_
      exact q0 (by omega)
    · refine E_go (p' := 10) (L' := [some (aI (c)), some (aI (l))]) (st' := []) rfl rfl rfl ?_
      refine E_s (p' := 11) (st' := aI (l) :: _) rfl rfl ?_
      refine E_s (p' := 13) (st' := aI 10 :: _) rfl rfl ?_
      refine E_icmp_lt (x := (l)) (y := 10) rfl (by decide) (fun h_3 => ?_) (fun h_3 => ?_)
      · refine E_go (p' := 27) (L' := [some (aI (c)), some (aI (l))]) (st' := []) rfl rfl rfl ?_
        refine E_s (p' := 28) (st' := aI 0 :: _) rfl rfl ?_
        refine E_ret rfl rfl ?_
        exact q0 (by omega)
      · refine E_go (p' := 16) (L' := [some (aI (c)), some (aI (l))]) (st' := []) rfl rfl rfl ?_
        refine E_s (p' := 17) (st' := aI (l) :: _) rfl rfl ?_
        refine E_s (p' := 20) (st' := aI 600 :: _) rfl rfl ?_
        refine E_icmp_gt (x := (l)) (y := 600) rfl (by decide) (fun h_4 => ?_) (fun h_4 => ?_)
        · refine E_go (p' := 27) (L' := [some (aI (c)), some (aI (l))]) (st' := []) rfl rfl rfl ?_
          refine E_s (p' := 28) (st' := aI 0 :: _) rfl rfl ?_
          refine E_ret rfl rfl ?_
          exact q0 (by omega)
        · refine E_go (p' := 23) (L' := [some (aI (c)), some (aI (l))]) (st' := []) rfl rfl rfl ?_
          refine E_s (p' := 24) (st' := aI 1 :: _) rfl rfl ?_
          refine E_s (p' := 28) rfl rfl ?_
          refine E_ret rfl rfl ?_
          exact q1 (by omega) (by omega)
def kind (s t : Int) : Prop := (s = 1 ∧ 2 ≤ t ∧ t ≤ 9) ∨ ((s = 0 ∨ s = 2) ∧ t = 0)
theorem c_canBeKnot {c l : Int} (q1 : kind c l → Q (some (aI 1)) (m, tl len)) (q0 : ¬ kind c l → Q (some (aI 0)) (m, tl len)) : E 20 0 [some (aI (c)), some (aI (l))] [] (m, tl len) Q := by
  refine E_s (p' := 1) (st' := aI (c) :: _) rfl rfl ?_
  refine E_s (p' := 2) (st' := aI 1 :: _) rfl rfl ?_
  refine E_icmp_ne (x := (c)) (y := 1) rfl (by decide) (fun h_1 => ?_) (fun h_1 => ?_)
  · refine E_go (p' := 22) (L' := [some (aI (c)), some (aI (l))]) (st' := []) rfl rfl rfl ?_
    refine E_s (p' := 23) (st' := aI (c) :: _) rfl rfl ?_
    refine E_if_eq (x := (c)) rfl (by decide) (fun h_2 => ?_) (fun h_2 => ?_)
    · refine E_go (p' := 31) (L' := [some (aI (c)), some (aI (l))]) (st' := []) rfl rfl rfl ?_
      refine E_s (p' := 32) (st' := aI (l) :: _) rfl rfl ?_
      refine E_if_ne (x := (l)) rfl (by decide) (fun h_3 => ?_) (fun h_3 => ?_)
      · refine E_go (p' := 39) (L' := [some (aI (c)), some (aI (l))]) (st' := []) rfl rfl rfl ?_
        refine E_s (p' := 40) (st' := aI 0 :: _) rfl rfl ?_
        refine E_ret rfl rfl ?_
        exact q0 (by unfold kind; omega)
      · refine E_go (p' := 35) (L' := [some (aI (c)), some (aI (l))]) (st' := []) rfl rfl rfl ?_
        refine E_s (p' := 36) (st' := aI 1 :: _) rfl rfl ?_
        refine E_s (p' := 40) rfl rfl ?_
        refine E_ret rfl rfl ?_
        exact q1 (by unfold kind; omega)
    · refine E_go (p' := 26) (L' := [some (aI (c)), some (aI (l))]) (st' := []) rfl rfl rfl ?_
      refine E_s (p' := 27) (st' := aI (c) :: _) rfl rfl ?_
      refine E_s (p' := 28) (st' := aI 2 :: _) rfl rfl ?_
      refine E_icmp_ne (x := (c)) (y := 2) rfl (by decide) (fun h_4 => ?_) (fun h_4 => ?_)
      · refine E_go (p' := 39) (L' := [some (aI (c)), some (aI (l))]) (st' := []) rfl rfl rfl ?_
        refine E_s (p' := 40) (st' := aI 0 :: _) rfl rfl ?_
        refine E_ret rfl rfl ?_
        exact q0 (by unfold kind; omega)
      · refine E_go (p' := 31) (L' := [some (aI (c)), some (aI (l))]) (st' := []) rfl rfl rfl ?_
        refine E_s (p' := 32) (st' := aI (l) :: _) rfl rfl ?_
        refine E_if_ne (x := (l)) rfl (by decide) (fun h_5 => ?_) (fun h_5 => ?_)
        · refine E_go (p' := 39) (L' := [some (aI (c)), some (aI (l))]) (st' := []) rfl rfl rfl ?_
          refine E_s (p' := 40) (st' := aI 0 :: _) rfl rfl ?_
          refine E_ret rfl rfl ?_
          exact q0 (by unfold kind; omega)
        · refine E_go (p' := 35) (L' := [some (aI (c)), some (aI (l))]) (st' := []) rfl rfl rfl ?_
          refine E_s (p' := 36) (st' := aI 1 :: _) rfl rfl ?_
          refine E_s (p' := 40) rfl rfl ?_
          refine E_ret rfl rfl ?_
          exact q1 (by unfold kind; omega)
  · refine E_go (p' := 5) (L' := [some (aI (c)), some (aI (l))]) (st' := []) rfl rfl rfl ?_
    refine E_s (p' := 6) (st' := aI (l) :: _) rfl rfl ?_
    refine E_s (p' := 7) (st' := aI 2 :: _) rfl rfl ?_
    refine E_icmp_lt (x := (l)) (y := 2) rfl (by decide) (fun h_6 => ?_) (fun h_6 => ?_)
    · refine E_go (p' := 20) (L' := [some (aI (c)), some (aI (l))]) (st' := []) rfl rfl rfl ?_
      refine E_s (p' := 21) (st' := aI 0 :: _) rfl rfl ?_
      refine E_ret rfl rfl ?_
      exact q0 (by unfold kind; omega)
    · refine E_go (p' := 10) (L' := [some (aI (c)), some (aI (l))]) (st' := []) rfl rfl rfl ?_
      refine E_s (p' := 11) (st' := aI (l) :: _) rfl rfl ?_
      refine E_s (p' := 13) (st' := aI 9 :: _) rfl rfl ?_
      refine E_icmp_gt (x := (l)) (y := 9) rfl (by decide) (fun h_7 => ?_) (fun h_7 => ?_)
      · refine E_go (p' := 20) (L' := [some (aI (c)), some (aI (l))]) (st' := []) rfl rfl rfl ?_
        refine E_s (p' := 21) (st' := aI 0 :: _) rfl rfl ?_
        refine E_ret rfl rfl ?_
        exact q0 (by unfold kind; omega)
      · refine E_go (p' := 16) (L' := [some (aI (c)), some (aI (l))]) (st' := []) rfl rfl rfl ?_
        refine E_s (p' := 17) (st' := aI 1 :: _) rfl rfl ?_
        refine E_s (p' := 21) rfl rfl ?_
        refine E_ret rfl rfl ?_
        exact q1 (by unfold kind; omega)
end
section
variable {len : Nat} {m : Mm} {Q : Option AV → Sx → Prop} {b N f n : Nat} {P : Nat → Nat} {h : Int}
theorem l_countAbove (hb : kd b = (1, N)) (hn : f + n ≤ N) (hN : N ≤ 100000) (hP : ∀ e k : Nat, k < n → e = f + k → m b e = (P k : Int)) (hp : ∀ k, k < n → P k < 2147483648) (q : ∀ k : Nat, k ≤ n → (∀ i, i < k → (ht (P i) : Int) < h) → (k < n → h ≤ (ht (P k) : Int)) → Q (some (aI (k : Int))) (m, tl len)) : ∀ (d : Nat) (k : Nat), (n < k + d) → (k ≤ n) → (∀ i, i < k → (ht (P i) : Int) < h) → E 24 3 [some (aA b), some (aI ((f : Nat) : Int)), some (aI ((n : Nat) : Int)), some (aI (h)), some (aI ((k : Nat) : Int))] [] (m, tl len) Q := by
  intro d
  induction d with
  | zero => intro k hd hk hlt; omega
  | succ d ih =>
    intro k hd hk hlt
    refine E_s (p' := 5) (st' := aI ((k : Nat) : Int) :: _) rfl rfl ?_
    refine E_s (p' := 6) (st' := aI ((n : Nat) : Int) :: _) rfl rfl ?_
    refine E_icmp_ge (x := ((k : Nat) : Int)) (y := ((n : Nat) : Int)) rfl (by decide) (fun h_1 => ?_) (fun h_1 => ?_)
    · refine E_go (p' := 28) (L' := [some (aA b), some (aI ((f : Nat) : Int)), some (aI ((n : Nat) : Int)), some (aI (h)), some (aI ((k : Nat) : Int))]) (st' := []) rfl rfl rfl ?_
      refine E_s (p' := 30) (st' := aI ((k : Nat) : Int) :: _) rfl rfl ?_
      refine E_ret rfl rfl ?_
      exact q k hk hlt (fun _ => by first | assumption | omega)
    · refine E_go (p' := 9) (L' := [some (aA b), some (aI ((f : Nat) : Int)), some (aI ((n : Nat) : Int)), some (aI (h)), some (aI ((k : Nat) : Int))]) (st' := []) rfl rfl rfl ?_
      refine E_s (p' := 10) (st' := aA b :: _) rfl rfl ?_
      refine E_s (p' := 11) (st' := aI ((f : Nat) : Int) :: _) rfl rfl ?_
      refine E_s (p' := 13) (st' := aI ((k : Nat) : Int) :: _) rfl rfl ?_
      refine E_add (v := ((f + k : Nat) : Int)) rfl (by omega) (by omega) ?_
      refine E_ald (e := f + k) (N := N) (v := ((P k : Nat) : Int)) rfl hb (rfl) (by omega) (hP _ _ (by omega) (by omega)) ?_
      refine E_callL (p' := 18) (L0 := [some (aI ((P k : Nat) : Int))]) rfl rfl rfl ?_
      refine c_heightOf (p := P k) (hp _ (by omega)) ?_
      refine E_go (p' := 18) (L' := [some (aA b), some (aI ((f : Nat) : Int)), some (aI ((n : Nat) : Int)), some (aI (h)), some (aI ((k : Nat) : Int))]) (st' := [aI ((ht (P k) : Nat) : Int)]) rfl rfl rfl ?_
      refine E_s (p' := 19) (st' := aI (h) :: _) rfl rfl ?_
      refine E_icmp_ge (x := ((ht (P k) : Nat) : Int)) (y := (h)) rfl (by decide) (fun h_2 => ?_) (fun h_2 => ?_)
      · refine E_go (p' := 28) (L' := [some (aA b), some (aI ((f : Nat) : Int)), some (aI ((n : Nat) : Int)), some (aI (h)), some (aI ((k : Nat) : Int))]) (st' := []) rfl rfl rfl ?_
        refine E_s (p' := 30) (st' := aI ((k : Nat) : Int) :: _) rfl rfl ?_
        refine E_ret rfl rfl ?_
        exact q k hk hlt (fun _ => by first | assumption | omega)
      · refine E_go (p' := 22) (L' := [some (aA b), some (aI ((f : Nat) : Int)), some (aI ((n : Nat) : Int)), some (aI (h)), some (aI ((k : Nat) : Int))]) (st' := []) rfl rfl rfl ?_
        refine E_inc (x := ((k : Nat) : Int)) (w := ((k + 1 : Nat) : Int)) (L' := [some (aA b), some (aI ((f : Nat) : Int)), some (aI ((n : Nat) : Int)), some (aI (h)), some (aI ((k + 1 : Nat) : Int))]) rfl rfl rfl (by omega) (by omega) rfl ?_
        refine E_s (p' := 3) rfl rfl ?_
        exact ih (k + 1) (by omega) (by omega) (fun i hi => by rcases Nat.lt_succ_iff_lt_or_eq.mp hi with g | g; exact hlt i g; subst g; assumption)
theorem c_countAbove (hb : kd b = (1, N)) (hn : f + n ≤ N) (hN : N ≤ 100000) (hP : ∀ e k : Nat, k < n → e = f + k → m b e = (P k : Int)) (hp : ∀ k, k < n → P k < 2147483648) (q : ∀ k : Nat, k ≤ n → (∀ i, i < k → (ht (P i) : Int) < h) → (k < n → h ≤ (ht (P k) : Int)) → Q (some (aI (k : Int))) (m, tl len)) : E 24 0 [some (aA b), some (aI ((f : Nat) : Int)), some (aI ((n : Nat) : Int)), some (aI (h)), none] [] (m, tl len) Q := by
  refine E_s (p' := 1) (st' := aI 0 :: _) rfl rfl ?_
  refine E_s (p' := 3) (L' := [some (aA b), some (aI ((f : Nat) : Int)), some (aI ((n : Nat) : Int)), some (aI (h)), some (aI 0)]) rfl rfl ?_
  exact l_countAbove hb hn hN hP hp q (n + 1) 0 (by omega) (by omega) (fun i hi => absurd hi (by omega))
end
