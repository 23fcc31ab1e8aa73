section
variable {k pc n len : Nat} {L : Lc} {r : List AV} {Q : Option AV → Sx → Prop} {s : Sx} {d : Int} {x y : Bool}
theorem E_bb_ne (hi : ins k pc = some (.if_icmp .ne d, n)) (h0 : 0 ≤ (pc : Int) + d) (kt : (x == y) = false → E k ((pc : Int) + d).toNat L r s Q) (kf : (x == y) = true → E k (pc + n) L r s Q) : E k pc L (aI (bi y) :: aI (bi x) :: r) s Q := by
  cases x <;> cases y <;> refine E_icmp_ne hi h0 (fun h => ?_) (fun h => ?_)
  all_goals first
    | exact kf rfl
    | exact kt rfl
    | exact absurd rfl h
    | exact absurd h (by decide)
theorem E_bb_eq (hi : ins k pc = some (.if_icmp .eq d, n)) (h0 : 0 ≤ (pc : Int) + d) (kt : (x == y) = true → E k ((pc : Int) + d).toNat L r s Q) (kf : (x == y) = false → E k (pc + n) L r s Q) : E k pc L (aI (bi y) :: aI (bi x) :: r) s Q := by
  cases x <;> cases y <;> refine E_icmp_eq hi h0 (fun h => ?_) (fun h => ?_)
  all_goals first
    | exact kf rfl
    | exact kt rfl
    | exact absurd rfl h
    | exact absurd h (by decide)
theorem E_mulN {x y : Nat} (hi : ins k pc = some (.imul, n)) (hr : x * y ≤ 2147483647) (kk : E k (pc + n) L (aI ((x * y : Nat) : Int) :: r) s Q) : E k pc L (aI (y : Int) :: aI (x : Int) :: r) s Q := by
  refine E_mul (v := ((x * y : Nat) : Int)) hi (by simp) ?_ kk
  omega
end
theorem lvo_le (la : Nat → Nat) (p : Nat) : ∀ d l, lvo la p d l ≤ l + d := by
  intro d
  induction d with
  | zero => intro l; exact Nat.le_refl _
  | succ d ih =>
    intro l
    show (if la l < p then lvo la p d (l + 1) else l) ≤ _
    split
    · have := ih (l + 1); omega
    · omega
theorem Rlo_lt {R : RD} (h : 1 ≤ RL R) (p : Nat) : Rlo R p < RL R := by
  have := lvo_le (Rla R) p (RL R - 1) 0
  unfold Rlo
  omega
theorem RL_mx (R : RD) : RL R ≤ mxv (Run R) := by
  unfold RL
  show (if mxv (Run R) < _ then 0 else _) ≤ _
  split <;> omega
theorem Rct_le {R : RD} (h : 1 ≤ RL R) (l : Nat) : Rct R l ≤ 1000000 := pw_le (RL_mx R) (show RL R - 1 - l ≤ RL R by omega)
theorem lst_v (R : RD) (c l : Nat) : lst R c l = lstv (Rla R) (Ct R c) l := rfl
section
variable {R : RD} {c : Nat} {l : List (Nat × (Nat × Nat))} {x : Nat × (Nat × Nat)}
theorem rMany_app : rMany R (l ++ [x]) = (rMany R l || (decide (x.2.1 = 0) && decide (9 < x.2.2))) := by unfold rMany; rw [List.any_append]; simp
theorem rAs_app : rAs R (l ++ [x]) = (rAs R l || (decide (x.2.1 = 0) == (Run R && decide (Rlo R x.1 + 1 = RL R)))) := by unfold rAs; rw [List.any_append]; simp
theorem rTw_app : rTw R (l ++ [x]).reverse = (rTw R l.reverse || l.any fun p => Rlo R p.1 == Rlo R x.1) := by
  rw [List.reverse_append]
  show (rTw R l.reverse || l.reverse.any fun p => Rlo R p.1 == Rlo R x.1) = _
  rw [List.any_reverse]
theorem rSum_app : rSum R c (l ++ [x]) = rSum R c l + (bif lst R c (Rlo R x.1) then 0 else x.2.2 * Rct R (Rlo R x.1)) := by unfold rSum; rw [List.map_append, List.sum_append]; simp
theorem sn_0 {s i : Nat} {b : Bool} (h : s.testBit i = b) : (!decide (((s / 2 ^ i &&& 1 : Nat) : Int) = 0)) = b := by
  rw [← h, Nat.testBit_eq_decide_div_mod_eq, Nat.and_one_is_mod]
  have := Nat.mod_two_eq_zero_or_one (s / 2 ^ i)
  rcases this with e | e <;> rw [e] <;> rfl
theorem sn_up {s i j : Nat} {f : Nat → Bool} (h : s.testBit j = f j) : (s ||| 1 * 2 ^ i).testBit j = (f j || (i == j)) := by
  rw [Nat.testBit_or, h, Nat.one_mul, Nat.testBit_two_pow]
  congr 1
end
theorem cls_wb {R : RD} (hV : VR R) {c : Nat} (hc : c < Cn R) : ∀ k, k ≤ Ck R c → ∀ q ∈ cls R c k, q.2.2 ≤ 30 := by
  intro k
  induction k with
  | zero => intro _ q hq; cases hq
  | succ k ih =>
    intro hk q hq
    cases he : ends R c k with
    | true =>
      rw [cls_t he] at hq
      rcases List.mem_append.mp hq with g | g
      · exact ih (by omega) q g
      · rw [List.mem_singleton.mp g]; exact (clw_b hV hc (by omega)).2
    | false => rw [cls_f he] at hq; exact ih (by omega) q hq
theorem rSum_le {R : RD} (h : 1 ≤ RL R) {c : Nat} : ∀ (l : List (Nat × (Nat × Nat))), (∀ q ∈ l, q.2.2 ≤ 30) → rSum R c l ≤ 30000000 * l.length := by
  intro l
  induction l with
  | nil => intro _; exact Nat.le_refl _
  | cons q r ih =>
    intro hq
    have h1 := ih (fun p hp => hq p (List.mem_cons_of_mem _ hp))
    have h2 := hq q List.mem_cons_self
    have h3 := Rct_le h (Rlo R q.1)
    have h4 : q.2.2 * Rct R (Rlo R q.1) ≤ 30 * 1000000 := Nat.mul_le_mul h2 h3
    show (bif lst R c (Rlo R q.1) then 0 else q.2.2 * Rct R (Rlo R q.1)) + rSum R c r ≤ 30000000 * (r.length + 1)
    cases lst R c (Rlo R q.1)
    · show q.2.2 * Rct R (Rlo R q.1) + _ ≤ _; omega
    · show 0 + _ ≤ _; omega
/-- what reading a CORD rests on -/
def RL0 (R : RD) (a : Nat) (m : Mm) : Prop := m (a + 15) 11 = bi (Run R) ∧ m (a + 15) 12 = (RL R : Int) ∧ (∀ l, l < RL R → m (a + 17) l = (Rla R l : Int)) ∧ (∀ l, l < RL R → m (a + 18) l = (Rct R l : Int))
section
variable {len : Nat} {m0 : Mm} {Q : Option AV → Sx → Prop} {R : RD} {a c : Nat}
theorem yl_rc (hR : isR a) (hC : CR R a m0) (hV : VR R) (hc : c < Cn R) (h1 : 1 ≤ RL R) (hL : RL0 R a m0) (q : ∀ m1 : Mm, (∀ b j, ¬ (a + 21 ≤ b ∧ b ≤ a + 23 ∧ j = c) → b ≠ a + 25 → m1 b j = m0 b j) → m1 (a + 21) c = (Rft R c : Int) → m1 (a + 22) c = (Rvl R c : Int) → m1 (a + 23) c = (Rls R c : Int) → Q none (m1, tl len)) : ∀ (d : Nat) (k : Nat) (b1 b2 b3 : Bool) (sn w : Nat) (m : Mm) (x9 : Option AV), (Ck R c < k + d) → (k ≤ Ck R c) → (b1 = rMany R (cls R c k)) → (b2 = rTw R (cls R c k).reverse) → (b3 = rAs R (cls R c k)) → (sn < 64) → (∀ j, j < 6 → sn.testBit j = (cls R c k).any fun q => Rlo R q.1 == j) → (w = rSum R c (cls R c k)) → (Fx (a + 25) (a + 25) m0 m) → (m (a + 25) 3 = (beg R c k : Int)) → E 47 24 [some (aA (a + 15)), some (aA (a + 1)), some (aI ((c : Nat) : Int)), some (aI (bi b1)), some (aI (bi b2)), some (aI (bi b3)), some (aI ((sn : Nat) : Int)), some (aI ((w : Nat) : Int)), some (aI ((k : Nat) : Int)), x9] [] (m, tl len) Q := by
  intro d
  induction d with
  | zero => intro k b1 b2 b3 sn w m x9 hd hkk e1 e2 e3 hs64 hsb ew I1 hb; omega
  | succ d ih =>
    intro k b1 b2 b3 sn w m x9 hd hkk e1 e2 e3 hs64 hsb ew I1 hb
    have hCm : CR R a m := hC.of (fun b j g1 g2 _ => I1 b j (by omega))
    have hn60 := hV.1
    have hab := isR_b hR
    have hk30 := (hV.2.2.1 c hc).2.2.2.2.2
    have hl1 := cls_len R c k
    have hmx := RL_mx R
    have hm6 : mxv (Run R) ≤ 6 := by cases Run R <;> decide
    have hwb := rSum_le (c := c) h1 (cls R c k) (cls_wb hV hc k hkk)
    rw [← ew] at hwb
    refine E_s (p' := 26) (st' := aI ((k : Nat) : Int) :: _) rfl rfl ?_
    refine E_s (p' := 27) (st' := aA (a + 1) :: _) rfl rfl ?_
    refine E_gA (b := a + 7) rfl rfl rfl (kR_1 hR) (hR_1_5 hR) rfl ?_
    refine E_s (p' := 31) (st' := aI ((c : Nat) : Int) :: _) rfl rfl ?_
    refine E_ald (e := c) (N := 60) (v := ((Ck R c : Nat) : Int)) rfl (kR_7 hR) (rfl) (by omega) (CR_7 hCm (by omega)) ?_
    refine E_icmp_ge (x := ((k : Nat) : Int)) (y := ((Ck R c : Nat) : Int)) rfl (by decide) (fun h_1 => ?_) (fun h_1 => ?_)
    · refine E_go (p' := 212) (L' := [some (aA (a + 15)), some (aA (a + 1)), some (aI ((c : Nat) : Int)), some (aI (bi b1)), some (aI (bi b2)), some (aI (bi b3)), some (aI ((sn : Nat) : Int)), some (aI ((w : Nat) : Int)), some (aI ((k : Nat) : Int)), x9]) (st' := []) rfl rfl rfl ?_
      refine E_s (p' := 213) (st' := aA (a + 15) :: _) rfl rfl ?_
      refine E_gA (b := a + 21) rfl rfl rfl (kR_15 hR) (hR_15_5 hR) rfl ?_
      refine E_s (p' := 217) (st' := aI ((c : Nat) : Int) :: _) rfl rfl ?_
      refine E_s (p' := 218) (st' := aI (bi b1) :: _) rfl rfl ?_
      refine E_b_eq0 (b := b1) rfl (by decide) (fun h_2 => ?_) (fun h_2 => ?_)
      · refine E_go (p' := 225) (L' := [some (aA (a + 15)), some (aA (a + 1)), some (aI ((c : Nat) : Int)), some (aI (bi b1)), some (aI (bi b2)), some (aI (bi b3)), some (aI ((sn : Nat) : Int)), some (aI ((w : Nat) : Int)), some (aI ((k : Nat) : Int)), x9]) (st' := [aI ((c : Nat) : Int), aA (a + 21)]) rfl rfl rfl ?_
        refine E_s (p' := 227) (st' := aI (bi b2) :: _) rfl rfl ?_
        refine E_b_eq0 (b := b2) rfl (by decide) (fun h_3 => ?_) (fun h_3 => ?_)
        · refine E_go (p' := 234) (L' := [some (aA (a + 15)), some (aA (a + 1)), some (aI ((c : Nat) : Int)), some (aI (bi b1)), some (aI (bi b2)), some (aI (bi b3)), some (aI ((sn : Nat) : Int)), some (aI ((w : Nat) : Int)), some (aI ((k : Nat) : Int)), x9]) (st' := [aI ((c : Nat) : Int), aA (a + 21)]) rfl rfl rfl ?_
          refine E_s (p' := 236) (st' := aI (bi b3) :: _) rfl rfl ?_
          refine E_b_eq0 (b := b3) rfl (by decide) (fun h_4 => ?_) (fun h_4 => ?_)
          · refine E_go (p' := 243) (L' := [some (aA (a + 15)), some (aA (a + 1)), some (aI ((c : Nat) : Int)), some (aI (bi b1)), some (aI (bi b2)), some (aI (bi b3)), some (aI ((sn : Nat) : Int)), some (aI ((w : Nat) : Int)), some (aI ((k : Nat) : Int)), x9]) (st' := [aI ((c : Nat) : Int), aA (a + 21)]) rfl rfl rfl ?_
            refine E_s (p' := 244) (st' := aI 0 :: _) rfl rfl ?_
            refine E_ast (e := c) (N := 60) rfl (kR_21 hR) (rfl) (by omega) ?_
            refine E_s (p' := 246) (st' := aA (a + 15) :: _) rfl rfl ?_
            refine E_gA (b := a + 22) rfl rfl rfl (kR_15 hR) (hR_15_6 hR) rfl ?_
            refine E_s (p' := 250) (st' := aI ((c : Nat) : Int) :: _) rfl rfl ?_
            refine E_s (p' := 251) (st' := aA (a + 15) :: _) rfl rfl ?_
            refine E_gA (b := a + 21) rfl rfl rfl (kR_15 hR) (hR_15_5 hR) rfl ?_
            refine E_s (p' := 255) (st' := aI ((c : Nat) : Int) :: _) rfl rfl ?_
            refine E_ald (e := c) (N := 60) (v := 0) rfl (kR_21 hR) (rfl) (by omega) up2_eq ?_
            refine E_s (p' := 259) rfl rfl ?_
            refine E_s (p' := 261) (st' := aI ((w : Nat) : Int) :: _) rfl rfl ?_
            refine E_s (p' := 265) rfl rfl ?_
            refine E_ast (e := c) (N := 60) rfl (kR_22 hR) (rfl) (by omega) ?_
            refine E_s (p' := 267) (st' := aA (a + 15) :: _) rfl rfl ?_
            refine E_gA (b := a + 23) rfl rfl rfl (kR_15 hR) (hR_15_7 hR) rfl ?_
            refine E_s (p' := 271) (st' := aI ((c : Nat) : Int) :: _) rfl rfl ?_
            refine E_s (p' := 272) (st' := aA (a + 15) :: _) rfl rfl ?_
            refine E_gA (b := a + 21) rfl rfl rfl (kR_15 hR) (hR_15_5 hR) rfl ?_
            refine E_s (p' := 276) (st' := aI ((c : Nat) : Int) :: _) rfl rfl ?_
            refine E_ald (e := c) (N := 60) (v := 0) rfl (kR_21 hR) (rfl) (by omega) ((up2_ne (by omega)).trans (up2_eq)) ?_
            refine E_s (p' := 280) rfl rfl ?_
            refine E_s (p' := 281) (st' := aA (a + 15) :: _) rfl rfl ?_
            refine E_s (p' := 282) (st' := aA (a + 1) :: _) rfl rfl ?_
            refine E_gA (b := a + 6) rfl rfl rfl (kR_1 hR) (hR_1_4 hR) rfl ?_
            refine E_s (p' := 286) (st' := aI ((c : Nat) : Int) :: _) rfl rfl ?_
            refine E_ald (e := c) (N := 60) (v := ((Ct R c : Nat) : Int)) rfl (kR_6 hR) (rfl) (by omega) ((up2_ne (by omega)).trans ((up2_ne (by omega)).trans (((I1 _ _ (by omega)).trans (CR_6 hC hc))))) ?_
            refine E_callV (k' := 50) (a := a + 15) (r := [aI ((c : Nat) : Int), aA (a + 23)]) (L0 := [some (aA (a + 15)), some (aI ((Ct R c : Nat) : Int)), none, none]) rfl rfl rfl rfl rfl (kR_15 hR) rfl rfl rfl rfl ?_
            refine c_lostOf (n := RL R) (La := Rla R) (Co9 := Rct R) (u := Run R) hR (by omega) (((up2_ne (by omega)).trans (up2_ne (by omega))).trans ((I1 _ _ (by omega)).trans hL.2.1)) (fun l hl => ((up2_ne (by omega)).trans (up2_ne (by omega))).trans ((I1 _ _ (by omega)).trans (hL.2.2.1 l hl))) (((up2_ne (by omega)).trans (up2_ne (by omega))).trans ((I1 _ _ (by omega)).trans hL.1)) (fun l hl => ((up2_ne (by omega)).trans (up2_ne (by omega))).trans ((I1 _ _ (by omega)).trans (hL.2.2.2 l hl))) (fun l _ => Rct_le h1 l) h1 ?_
            refine E_go (p' := 290) (L' := [some (aA (a + 15)), some (aA (a + 1)), some (aI ((c : Nat) : Int)), some (aI (bi b1)), some (aI (bi b2)), some (aI (bi b3)), some (aI ((sn : Nat) : Int)), some (aI ((w : Nat) : Int)), some (aI ((k : Nat) : Int)), x9]) (st' := [aI ((rLost R c : Nat) : Int), aI ((c : Nat) : Int), aA (a + 23)]) rfl rfl rfl ?_
            refine E_s (p' := 294) rfl rfl ?_
            refine E_ast (e := c) (N := 60) rfl (kR_23 hR) (rfl) (by omega) ?_
            refine E_ret rfl rfl ?_
            have ek : k = Ck R c := by omega
            subst ek
            have hft : Rft R c = 0 := by unfold Rft; rw [if_neg (by omega)]; show (bif rMany R (cls R c (Ck R c)) then _ else bif rTw R (cls R c (Ck R c)).reverse then _ else bif rAs R (cls R c (Ck R c)) then _ else _) = _; rw [← e1, ← e2, ← e3]; simp [*]
            exact q _ (fun b j g1 g2 => ((up2_o (by omega)).trans ((up2_o (by omega)).trans (up2_o (by omega)))).trans (I1 b j (by omega))) (((up2_ne (by omega)).trans ((up2_ne (by omega)).trans (up2_eq))).trans (by rw [hft]; rfl)) (((up2_ne (by omega)).trans (up2_eq)).trans (by unfold Rvl; rw [if_neg (by omega), hft]; rw [if_pos rfl, ew]; rfl)) ((up2_eq).trans (by unfold Rls; rw [if_neg (by omega), hft]; rw [if_pos rfl]))
          · refine E_go (p' := 239) (L' := [some (aA (a + 15)), some (aA (a + 1)), some (aI ((c : Nat) : Int)), some (aI (bi b1)), some (aI (bi b2)), some (aI (bi b3)), some (aI ((sn : Nat) : Int)), some (aI ((w : Nat) : Int)), some (aI ((k : Nat) : Int)), x9]) (st' := [aI ((c : Nat) : Int), aA (a + 21)]) rfl rfl rfl ?_
            refine E_s (p' := 240) (st' := aI 4 :: _) rfl rfl ?_
            refine E_s (p' := 244) rfl rfl ?_
            refine E_ast (e := c) (N := 60) rfl (kR_21 hR) (rfl) (by omega) ?_
            refine E_s (p' := 246) (st' := aA (a + 15) :: _) rfl rfl ?_
            refine E_gA (b := a + 22) rfl rfl rfl (kR_15 hR) (hR_15_6 hR) rfl ?_
            refine E_s (p' := 250) (st' := aI ((c : Nat) : Int) :: _) rfl rfl ?_
            refine E_s (p' := 251) (st' := aA (a + 15) :: _) rfl rfl ?_
            refine E_gA (b := a + 21) rfl rfl rfl (kR_15 hR) (hR_15_5 hR) rfl ?_
            refine E_s (p' := 255) (st' := aI ((c : Nat) : Int) :: _) rfl rfl ?_
            refine E_ald (e := c) (N := 60) (v := 4) rfl (kR_21 hR) (rfl) (by omega) up2_eq ?_
            refine E_s (p' := 264) rfl rfl ?_
            refine E_s (p' := 265) (st' := aI 0 :: _) rfl rfl ?_
            refine E_ast (e := c) (N := 60) rfl (kR_22 hR) (rfl) (by omega) ?_
            refine E_s (p' := 267) (st' := aA (a + 15) :: _) rfl rfl ?_
            refine E_gA (b := a + 23) rfl rfl rfl (kR_15 hR) (hR_15_7 hR) rfl ?_
            refine E_s (p' := 271) (st' := aI ((c : Nat) : Int) :: _) rfl rfl ?_
            refine E_s (p' := 272) (st' := aA (a + 15) :: _) rfl rfl ?_
            refine E_gA (b := a + 21) rfl rfl rfl (kR_15 hR) (hR_15_5 hR) rfl ?_
            refine E_s (p' := 276) (st' := aI ((c : Nat) : Int) :: _) rfl rfl ?_
            refine E_ald (e := c) (N := 60) (v := 4) rfl (kR_21 hR) (rfl) (by omega) ((up2_ne (by omega)).trans (up2_eq)) ?_
            refine E_s (p' := 293) rfl rfl ?_
            refine E_s (p' := 294) (st' := aI 0 :: _) rfl rfl ?_
            refine E_ast (e := c) (N := 60) rfl (kR_23 hR) (rfl) (by omega) ?_
            refine E_ret rfl rfl ?_
            have ek : k = Ck R c := by omega
            subst ek
            have hft : Rft R c = 4 := by unfold Rft; rw [if_neg (by omega)]; show (bif rMany R (cls R c (Ck R c)) then _ else bif rTw R (cls R c (Ck R c)).reverse then _ else bif rAs R (cls R c (Ck R c)) then _ else _) = _; rw [← e1, ← e2, ← e3]; simp [*]
            exact q _ (fun b j g1 g2 => ((up2_o (by omega)).trans ((up2_o (by omega)).trans (up2_o (by omega)))).trans (I1 b j (by omega))) (((up2_ne (by omega)).trans ((up2_ne (by omega)).trans (up2_eq))).trans (by rw [hft]; rfl)) (((up2_ne (by omega)).trans (up2_eq)).trans (by unfold Rvl; rw [if_neg (by omega), hft]; rfl)) ((up2_eq).trans (by unfold Rls; rw [if_neg (by omega), hft]; rfl))
        · refine E_go (p' := 230) (L' := [some (aA (a + 15)), some (aA (a + 1)), some (aI ((c : Nat) : Int)), some (aI (bi b1)), some (aI (bi b2)), some (aI (bi b3)), some (aI ((sn : Nat) : Int)), some (aI ((w : Nat) : Int)), some (aI ((k : Nat) : Int)), x9]) (st' := [aI ((c : Nat) : Int), aA (a + 21)]) rfl rfl rfl ?_
          refine E_s (p' := 231) (st' := aI 3 :: _) rfl rfl ?_
          refine E_s (p' := 244) rfl rfl ?_
          refine E_ast (e := c) (N := 60) rfl (kR_21 hR) (rfl) (by omega) ?_
          refine E_s (p' := 246) (st' := aA (a + 15) :: _) rfl rfl ?_
          refine E_gA (b := a + 22) rfl rfl rfl (kR_15 hR) (hR_15_6 hR) rfl ?_
          refine E_s (p' := 250) (st' := aI ((c : Nat) : Int) :: _) rfl rfl ?_
          refine E_s (p' := 251) (st' := aA (a + 15) :: _) rfl rfl ?_
          refine E_gA (b := a + 21) rfl rfl rfl (kR_15 hR) (hR_15_5 hR) rfl ?_
          refine E_s (p' := 255) (st' := aI ((c : Nat) : Int) :: _) rfl rfl ?_
          refine E_ald (e := c) (N := 60) (v := 3) rfl (kR_21 hR) (rfl) (by omega) up2_eq ?_
          refine E_s (p' := 264) rfl rfl ?_
          refine E_s (p' := 265) (st' := aI 0 :: _) rfl rfl ?_
          refine E_ast (e := c) (N := 60) rfl (kR_22 hR) (rfl) (by omega) ?_
          refine E_s (p' := 267) (st' := aA (a + 15) :: _) rfl rfl ?_
          refine E_gA (b := a + 23) rfl rfl rfl (kR_15 hR) (hR_15_7 hR) rfl ?_
          refine E_s (p' := 271) (st' := aI ((c : Nat) : Int) :: _) rfl rfl ?_
          refine E_s (p' := 272) (st' := aA (a + 15) :: _) rfl rfl ?_
          refine E_gA (b := a + 21) rfl rfl rfl (kR_15 hR) (hR_15_5 hR) rfl ?_
          refine E_s (p' := 276) (st' := aI ((c : Nat) : Int) :: _) rfl rfl ?_
          refine E_ald (e := c) (N := 60) (v := 3) rfl (kR_21 hR) (rfl) (by omega) ((up2_ne (by omega)).trans (up2_eq)) ?_
          refine E_s (p' := 293) rfl rfl ?_
          refine E_s (p' := 294) (st' := aI 0 :: _) rfl rfl ?_
          refine E_ast (e := c) (N := 60) rfl (kR_23 hR) (rfl) (by omega) ?_
          refine E_ret rfl rfl ?_
          have ek : k = Ck R c := by omega
          subst ek
          have hft : Rft R c = 3 := by unfold Rft; rw [if_neg (by omega)]; show (bif rMany R (cls R c (Ck R c)) then _ else bif rTw R (cls R c (Ck R c)).reverse then _ else bif rAs R (cls R c (Ck R c)) then _ else _) = _; rw [← e1, ← e2, ← e3]; simp [*]
          exact q _ (fun b j g1 g2 => ((up2_o (by omega)).trans ((up2_o (by omega)).trans (up2_o (by omega)))).trans (I1 b j (by omega))) (((up2_ne (by omega)).trans ((up2_ne (by omega)).trans (up2_eq))).trans (by rw [hft]; rfl)) (((up2_ne (by omega)).trans (up2_eq)).trans (by unfold Rvl; rw [if_neg (by omega), hft]; rfl)) ((up2_eq).trans (by unfold Rls; rw [if_neg (by omega), hft]; rfl))
      · refine E_go (p' := 221) (L' := [some (aA (a + 15)), some (aA (a + 1)), some (aI ((c : Nat) : Int)), some (aI (bi b1)), some (aI (bi b2)), some (aI (bi b3)), some (aI ((sn : Nat) : Int)), some (aI ((w : Nat) : Int)), some (aI ((k : Nat) : Int)), x9]) (st' := [aI ((c : Nat) : Int), aA (a + 21)]) rfl rfl rfl ?_
        refine E_s (p' := 222) (st' := aI 2 :: _) rfl rfl ?_
        refine E_s (p' := 244) rfl rfl ?_
        refine E_ast (e := c) (N := 60) rfl (kR_21 hR) (rfl) (by omega) ?_
        refine E_s (p' := 246) (st' := aA (a + 15) :: _) rfl rfl ?_
        refine E_gA (b := a + 22) rfl rfl rfl (kR_15 hR) (hR_15_6 hR) rfl ?_
        refine E_s (p' := 250) (st' := aI ((c : Nat) : Int) :: _) rfl rfl ?_
        refine E_s (p' := 251) (st' := aA (a + 15) :: _) rfl rfl ?_
        refine E_gA (b := a + 21) rfl rfl rfl (kR_15 hR) (hR_15_5 hR) rfl ?_
        refine E_s (p' := 255) (st' := aI ((c : Nat) : Int) :: _) rfl rfl ?_
        refine E_ald (e := c) (N := 60) (v := 2) rfl (kR_21 hR) (rfl) (by omega) up2_eq ?_
        refine E_s (p' := 264) rfl rfl ?_
        refine E_s (p' := 265) (st' := aI 0 :: _) rfl rfl ?_
        refine E_ast (e := c) (N := 60) rfl (kR_22 hR) (rfl) (by omega) ?_
        refine E_s (p' := 267) (st' := aA (a + 15) :: _) rfl rfl ?_
        refine E_gA (b := a + 23) rfl rfl rfl (kR_15 hR) (hR_15_7 hR) rfl ?_
        refine E_s (p' := 271) (st' := aI ((c : Nat) : Int) :: _) rfl rfl ?_
        refine E_s (p' := 272) (st' := aA (a + 15) :: _) rfl rfl ?_
        refine E_gA (b := a + 21) rfl rfl rfl (kR_15 hR) (hR_15_5 hR) rfl ?_
        refine E_s (p' := 276) (st' := aI ((c : Nat) : Int) :: _) rfl rfl ?_
        refine E_ald (e := c) (N := 60) (v := 2) rfl (kR_21 hR) (rfl) (by omega) ((up2_ne (by omega)).trans (up2_eq)) ?_
        refine E_s (p' := 293) rfl rfl ?_
        refine E_s (p' := 294) (st' := aI 0 :: _) rfl rfl ?_
        refine E_ast (e := c) (N := 60) rfl (kR_23 hR) (rfl) (by omega) ?_
        refine E_ret rfl rfl ?_
        have ek : k = Ck R c := by omega
        subst ek
        have hft : Rft R c = 2 := by unfold Rft; rw [if_neg (by omega)]; show (bif rMany R (cls R c (Ck R c)) then _ else bif rTw R (cls R c (Ck R c)).reverse then _ else bif rAs R (cls R c (Ck R c)) then _ else _) = _; rw [← e1, ← e2, ← e3]; simp [*]
        exact q _ (fun b j g1 g2 => ((up2_o (by omega)).trans ((up2_o (by omega)).trans (up2_o (by omega)))).trans (I1 b j (by omega))) (((up2_ne (by omega)).trans ((up2_ne (by omega)).trans (up2_eq))).trans (by rw [hft]; rfl)) (((up2_ne (by omega)).trans (up2_eq)).trans (by unfold Rvl; rw [if_neg (by omega), hft]; rfl)) ((up2_eq).trans (by unfold Rls; rw [if_neg (by omega), hft]; rfl))
    · refine E_go (p' := 35) (L' := [some (aA (a + 15)), some (aA (a + 1)), some (aI ((c : Nat) : Int)), some (aI (bi b1)), some (aI (bi b2)), some (aI (bi b3)), some (aI ((sn : Nat) : Int)), some (aI ((w : Nat) : Int)), some (aI ((k : Nat) : Int)), x9]) (st' := []) rfl rfl rfl ?_
      refine E_s (p' := 36) (st' := aA (a + 15) :: _) rfl rfl ?_
      refine E_gA (b := a + 25) rfl rfl rfl (kR_15 hR) (hR_15_9 hR) rfl ?_
      refine E_s (p' := 40) (st' := aA (a + 1) :: _) rfl rfl ?_
      refine E_s (p' := 41) (st' := aI ((c : Nat) : Int) :: _) rfl rfl ?_
      refine E_s (p' := 43) (st' := aI ((k : Nat) : Int) :: _) rfl rfl ?_
      refine E_callV (k' := 40) (a := a + 25) (r := []) (L0 := [some (aA (a + 25)), some (aA (a + 1)), some (aI ((c : Nat) : Int)), some (aI ((k : Nat) : Int)), none, none, none, none]) rfl rfl rfl rfl rfl (kR_25 hR) rfl rfl rfl rfl ?_
      refine c_endsAt hR hCm hV hc (by omega) hb (fun m1 he1 hF1 hp0 hp1 hp2 hp3 => ?_) (fun m1 he0 hF1 hp3 => ?_)
      · refine E_go (p' := 46) (L' := [some (aA (a + 15)), some (aA (a + 1)), some (aI ((c : Nat) : Int)), some (aI (bi b1)), some (aI (bi b2)), some (aI (bi b3)), some (aI ((sn : Nat) : Int)), some (aI ((w : Nat) : Int)), some (aI ((k : Nat) : Int)), x9]) (st' := [aI 1]) rfl rfl rfl ?_
        refine E_s (p' := 52) rfl rfl ?_
        refine E_s (p' := 53) (st' := aA (a + 15) :: _) rfl rfl ?_
        refine E_s (p' := 54) (st' := aA (a + 15) :: _) rfl rfl ?_
        refine E_gA (b := a + 25) rfl rfl rfl (kR_15 hR) (hR_15_9 hR) rfl ?_
        refine E_gI (v := ((clp R c k : Nat) : Int)) rfl rfl rfl (kR_25 hR) hp1 ?_
        refine E_callV (k' := 48) (a := a + 15) (r := []) (L0 := [some (aA (a + 15)), some (aI ((clp R c k : Nat) : Int)), none]) rfl rfl rfl rfl rfl (kR_15 hR) rfl rfl rfl rfl ?_
        refine c_levelOf (n := RL R) (La := Rla R) hR (by omega) ((hF1 _ _ (by omega)).trans ((I1 _ _ (by omega)).trans hL.2.1)) (fun l hl => (hF1 _ _ (by omega)).trans ((I1 _ _ (by omega)).trans (hL.2.2.1 l hl))) h1 ?_
        refine E_go (p' := 63) (L' := [some (aA (a + 15)), some (aA (a + 1)), some (aI ((c : Nat) : Int)), some (aI (bi b1)), some (aI (bi b2)), some (aI (bi b3)), some (aI ((sn : Nat) : Int)), some (aI ((w : Nat) : Int)), some (aI ((k : Nat) : Int)), x9]) (st' := [aI ((Rlo R (clp R c k) : Nat) : Int)]) rfl rfl rfl ?_
        have hlv := Rlo_lt h1 (clp R c k)
        have hpw : 2 ^ (Rlo R (clp R c k)) ≤ 64 := Nat.le_trans (Nat.pow_le_pow_right (by decide) (show Rlo R (clp R c k) ≤ 6 by omega)) (by decide)
        have hcw := clw_b hV hc (show k < Ck R c by omega)
        have hrc := Rct_le h1 (Rlo R (clp R c k))
        have hpr : clw R c k * Rct R (Rlo R (clp R c k)) ≤ 30 * 1000000 := Nat.mul_le_mul hcw.2 hrc
        refine E_s (p' := 65) (L' := [some (aA (a + 15)), some (aA (a + 1)), some (aI ((c : Nat) : Int)), some (aI (bi b1)), some (aI (bi b2)), some (aI (bi b3)), some (aI ((sn : Nat) : Int)), some (aI ((w : Nat) : Int)), some (aI ((k : Nat) : Int)), some (aI ((Rlo R (clp R c k) : Nat) : Int))]) rfl rfl ?_
        refine E_s (p' := 66) (st' := aI (bi b1) :: _) rfl rfl ?_
        refine E_s (p' := 67) (st' := aA (a + 15) :: _) rfl rfl ?_
        refine E_gA (b := a + 25) rfl rfl rfl (kR_15 hR) (hR_15_9 hR) rfl ?_
        refine E_gI (v := (bi (decide (so (Cp R c k) = 0)))) rfl rfl rfl (kR_25 hR) hp0 ?_
        suffices h_5 : E 47 93 [some (aA (a + 15)), some (aA (a + 1)), some (aI ((c : Nat) : Int)), some (aI (bi b1)), some (aI (bi b2)), some (aI (bi b3)), some (aI ((sn : Nat) : Int)), some (aI ((w : Nat) : Int)), some (aI ((k : Nat) : Int)), some (aI ((Rlo R (clp R c k) : Nat) : Int))] [aI (bi ((decide (so (Cp R c k) = 0)) && (!decide (((clw R c k : Nat) : Int) ≤ 9)))), aI (bi b1)] (m1, tl len) Q by
          refine E_b_eq0 (b := (decide (so (Cp R c k) = 0))) rfl (by decide) (fun h_6 => ?_) (fun h_6 => ?_)
          · refine E_go (p' := 92) (L' := [some (aA (a + 15)), some (aA (a + 1)), some (aI ((c : Nat) : Int)), some (aI (bi b1)), some (aI (bi b2)), some (aI (bi b3)), some (aI ((sn : Nat) : Int)), some (aI ((w : Nat) : Int)), some (aI ((k : Nat) : Int)), some (aI ((Rlo R (clp R c k) : Nat) : Int))]) (st' := [aI (bi b1)]) rfl rfl rfl ?_
            refine E_s (p' := 93) (st' := aI 0 :: _) rfl rfl ?_
            rw [h_6] at h_5
            exact h_5
          · refine E_go (p' := 76) (L' := [some (aA (a + 15)), some (aA (a + 1)), some (aI ((c : Nat) : Int)), some (aI (bi b1)), some (aI (bi b2)), some (aI (bi b3)), some (aI ((sn : Nat) : Int)), some (aI ((w : Nat) : Int)), some (aI ((k : Nat) : Int)), some (aI ((Rlo R (clp R c k) : Nat) : Int))]) (st' := [aI (bi b1)]) rfl rfl rfl ?_
            refine E_s (p' := 77) (st' := aA (a + 15) :: _) rfl rfl ?_
            refine E_gA (b := a + 25) rfl rfl rfl (kR_15 hR) (hR_15_9 hR) rfl ?_
            refine E_gI (v := ((clw R c k : Nat) : Int)) rfl rfl rfl (kR_25 hR) hp2 ?_
            refine E_s (p' := 85) (st' := aI 9 :: _) rfl rfl ?_
            refine E_icmp_le (x := ((clw R c k : Nat) : Int)) (y := 9) rfl (by decide) (fun h_7 => ?_) (fun h_7 => ?_)
            · refine E_go (p' := 92) (L' := [some (aA (a + 15)), some (aA (a + 1)), some (aI ((c : Nat) : Int)), some (aI (bi b1)), some (aI (bi b2)), some (aI (bi b3)), some (aI ((sn : Nat) : Int)), some (aI ((w : Nat) : Int)), some (aI ((k : Nat) : Int)), some (aI ((Rlo R (clp R c k) : Nat) : Int))]) (st' := [aI (bi b1)]) rfl rfl rfl ?_
              refine E_s (p' := 93) (st' := aI 0 :: _) rfl rfl ?_
              rw [h_6] at h_5
              rw [decide_eq_true (p := ((clw R c k : Nat) : Int) ≤ 9) (by omega)] at h_5
              exact h_5
            · refine E_go (p' := 88) (L' := [some (aA (a + 15)), some (aA (a + 1)), some (aI ((c : Nat) : Int)), some (aI (bi b1)), some (aI (bi b2)), some (aI (bi b3)), some (aI ((sn : Nat) : Int)), some (aI ((w : Nat) : Int)), some (aI ((k : Nat) : Int)), some (aI ((Rlo R (clp R c k) : Nat) : Int))]) (st' := [aI (bi b1)]) rfl rfl rfl ?_
              refine E_s (p' := 89) (st' := aI 1 :: _) rfl rfl ?_
              refine E_s (p' := 93) rfl rfl ?_
              rw [h_6] at h_5
              rw [decide_eq_false (p := ((clw R c k : Nat) : Int) ≤ 9) (by omega)] at h_5
              exact h_5
        refine E_orb (x := b1) (y := ((decide (so (Cp R c k) = 0)) && (!decide (((clw R c k : Nat) : Int) ≤ 9)))) rfl ?_
        refine E_s (p' := 95) (L' := [some (aA (a + 15)), some (aA (a + 1)), some (aI ((c : Nat) : Int)), some (aI (bi (b1 || ((decide (so (Cp R c k) = 0)) && (!decide (((clw R c k : Nat) : Int) ≤ 9)))))), some (aI (bi b2)), some (aI (bi b3)), some (aI ((sn : Nat) : Int)), some (aI ((w : Nat) : Int)), some (aI ((k : Nat) : Int)), some (aI ((Rlo R (clp R c k) : Nat) : Int))]) rfl rfl ?_
        refine E_s (p' := 97) (st' := aI (bi b2) :: _) rfl rfl ?_
        refine E_s (p' := 99) (st' := aI ((sn : Nat) : Int) :: _) rfl rfl ?_
        refine E_s (p' := 101) (st' := aI ((Rlo R (clp R c k) : Nat) : Int) :: _) rfl rfl ?_
        refine E_shr (x := sn) (y := Rlo R (clp R c k)) (v := (sn) / 2 ^ (Rlo R (clp R c k))) rfl (by first | omega | (have := Nat.div_le_self sn (2 ^ (Rlo R (clp R c k))); omega)) (by omega) rfl ?_
        refine E_s (p' := 103) (st' := aI 1 :: _) rfl rfl ?_
        refine E_and (x := (sn) / 2 ^ (Rlo R (clp R c k))) (y := 1) (v := ((sn) / 2 ^ (Rlo R (clp R c k))) &&& 1) rfl (by first | omega | (have := Nat.div_le_self sn (2 ^ (Rlo R (clp R c k))); omega)) (by omega) rfl ?_
        suffices h_8 : E 47 112 [some (aA (a + 15)), some (aA (a + 1)), some (aI ((c : Nat) : Int)), some (aI (bi (b1 || ((decide (so (Cp R c k) = 0)) && (!decide (((clw R c k : Nat) : Int) ≤ 9)))))), some (aI (bi b2)), some (aI (bi b3)), some (aI ((sn : Nat) : Int)), some (aI ((w : Nat) : Int)), some (aI ((k : Nat) : Int)), some (aI ((Rlo R (clp R c k) : Nat) : Int))] [aI (bi (!decide (((((sn) / 2 ^ (Rlo R (clp R c k))) &&& 1 : Nat) : Int) = 0))), aI (bi b2)] (m1, tl len) Q by
          refine E_if_eq (x := ((((sn) / 2 ^ (Rlo R (clp R c k))) &&& 1 : Nat) : Int)) rfl (by decide) (fun h_9 => ?_) (fun h_9 => ?_)
          · refine E_go (p' := 111) (L' := [some (aA (a + 15)), some (aA (a + 1)), some (aI ((c : Nat) : Int)), some (aI (bi (b1 || ((decide (so (Cp R c k) = 0)) && (!decide (((clw R c k : Nat) : Int) ≤ 9)))))), some (aI (bi b2)), some (aI (bi b3)), some (aI ((sn : Nat) : Int)), some (aI ((w : Nat) : Int)), some (aI ((k : Nat) : Int)), some (aI ((Rlo R (clp R c k) : Nat) : Int))]) (st' := [aI (bi b2)]) rfl rfl rfl ?_
            refine E_s (p' := 112) (st' := aI 0 :: _) rfl rfl ?_
            rw [decide_eq_true (p := ((((sn) / 2 ^ (Rlo R (clp R c k))) &&& 1 : Nat) : Int) = 0) (by omega)] at h_8
            exact h_8
          · refine E_go (p' := 107) (L' := [some (aA (a + 15)), some (aA (a + 1)), some (aI ((c : Nat) : Int)), some (aI (bi (b1 || ((decide (so (Cp R c k) = 0)) && (!decide (((clw R c k : Nat) : Int) ≤ 9)))))), some (aI (bi b2)), some (aI (bi b3)), some (aI ((sn : Nat) : Int)), some (aI ((w : Nat) : Int)), some (aI ((k : Nat) : Int)), some (aI ((Rlo R (clp R c k) : Nat) : Int))]) (st' := [aI (bi b2)]) rfl rfl rfl ?_
            refine E_s (p' := 108) (st' := aI 1 :: _) rfl rfl ?_
            refine E_s (p' := 112) rfl rfl ?_
            rw [decide_eq_false (p := ((((sn) / 2 ^ (Rlo R (clp R c k))) &&& 1 : Nat) : Int) = 0) (by omega)] at h_8
            exact h_8
        refine E_orb (x := b2) (y := (!decide (((((sn) / 2 ^ (Rlo R (clp R c k))) &&& 1 : Nat) : Int) = 0))) rfl ?_
        refine E_s (p' := 115) (L' := [some (aA (a + 15)), some (aA (a + 1)), some (aI ((c : Nat) : Int)), some (aI (bi (b1 || ((decide (so (Cp R c k) = 0)) && (!decide (((clw R c k : Nat) : Int) ≤ 9)))))), some (aI (bi (b2 || (!decide (((((sn) / 2 ^ (Rlo R (clp R c k))) &&& 1 : Nat) : Int) = 0))))), some (aI (bi b3)), some (aI ((sn : Nat) : Int)), some (aI ((w : Nat) : Int)), some (aI ((k : Nat) : Int)), some (aI ((Rlo R (clp R c k) : Nat) : Int))]) rfl rfl ?_
        refine E_s (p' := 117) (st' := aI (bi b3) :: _) rfl rfl ?_
        refine E_s (p' := 118) (st' := aA (a + 15) :: _) rfl rfl ?_
        refine E_gA (b := a + 25) rfl rfl rfl (kR_15 hR) (hR_15_9 hR) rfl ?_
        refine E_gI (v := (bi (decide (so (Cp R c k) = 0)))) rfl rfl rfl (kR_25 hR) hp0 ?_
        refine E_s (p' := 125) (st' := aA (a + 15) :: _) rfl rfl ?_
        refine E_gI (v := (bi (Run R))) rfl rfl rfl (kR_15 hR) ((hF1 _ _ (by omega)).trans ((I1 _ _ (by omega)).trans (hL.1))) ?_
        suffices h_10 : E 47 147 [some (aA (a + 15)), some (aA (a + 1)), some (aI ((c : Nat) : Int)), some (aI (bi (b1 || ((decide (so (Cp R c k) = 0)) && (!decide (((clw R c k : Nat) : Int) ≤ 9)))))), some (aI (bi (b2 || (!decide (((((sn) / 2 ^ (Rlo R (clp R c k))) &&& 1 : Nat) : Int) = 0))))), some (aI (bi b3)), some (aI ((sn : Nat) : Int)), some (aI ((w : Nat) : Int)), some (aI ((k : Nat) : Int)), some (aI ((Rlo R (clp R c k) : Nat) : Int))] [aI (bi ((Run R) && (!decide (((Rlo R (clp R c k) : Nat) : Int) ≠ ((RL R : Int) - 1))))), aI (bi (decide (so (Cp R c k) = 0))), aI (bi b3)] (m1, tl len) Q by
          refine E_b_eq0 (b := (Run R)) rfl (by decide) (fun h_11 => ?_) (fun h_11 => ?_)
          · refine E_go (p' := 146) (L' := [some (aA (a + 15)), some (aA (a + 1)), some (aI ((c : Nat) : Int)), some (aI (bi (b1 || ((decide (so (Cp R c k) = 0)) && (!decide (((clw R c k : Nat) : Int) ≤ 9)))))), some (aI (bi (b2 || (!decide (((((sn) / 2 ^ (Rlo R (clp R c k))) &&& 1 : Nat) : Int) = 0))))), some (aI (bi b3)), some (aI ((sn : Nat) : Int)), some (aI ((w : Nat) : Int)), some (aI ((k : Nat) : Int)), some (aI ((Rlo R (clp R c k) : Nat) : Int))]) (st' := [aI (bi (decide (so (Cp R c k) = 0))), aI (bi b3)]) rfl rfl rfl ?_
            refine E_s (p' := 147) (st' := aI 0 :: _) rfl rfl ?_
            rw [h_11] at h_10
            exact h_10
          · refine E_go (p' := 131) (L' := [some (aA (a + 15)), some (aA (a + 1)), some (aI ((c : Nat) : Int)), some (aI (bi (b1 || ((decide (so (Cp R c k) = 0)) && (!decide (((clw R c k : Nat) : Int) ≤ 9)))))), some (aI (bi (b2 || (!decide (((((sn) / 2 ^ (Rlo R (clp R c k))) &&& 1 : Nat) : Int) = 0))))), some (aI (bi b3)), some (aI ((sn : Nat) : Int)), some (aI ((w : Nat) : Int)), some (aI ((k : Nat) : Int)), some (aI ((Rlo R (clp R c k) : Nat) : Int))]) (st' := [aI (bi (decide (so (Cp R c k) = 0))), aI (bi b3)]) rfl rfl rfl ?_
            refine E_s (p' := 133) (st' := aI ((Rlo R (clp R c k) : Nat) : Int) :: _) rfl rfl ?_
            refine E_s (p' := 134) (st' := aA (a + 15) :: _) rfl rfl ?_
            refine E_gI (v := ((RL R : Nat) : Int)) rfl rfl rfl (kR_15 hR) ((hF1 _ _ (by omega)).trans ((I1 _ _ (by omega)).trans (hL.2.1))) ?_
            refine E_s (p' := 138) (st' := aI 1 :: _) rfl rfl ?_
            refine E_sub (v := ((RL R : Int) - 1)) rfl (by omega) (by omega) ?_
            refine E_icmp_ne (x := ((Rlo R (clp R c k) : Nat) : Int)) (y := ((RL R : Int) - 1)) rfl (by decide) (fun h_12 => ?_) (fun h_12 => ?_)
            · refine E_go (p' := 146) (L' := [some (aA (a + 15)), some (aA (a + 1)), some (aI ((c : Nat) : Int)), some (aI (bi (b1 || ((decide (so (Cp R c k) = 0)) && (!decide (((clw R c k : Nat) : Int) ≤ 9)))))), some (aI (bi (b2 || (!decide (((((sn) / 2 ^ (Rlo R (clp R c k))) &&& 1 : Nat) : Int) = 0))))), some (aI (bi b3)), some (aI ((sn : Nat) : Int)), some (aI ((w : Nat) : Int)), some (aI ((k : Nat) : Int)), some (aI ((Rlo R (clp R c k) : Nat) : Int))]) (st' := [aI (bi (decide (so (Cp R c k) = 0))), aI (bi b3)]) rfl rfl rfl ?_
              refine E_s (p' := 147) (st' := aI 0 :: _) rfl rfl ?_
              rw [h_11] at h_10
              rw [decide_eq_true (p := ((Rlo R (clp R c k) : Nat) : Int) ≠ ((RL R : Int) - 1)) (by omega)] at h_10
              exact h_10
            · refine E_go (p' := 142) (L' := [some (aA (a + 15)), some (aA (a + 1)), some (aI ((c : Nat) : Int)), some (aI (bi (b1 || ((decide (so (Cp R c k) = 0)) && (!decide (((clw R c k : Nat) : Int) ≤ 9)))))), some (aI (bi (b2 || (!decide (((((sn) / 2 ^ (Rlo R (clp R c k))) &&& 1 : Nat) : Int) = 0))))), some (aI (bi b3)), some (aI ((sn : Nat) : Int)), some (aI ((w : Nat) : Int)), some (aI ((k : Nat) : Int)), some (aI ((Rlo R (clp R c k) : Nat) : Int))]) (st' := [aI (bi (decide (so (Cp R c k) = 0))), aI (bi b3)]) rfl rfl rfl ?_
              refine E_s (p' := 143) (st' := aI 1 :: _) rfl rfl ?_
              refine E_s (p' := 147) rfl rfl ?_
              rw [h_11] at h_10
              rw [decide_eq_false (p := ((Rlo R (clp R c k) : Nat) : Int) ≠ ((RL R : Int) - 1)) (by omega)] at h_10
              exact h_10
        suffices h_13 : E 47 155 [some (aA (a + 15)), some (aA (a + 1)), some (aI ((c : Nat) : Int)), some (aI (bi (b1 || ((decide (so (Cp R c k) = 0)) && (!decide (((clw R c k : Nat) : Int) ≤ 9)))))), some (aI (bi (b2 || (!decide (((((sn) / 2 ^ (Rlo R (clp R c k))) &&& 1 : Nat) : Int) = 0))))), some (aI (bi b3)), some (aI ((sn : Nat) : Int)), some (aI ((w : Nat) : Int)), some (aI ((k : Nat) : Int)), some (aI ((Rlo R (clp R c k) : Nat) : Int))] [aI (bi ((decide (so (Cp R c k) = 0)) == ((Run R) && (!decide (((Rlo R (clp R c k) : Nat) : Int) ≠ ((RL R : Int) - 1)))))), aI (bi b3)] (m1, tl len) Q by
          refine E_bb_ne (x := (decide (so (Cp R c k) = 0))) (y := ((Run R) && (!decide (((Rlo R (clp R c k) : Nat) : Int) ≠ ((RL R : Int) - 1))))) rfl (by decide) (fun h_14 => ?_) (fun h_14 => ?_)
          · refine E_go (p' := 154) (L' := [some (aA (a + 15)), some (aA (a + 1)), some (aI ((c : Nat) : Int)), some (aI (bi (b1 || ((decide (so (Cp R c k) = 0)) && (!decide (((clw R c k : Nat) : Int) ≤ 9)))))), some (aI (bi (b2 || (!decide (((((sn) / 2 ^ (Rlo R (clp R c k))) &&& 1 : Nat) : Int) = 0))))), some (aI (bi b3)), some (aI ((sn : Nat) : Int)), some (aI ((w : Nat) : Int)), some (aI ((k : Nat) : Int)), some (aI ((Rlo R (clp R c k) : Nat) : Int))]) (st' := [aI (bi b3)]) rfl rfl rfl ?_
            refine E_s (p' := 155) (st' := aI 0 :: _) rfl rfl ?_
            rw [h_14] at h_13
            exact h_13
          · refine E_go (p' := 150) (L' := [some (aA (a + 15)), some (aA (a + 1)), some (aI ((c : Nat) : Int)), some (aI (bi (b1 || ((decide (so (Cp R c k) = 0)) && (!decide (((clw R c k : Nat) : Int) ≤ 9)))))), some (aI (bi (b2 || (!decide (((((sn) / 2 ^ (Rlo R (clp R c k))) &&& 1 : Nat) : Int) = 0))))), some (aI (bi b3)), some (aI ((sn : Nat) : Int)), some (aI ((w : Nat) : Int)), some (aI ((k : Nat) : Int)), some (aI ((Rlo R (clp R c k) : Nat) : Int))]) (st' := [aI (bi b3)]) rfl rfl rfl ?_
            refine E_s (p' := 151) (st' := aI 1 :: _) rfl rfl ?_
            refine E_s (p' := 155) rfl rfl ?_
            rw [h_14] at h_13
            exact h_13
        refine E_orb (x := b3) (y := ((decide (so (Cp R c k) = 0)) == ((Run R) && (!decide (((Rlo R (clp R c k) : Nat) : Int) ≠ ((RL R : Int) - 1)))))) rfl ?_
        refine E_s (p' := 158) (L' := [some (aA (a + 15)), some (aA (a + 1)), some (aI ((c : Nat) : Int)), some (aI (bi (b1 || ((decide (so (Cp R c k) = 0)) && (!decide (((clw R c k : Nat) : Int) ≤ 9)))))), some (aI (bi (b2 || (!decide (((((sn) / 2 ^ (Rlo R (clp R c k))) &&& 1 : Nat) : Int) = 0))))), some (aI (bi (b3 || ((decide (so (Cp R c k) = 0)) == ((Run R) && (!decide (((Rlo R (clp R c k) : Nat) : Int) ≠ ((RL R : Int) - 1)))))))), some (aI ((sn : Nat) : Int)), some (aI ((w : Nat) : Int)), some (aI ((k : Nat) : Int)), some (aI ((Rlo R (clp R c k) : Nat) : Int))]) rfl rfl ?_
        refine E_s (p' := 160) (st' := aI ((sn : Nat) : Int) :: _) rfl rfl ?_
        refine E_s (p' := 161) (st' := aI 1 :: _) rfl rfl ?_
        refine E_s (p' := 163) (st' := aI ((Rlo R (clp R c k) : Nat) : Int) :: _) rfl rfl ?_
        refine E_shl (x := 1) (y := Rlo R (clp R c k)) (v := (1) * 2 ^ (Rlo R (clp R c k))) rfl (by first | omega | (have := Nat.div_le_self sn (2 ^ (Rlo R (clp R c k))); omega)) (by omega) rfl ?_
        refine E_or (x := sn) (y := (1) * 2 ^ (Rlo R (clp R c k))) (v := (sn) ||| ((1) * 2 ^ (Rlo R (clp R c k)))) rfl (by first | omega | (have := Nat.div_le_self sn (2 ^ (Rlo R (clp R c k))); omega)) (by omega) rfl ?_
        refine E_s (p' := 167) (L' := [some (aA (a + 15)), some (aA (a + 1)), some (aI ((c : Nat) : Int)), some (aI (bi (b1 || ((decide (so (Cp R c k) = 0)) && (!decide (((clw R c k : Nat) : Int) ≤ 9)))))), some (aI (bi (b2 || (!decide (((((sn) / 2 ^ (Rlo R (clp R c k))) &&& 1 : Nat) : Int) = 0))))), some (aI (bi (b3 || ((decide (so (Cp R c k) = 0)) == ((Run R) && (!decide (((Rlo R (clp R c k) : Nat) : Int) ≠ ((RL R : Int) - 1)))))))), some (aI (((sn) ||| ((1) * 2 ^ (Rlo R (clp R c k))) : Nat) : Int)), some (aI ((w : Nat) : Int)), some (aI ((k : Nat) : Int)), some (aI ((Rlo R (clp R c k) : Nat) : Int))]) rfl rfl ?_
        refine E_s (p' := 169) (st' := aI ((w : Nat) : Int) :: _) rfl rfl ?_
        refine E_s (p' := 170) (st' := aA (a + 15) :: _) rfl rfl ?_
        refine E_s (p' := 172) (st' := aI ((Rlo R (clp R c k) : Nat) : Int) :: _) rfl rfl ?_
        refine E_s (p' := 173) (st' := aA (a + 1) :: _) rfl rfl ?_
        refine E_gA (b := a + 6) rfl rfl rfl (kR_1 hR) (hR_1_4 hR) rfl ?_
        refine E_s (p' := 177) (st' := aI ((c : Nat) : Int) :: _) rfl rfl ?_
        refine E_ald (e := c) (N := 60) (v := ((Ct R c : Nat) : Int)) rfl (kR_6 hR) (rfl) (by omega) ((hF1 _ _ (by omega)).trans ((I1 _ _ (by omega)).trans (CR_6 hC hc))) ?_
        refine E_callV (k' := 49) (a := a + 15) (r := [aI ((w : Nat) : Int)]) (L0 := [some (aA (a + 15)), some (aI ((Rlo R (clp R c k) : Nat) : Int)), some (aI ((Ct R c : Nat) : Int))]) rfl rfl rfl rfl rfl (kR_15 hR) rfl rfl rfl rfl ?_
        refine c_isLost (n := RL R) (La := Rla R) hR (by omega) ((hF1 _ _ (by omega)).trans ((I1 _ _ (by omega)).trans hL.2.1)) (fun l hl => (hF1 _ _ (by omega)).trans ((I1 _ _ (by omega)).trans (hL.2.2.1 l hl))) (l := Rlo R (clp R c k)) (t := Ct R c) (by omega) ?_
        refine E_go (p' := 181) (L' := [some (aA (a + 15)), some (aA (a + 1)), some (aI ((c : Nat) : Int)), some (aI (bi (b1 || ((decide (so (Cp R c k) = 0)) && (!decide (((clw R c k : Nat) : Int) ≤ 9)))))), some (aI (bi (b2 || (!decide (((((sn) / 2 ^ (Rlo R (clp R c k))) &&& 1 : Nat) : Int) = 0))))), some (aI (bi (b3 || ((decide (so (Cp R c k) = 0)) == ((Run R) && (!decide (((Rlo R (clp R c k) : Nat) : Int) ≠ ((RL R : Int) - 1)))))))), some (aI (((sn) ||| ((1) * 2 ^ (Rlo R (clp R c k))) : Nat) : Int)), some (aI ((w : Nat) : Int)), some (aI ((k : Nat) : Int)), some (aI ((Rlo R (clp R c k) : Nat) : Int))]) (st' := [aI (bi (lstv (Rla R) (Ct R c) (Rlo R (clp R c k)))), aI ((w : Nat) : Int)]) rfl rfl rfl ?_
        refine E_b_eq0 (b := (lstv (Rla R) (Ct R c) (Rlo R (clp R c k)))) rfl (by decide) (fun h_15 => ?_) (fun h_15 => ?_)
        · refine E_go (p' := 188) (L' := [some (aA (a + 15)), some (aA (a + 1)), some (aI ((c : Nat) : Int)), some (aI (bi (b1 || ((decide (so (Cp R c k) = 0)) && (!decide (((clw R c k : Nat) : Int) ≤ 9)))))), some (aI (bi (b2 || (!decide (((((sn) / 2 ^ (Rlo R (clp R c k))) &&& 1 : Nat) : Int) = 0))))), some (aI (bi (b3 || ((decide (so (Cp R c k) = 0)) == ((Run R) && (!decide (((Rlo R (clp R c k) : Nat) : Int) ≠ ((RL R : Int) - 1)))))))), some (aI (((sn) ||| ((1) * 2 ^ (Rlo R (clp R c k))) : Nat) : Int)), some (aI ((w : Nat) : Int)), some (aI ((k : Nat) : Int)), some (aI ((Rlo R (clp R c k) : Nat) : Int))]) (st' := [aI ((w : Nat) : Int)]) rfl rfl rfl ?_
          refine E_s (p' := 189) (st' := aA (a + 15) :: _) rfl rfl ?_
          refine E_gA (b := a + 25) rfl rfl rfl (kR_15 hR) (hR_15_9 hR) rfl ?_
          refine E_gI (v := ((clw R c k : Nat) : Int)) rfl rfl rfl (kR_25 hR) hp2 ?_
          refine E_s (p' := 196) (st' := aA (a + 15) :: _) rfl rfl ?_
          refine E_gA (b := a + 18) rfl rfl rfl (kR_15 hR) (hR_15_2 hR) rfl ?_
          refine E_s (p' := 201) (st' := aI ((Rlo R (clp R c k) : Nat) : Int) :: _) rfl rfl ?_
          refine E_ald (e := Rlo R (clp R c k)) (N := 6) (v := ((Rct R (Rlo R (clp R c k)) : Nat) : Int)) rfl (kR_18 hR) (rfl) (by omega) ((hF1 _ _ (by omega)).trans ((I1 _ _ (by omega)).trans (hL.2.2.2 _ (by omega)))) ?_
          refine E_mulN (x := clw R c k) (y := Rct R (Rlo R (clp R c k))) rfl (by omega) ?_
          refine E_add (v := ((w + (clw R c k) * (Rct R (Rlo R (clp R c k))) : Nat) : Int)) rfl (by omega) (by omega) ?_
          refine E_s (p' := 206) (L' := [some (aA (a + 15)), some (aA (a + 1)), some (aI ((c : Nat) : Int)), some (aI (bi (b1 || ((decide (so (Cp R c k) = 0)) && (!decide (((clw R c k : Nat) : Int) ≤ 9)))))), some (aI (bi (b2 || (!decide (((((sn) / 2 ^ (Rlo R (clp R c k))) &&& 1 : Nat) : Int) = 0))))), some (aI (bi (b3 || ((decide (so (Cp R c k) = 0)) == ((Run R) && (!decide (((Rlo R (clp R c k) : Nat) : Int) ≠ ((RL R : Int) - 1)))))))), some (aI (((sn) ||| ((1) * 2 ^ (Rlo R (clp R c k))) : Nat) : Int)), some (aI ((w + (clw R c k) * (Rct R (Rlo R (clp R c k))) : Nat) : Int)), some (aI ((k : Nat) : Int)), some (aI ((Rlo R (clp R c k) : Nat) : Int))]) rfl rfl ?_
          refine E_inc (x := ((k : Nat) : Int)) (w := ((k + 1 : Nat) : Int)) (L' := [some (aA (a + 15)), some (aA (a + 1)), some (aI ((c : Nat) : Int)), some (aI (bi (b1 || ((decide (so (Cp R c k) = 0)) && (!decide (((clw R c k : Nat) : Int) ≤ 9)))))), some (aI (bi (b2 || (!decide (((((sn) / 2 ^ (Rlo R (clp R c k))) &&& 1 : Nat) : Int) = 0))))), some (aI (bi (b3 || ((decide (so (Cp R c k) = 0)) == ((Run R) && (!decide (((Rlo R (clp R c k) : Nat) : Int) ≠ ((RL R : Int) - 1)))))))), some (aI (((sn) ||| ((1) * 2 ^ (Rlo R (clp R c k))) : Nat) : Int)), some (aI ((w + (clw R c k) * (Rct R (Rlo R (clp R c k))) : Nat) : Int)), some (aI ((k + 1 : Nat) : Int)), some (aI ((Rlo R (clp R c k) : Nat) : Int))]) rfl rfl rfl (by omega) (by omega) rfl ?_
          refine E_s (p' := 24) rfl rfl ?_
          refine ih (k + 1) _ _ _ _ _ m1 _ (by omega) (by omega) ?_ ?_ ?_ ?_ (fun j hj => ?_) ?_ (fun b j hb9 => (hF1 _ _ (by omega)).trans (I1 b j hb9)) (by rw [beg_t he1]; exact hp3)
          · rw [cls_t he1, rMany_app, e1]
            congr 2
            by_cases g : 9 < clw R c k
            · rw [decide_eq_true g, decide_eq_false (by omega)]; rfl
            · rw [decide_eq_false g, decide_eq_true (by omega)]; rfl
          · rw [cls_t he1, rTw_app, e2, sn_0 (hsb (Rlo R (clp R c k)) (by omega))]
          · rw [cls_t he1, rAs_app, e3]
            congr 2
            congr 1
            by_cases g : Rlo R (clp R c k) + 1 = RL R
            · rw [decide_eq_true g, decide_eq_false (by omega)]; rfl
            · rw [decide_eq_false g, decide_eq_true (by omega)]; rfl
          · exact Nat.or_lt_two_pow (n := 6) hs64 (by have := Nat.pow_lt_pow_right (a := 2) (by decide) (show Rlo R (clp R c k) < 6 by omega); omega)
          · rw [cls_t he1, List.any_append, sn_up (f := fun j => (cls R c k).any fun q => Rlo R q.1 == j) (hsb j hj)]; simp
          · rw [cls_t he1, rSum_app, ew, lst_v, show lstv (Rla R) (Ct R c) (Rlo R (clp R c k, so (Cp R c k), clw R c k).fst) = false by assumption]; rfl
        · refine E_go (p' := 184) (L' := [some (aA (a + 15)), some (aA (a + 1)), some (aI ((c : Nat) : Int)), some (aI (bi (b1 || ((decide (so (Cp R c k) = 0)) && (!decide (((clw R c k : Nat) : Int) ≤ 9)))))), some (aI (bi (b2 || (!decide (((((sn) / 2 ^ (Rlo R (clp R c k))) &&& 1 : Nat) : Int) = 0))))), some (aI (bi (b3 || ((decide (so (Cp R c k) = 0)) == ((Run R) && (!decide (((Rlo R (clp R c k) : Nat) : Int) ≠ ((RL R : Int) - 1)))))))), some (aI (((sn) ||| ((1) * 2 ^ (Rlo R (clp R c k))) : Nat) : Int)), some (aI ((w : Nat) : Int)), some (aI ((k : Nat) : Int)), some (aI ((Rlo R (clp R c k) : Nat) : Int))]) (st' := [aI ((w : Nat) : Int)]) rfl rfl rfl ?_
          refine E_s (p' := 185) (st' := aI 0 :: _) rfl rfl ?_
          refine E_s (p' := 203) rfl rfl ?_
          refine E_add (v := ((w : Nat) : Int)) rfl (by omega) (by omega) ?_
          refine E_s (p' := 206) (L' := [some (aA (a + 15)), some (aA (a + 1)), some (aI ((c : Nat) : Int)), some (aI (bi (b1 || ((decide (so (Cp R c k) = 0)) && (!decide (((clw R c k : Nat) : Int) ≤ 9)))))), some (aI (bi (b2 || (!decide (((((sn) / 2 ^ (Rlo R (clp R c k))) &&& 1 : Nat) : Int) = 0))))), some (aI (bi (b3 || ((decide (so (Cp R c k) = 0)) == ((Run R) && (!decide (((Rlo R (clp R c k) : Nat) : Int) ≠ ((RL R : Int) - 1)))))))), some (aI (((sn) ||| ((1) * 2 ^ (Rlo R (clp R c k))) : Nat) : Int)), some (aI ((w : Nat) : Int)), some (aI ((k : Nat) : Int)), some (aI ((Rlo R (clp R c k) : Nat) : Int))]) rfl rfl ?_
          refine E_inc (x := ((k : Nat) : Int)) (w := ((k + 1 : Nat) : Int)) (L' := [some (aA (a + 15)), some (aA (a + 1)), some (aI ((c : Nat) : Int)), some (aI (bi (b1 || ((decide (so (Cp R c k) = 0)) && (!decide (((clw R c k : Nat) : Int) ≤ 9)))))), some (aI (bi (b2 || (!decide (((((sn) / 2 ^ (Rlo R (clp R c k))) &&& 1 : Nat) : Int) = 0))))), some (aI (bi (b3 || ((decide (so (Cp R c k) = 0)) == ((Run R) && (!decide (((Rlo R (clp R c k) : Nat) : Int) ≠ ((RL R : Int) - 1)))))))), some (aI (((sn) ||| ((1) * 2 ^ (Rlo R (clp R c k))) : Nat) : Int)), some (aI ((w : Nat) : Int)), some (aI ((k + 1 : Nat) : Int)), some (aI ((Rlo R (clp R c k) : Nat) : Int))]) rfl rfl rfl (by omega) (by omega) rfl ?_
          refine E_s (p' := 24) rfl rfl ?_
          refine ih (k + 1) _ _ _ _ _ m1 _ (by omega) (by omega) ?_ ?_ ?_ ?_ (fun j hj => ?_) ?_ (fun b j hb9 => (hF1 _ _ (by omega)).trans (I1 b j hb9)) (by rw [beg_t he1]; exact hp3)
          · rw [cls_t he1, rMany_app, e1]
            congr 2
            by_cases g : 9 < clw R c k
            · rw [decide_eq_true g, decide_eq_false (by omega)]; rfl
            · rw [decide_eq_false g, decide_eq_true (by omega)]; rfl
          · rw [cls_t he1, rTw_app, e2, sn_0 (hsb (Rlo R (clp R c k)) (by omega))]
          · rw [cls_t he1, rAs_app, e3]
            congr 2
            congr 1
            by_cases g : Rlo R (clp R c k) + 1 = RL R
            · rw [decide_eq_true g, decide_eq_false (by omega)]; rfl
            · rw [decide_eq_false g, decide_eq_true (by omega)]; rfl
          · exact Nat.or_lt_two_pow (n := 6) hs64 (by have := Nat.pow_lt_pow_right (a := 2) (by decide) (show Rlo R (clp R c k) < 6 by omega); omega)
          · rw [cls_t he1, List.any_append, sn_up (f := fun j => (cls R c k).any fun q => Rlo R q.1 == j) (hsb j hj)]; simp
          · rw [cls_t he1, rSum_app, ew, lst_v, show lstv (Rla R) (Ct R c) (Rlo R (clp R c k, so (Cp R c k), clw R c k).fst) = true by assumption]; rfl
      · refine E_go (p' := 46) (L' := [some (aA (a + 15)), some (aA (a + 1)), some (aI ((c : Nat) : Int)), some (aI (bi b1)), some (aI (bi b2)), some (aI (bi b3)), some (aI ((sn : Nat) : Int)), some (aI ((w : Nat) : Int)), some (aI ((k : Nat) : Int)), x9]) (st' := [aI 0]) rfl rfl rfl ?_
        refine E_s (p' := 49) rfl rfl ?_
        refine E_s (p' := 206) rfl rfl ?_
        refine E_inc (x := ((k : Nat) : Int)) (w := ((k + 1 : Nat) : Int)) (L' := [some (aA (a + 15)), some (aA (a + 1)), some (aI ((c : Nat) : Int)), some (aI (bi b1)), some (aI (bi b2)), some (aI (bi b3)), some (aI ((sn : Nat) : Int)), some (aI ((w : Nat) : Int)), some (aI ((k + 1 : Nat) : Int)), x9]) rfl rfl rfl (by omega) (by omega) rfl ?_
        refine E_s (p' := 24) rfl rfl ?_
        exact ih (k + 1) b1 b2 b3 sn w m1 _ (by omega) (by omega) (by rw [cls_f he0]; exact e1) (by rw [cls_f he0]; exact e2) (by rw [cls_f he0]; exact e3) hs64 (by rw [cls_f he0]; exact hsb) (by rw [cls_f he0]; exact ew) (fun b j hb9 => (hF1 _ _ (by omega)).trans (I1 b j hb9)) (by rw [beg_f he0]; exact hp3)
theorem c_readCord (hR : isR a) (hC : CR R a m0) (hV : VR R) (hc : c < Cn R) (h1 : 1 ≤ RL R) (hL : RL0 R a m0) (q : ∀ m1 : Mm, (∀ b j, ¬ (a + 21 ≤ b ∧ b ≤ a + 23 ∧ j = c) → b ≠ a + 25 → m1 b j = m0 b j) → m1 (a + 21) c = (Rft R c : Int) → m1 (a + 22) c = (Rvl R c : Int) → m1 (a + 23) c = (Rls R c : Int) → Q none (m1, tl len)) : E 47 0 [some (aA (a + 15)), some (aA (a + 1)), some (aI ((c : Nat) : Int)), none, none, none, none, none, none, none] [] (m0, tl len) Q := by
  refine E_s (p' := 1) (st' := aI 0 :: _) rfl rfl ?_
  refine E_s (p' := 2) (L' := [some (aA (a + 15)), some (aA (a + 1)), some (aI ((c : Nat) : Int)), some (aI 0), none, none, none, none, none, none]) rfl rfl ?_
  refine E_s (p' := 3) (st' := aI 0 :: _) rfl rfl ?_
  refine E_s (p' := 5) (L' := [some (aA (a + 15)), some (aA (a + 1)), some (aI ((c : Nat) : Int)), some (aI 0), some (aI 0), none, none, none, none, none]) rfl rfl ?_
  refine E_s (p' := 6) (st' := aI 0 :: _) rfl rfl ?_
  refine E_s (p' := 8) (L' := [some (aA (a + 15)), some (aA (a + 1)), some (aI ((c : Nat) : Int)), some (aI 0), some (aI 0), some (aI 0), none, none, none, none]) rfl rfl ?_
  refine E_s (p' := 9) (st' := aI 0 :: _) rfl rfl ?_
  refine E_s (p' := 11) (L' := [some (aA (a + 15)), some (aA (a + 1)), some (aI ((c : Nat) : Int)), some (aI 0), some (aI 0), some (aI 0), some (aI 0), none, none, none]) rfl rfl ?_
  refine E_s (p' := 12) (st' := aI 0 :: _) rfl rfl ?_
  refine E_s (p' := 14) (L' := [some (aA (a + 15)), some (aA (a + 1)), some (aI ((c : Nat) : Int)), some (aI 0), some (aI 0), some (aI 0), some (aI 0), some (aI 0), none, none]) rfl rfl ?_
  refine E_s (p' := 15) (st' := aA (a + 15) :: _) rfl rfl ?_
  refine E_gA (b := a + 25) rfl rfl rfl (kR_15 hR) (hR_15_9 hR) rfl ?_
  refine E_callV (k' := 39) (a := a + 25) (r := []) (L0 := [some (aA (a + 25))]) rfl rfl rfl rfl rfl (kR_25 hR) rfl rfl rfl rfl ?_
  refine c_wbegin hR ?_
  refine E_go (p' := 21) (L' := [some (aA (a + 15)), some (aA (a + 1)), some (aI ((c : Nat) : Int)), some (aI 0), some (aI 0), some (aI 0), some (aI 0), some (aI 0), none, none]) (st' := []) rfl rfl rfl ?_
  refine E_s (p' := 22) (st' := aI 0 :: _) rfl rfl ?_
  refine E_s (p' := 24) (L' := [some (aA (a + 15)), some (aA (a + 1)), some (aI ((c : Nat) : Int)), some (aI 0), some (aI 0), some (aI 0), some (aI 0), some (aI 0), some (aI 0), none]) rfl rfl ?_
  have hab := isR_b hR
  exact yl_rc hR (hC.of (fun b j g1 g2 _ => up2_ne (by omega))) hV hc h1 ⟨(up2_ne (by omega)).trans hL.1, (up2_ne (by omega)).trans hL.2.1, fun l hl => (up2_ne (by omega)).trans (hL.2.2.1 l hl), fun l hl => (up2_ne (by omega)).trans (hL.2.2.2 l hl)⟩ (fun m1 g1 g2 g3 g4 => q m1 (fun b j k1 k2 => (g1 b j k1 k2).trans (up2_ne k2)) g2 g3 g4) (Ck R c + 1) 0 false false false 0 0 _ none (by omega) (by omega) rfl rfl rfl (by omega) (fun j _ => Nat.zero_testBit j) rfl Fx.rf up2_eq
end
