theorem Rct_le5 {R : RD} (h : 1 ≤ RL R) (l : Nat) : Rct R l ≤ 100000 := by
  have h1 := RL_mx R
  unfold Rct
  cases hru : Run R
  · have h2 : RL R ≤ 5 := by rw [hru] at h1; exact h1
    have h3 : 10 ^ (RL R - 1 - l) ≤ 10 ^ 4 := Nat.pow_le_pow_right (by omega) (by omega)
    show 10 ^ (RL R - 1 - l) * 10 ≤ 100000
    omega
  · have h2 : RL R ≤ 6 := by rw [hru] at h1; exact h1
    have h3 : 10 ^ (RL R - 1 - l) ≤ 10 ^ 5 := Nat.pow_le_pow_right (by omega) (by omega)
    show 10 ^ (RL R - 1 - l) * 1 ≤ 100000
    omega
theorem rSum_le5 {R : RD} (h : 1 ≤ RL R) {c : Nat} : ∀ (l : List (Nat × (Nat × Nat))), (∀ q ∈ l, q.2.2 ≤ 30) → rSum R c l ≤ 3000000 * l.length := by
  intro l
  induction l with
  | nil => intro _; exact Nat.le_refl 0
  | cons q t ih =>
    intro hq
    have h1 := ih (fun p hp => hq p (List.mem_cons_of_mem _ hp))
    have h2 := hq q (List.mem_cons_self ..)
    have h3 : rSum R c (q :: t) = (bif lst R c (Rlo R q.1) then 0 else q.2.2 * Rct R (Rlo R q.1)) + rSum R c t := by unfold rSum; rw [List.map_cons, List.sum_cons]
    have h4 : (bif lst R c (Rlo R q.1) then 0 else q.2.2 * Rct R (Rlo R q.1)) ≤ 3000000 := by
      cases lst R c (Rlo R q.1)
      · exact Nat.le_trans (Nat.mul_le_mul h2 (Rct_le5 h _)) (by decide)
      · exact Nat.zero_le _
    rw [h3, List.length_cons]
    omega
theorem Rvl_b5 {R : RD} (hV : VR R) {c : Nat} (hc : c < Cn R) : Rvl R c ≤ 90000000 := by
  unfold Rvl
  split
  · omega
  · split
    · have h1 := rSum_le5 (c := c) (show 1 ≤ RL R by omega) (clsA R c) (cls_wb hV hc _ (Nat.le_refl _))
      have h2 := cls_len R c (Ck R c)
      have h3 := (hV.2.2.1 c hc).2.2.2.2.2
      have h4 : (clsA R c).length = (cls R c (Ck R c)).length := rfl
      omega
    · omega
theorem gnu_b5 {R : RD} (hV : VR R) {g j : Nat} (hj : j < glen R (g : Int)) : gnu R g j ≤ 90000000 := Rvl_b5 hV (gmem_lt _ (gN_mem hj))
/-- the i-th numbers of the GROUPS of a set together -/
def togN (R : RD) (b i : Nat) : Nat → Nat
  | 0 => 0
  | k + 1 => togN R b i k + (bif Nat.testBit b k then gnu R k i else 0)
def addB (R : RD) (g b : Nat) : Bool := (List.range (glen R (g : Int))).all fun i => decide (togN R b i 12 = gnu R g i)
theorem togN_le {R : RD} (hV : VR R) {b i n : Nat} (hb : ∀ k, k < 12 → Nat.testBit b k = true → glen R (k : Int) = n) (hi : i < n) : ∀ k, k ≤ 12 → togN R b i k ≤ 90000000 * k := by
  intro k
  induction k with
  | zero => intro _; exact Nat.le_refl 0
  | succ k ih =>
    intro hk
    have h1 := ih (by omega)
    show togN R b i k + _ ≤ _
    cases h2 : Nat.testBit b k
    · show togN R b i k + 0 ≤ _; omega
    · have h3 := gnu_b5 hV (g := k) (j := i) (by rw [hb k (by omega) h2]; exact hi)
      show togN R b i k + gnu R k i ≤ _; omega
theorem tb1 {b k : Nat} (h : (b / 2 ^ k) &&& 1 ≠ 0) : Nat.testBit b k = true := by
  rw [Nat.testBit_eq_decide_div_mod_eq]
  rw [Nat.and_one_is_mod] at h
  exact decide_eq_true (by omega)
theorem tb0 {b k : Nat} (h : (b / 2 ^ k) &&& 1 = 0) : Nat.testBit b k = false := by
  rw [Nat.testBit_eq_decide_div_mod_eq]
  rw [Nat.and_one_is_mod] at h
  exact decide_eq_false (by omega)
theorem addB_t {R : RD} {g b : Nat} (h : ∀ i, i < glen R (g : Int) → togN R b i 12 = gnu R g i) : addB R g b = true := by
  unfold addB
  rw [List.all_eq_true]
  intro i hi
  exact decide_eq_true (h i (List.mem_range.mp hi))
theorem addB_f {R : RD} {g b i : Nat} (hi : i < glen R (g : Int)) (h : togN R b i 12 ≠ gnu R g i) : addB R g b = false := by
  cases h9 : addB R g b
  · rfl
  · exfalso
    unfold addB at h9
    rw [List.all_eq_true] at h9
    exact h (of_decide_eq_true (h9 i (List.mem_range.mpr hi)))
section
variable {len : Nat} {m m0 : Mm} {Q : Option AV → Sx → Prop} {R : RD} {g u b : Nat}
theorem yl_a2 (hV : VR R) (hG : GA R m u) (hg : g < 12) (hb : b < 4096) (hbm : ∀ k, k < 12 → Nat.testBit b k = true → glen R (k : Int) = glen R (g : Int)) {i : Nat} (hi : i < glen R (g : Int)) (hk : E 114 61 [some (aA 10), some (aI ((g : Nat) : Int)), some (aI ((b : Nat) : Int)), some (aI ((i : Nat) : Int)), some (aI ((togN R b i 12 : Nat) : Int)), some (aI 12)] [] (m, tl len) Q) : ∀ (d : Nat) (k : Nat), (12 < k + d) → (k ≤ 12) → E 114 18 [some (aA 10), some (aI ((g : Nat) : Int)), some (aI ((b : Nat) : Int)), some (aI ((i : Nat) : Int)), some (aI ((togN R b i k : Nat) : Int)), some (aI ((k : Nat) : Int))] [] (m, tl len) Q := by
  intro d
  induction d with
  | zero => intro k hd hk9; omega
  | succ d ih =>
    intro k hd hk9
    have hgl := glen_le hV (g : Int)
    have hto := togN_le hV hbm hi k hk9
    refine E_s (p' := 20) (st' := aI ((k : Nat) : Int) :: _) rfl rfl ?_
    refine E_s (p' := 22) (st' := aI 12 :: _) rfl rfl ?_
    refine E_icmp_ge (x := ((k : Nat) : Int)) (y := 12) rfl (by decide) (fun h_1 => ?_) (fun h_1 => ?_)
    · refine E_go (p' := 61) (L' := [some (aA 10), some (aI ((g : Nat) : Int)), some (aI ((b : Nat) : Int)), some (aI ((i : Nat) : Int)), some (aI ((togN R b i k : Nat) : Int)), some (aI ((k : Nat) : Int))]) (st' := []) rfl rfl rfl ?_
      have ek : k = 12 := by omega
      subst ek
      exact hk
    · refine E_go (p' := 25) (L' := [some (aA 10), some (aI ((g : Nat) : Int)), some (aI ((b : Nat) : Int)), some (aI ((i : Nat) : Int)), some (aI ((togN R b i k : Nat) : Int)), some (aI ((k : Nat) : Int))]) (st' := []) rfl rfl rfl ?_
      refine E_s (p' := 27) (st' := aI ((togN R b i k : Nat) : Int) :: _) rfl rfl ?_
      refine E_s (p' := 28) (st' := aI ((b : Nat) : Int) :: _) rfl rfl ?_
      refine E_s (p' := 30) (st' := aI ((k : Nat) : Int) :: _) rfl rfl ?_
      refine E_shr (x := b) (y := k) (v := ((b) / 2 ^ k)) rfl (by first | omega | (have := Nat.div_le_self b (2 ^ k); omega)) (by omega) rfl ?_
      refine E_s (p' := 32) (st' := aI 1 :: _) rfl rfl ?_
      refine E_and (x := ((b) / 2 ^ k)) (y := 1) (v := ((((b) / 2 ^ k)) &&& 1)) rfl (by first | omega | (have := Nat.div_le_self b (2 ^ k); omega)) (by omega) rfl ?_
      refine E_if_eq (x := ((((((b) / 2 ^ k)) &&& 1) : Nat) : Int)) rfl (by decide) (fun h_2 => ?_) (fun h_2 => ?_)
      · refine E_go (p' := 51) (L' := [some (aA 10), some (aI ((g : Nat) : Int)), some (aI ((b : Nat) : Int)), some (aI ((i : Nat) : Int)), some (aI ((togN R b i k : Nat) : Int)), some (aI ((k : Nat) : Int))]) (st' := [aI ((togN R b i k : Nat) : Int)]) rfl rfl rfl ?_
        refine E_s (p' := 52) (st' := aI 0 :: _) rfl rfl ?_
        refine E_add (v := ((togN R b i k : Nat) : Int)) rfl (by omega) (by omega) ?_
        refine E_s (p' := 55) (L' := [some (aA 10), some (aI ((g : Nat) : Int)), some (aI ((b : Nat) : Int)), some (aI ((i : Nat) : Int)), some (aI ((togN R b i k : Nat) : Int)), some (aI ((k : Nat) : Int))]) rfl rfl ?_
        refine E_inc (x := ((k : Nat) : Int)) (w := ((k + 1 : Nat) : Int)) (L' := [some (aA 10), some (aI ((g : Nat) : Int)), some (aI ((b : Nat) : Int)), some (aI ((i : Nat) : Int)), some (aI ((togN R b i k : Nat) : Int)), some (aI ((k + 1 : Nat) : Int))]) rfl rfl rfl (by omega) (by omega) rfl ?_
        refine E_s (p' := 18) rfl rfl ?_
        have e9 : togN R b i (k + 1) = togN R b i k := by
          show togN R b i k + (bif Nat.testBit b k then gnu R k i else 0) = _
          rw [tb0 (by omega)]; rfl
        rw [← e9]
        exact ih (k + 1) (by omega) (by omega)
      · refine E_go (p' := 36) (L' := [some (aA 10), some (aI ((g : Nat) : Int)), some (aI ((b : Nat) : Int)), some (aI ((i : Nat) : Int)), some (aI ((togN R b i k : Nat) : Int)), some (aI ((k : Nat) : Int))]) (st' := [aI ((togN R b i k : Nat) : Int)]) rfl rfl rfl ?_
        have hgb := gnu_b5 hV (g := k) (j := i) (by rw [hbm k (by omega) (tb1 (by omega))]; omega)
        refine E_s (p' := 37) (st' := aA 10 :: _) rfl rfl ?_
        refine E_gA (b := 14) rfl rfl rfl rfl rfl rfl ?_
        refine E_s (p' := 42) (st' := aI ((k : Nat) : Int) :: _) rfl rfl ?_
        refine E_s (p' := 44) (st' := aI 60 :: _) rfl rfl ?_
        refine E_mul (v := ((60 * k : Nat) : Int)) rfl (by omega) (by omega) ?_
        refine E_s (p' := 46) (st' := aI ((i : Nat) : Int) :: _) rfl rfl ?_
        refine E_add (v := ((60 * k + i : Nat) : Int)) rfl (by omega) (by omega) ?_
        refine E_ald (e := 60 * k + i) (N := 720) (v := ((gnu R k i : Nat) : Int)) rfl rfl (rfl) (by omega) (hG.num (by omega) (by rw [hbm k (by omega) (tb1 (by omega))]; omega)) ?_
        refine E_s (p' := 52) rfl rfl ?_
        refine E_add (v := ((togN R b i k + gnu R k i : Nat) : Int)) rfl (by omega) (by omega) ?_
        refine E_s (p' := 55) (L' := [some (aA 10), some (aI ((g : Nat) : Int)), some (aI ((b : Nat) : Int)), some (aI ((i : Nat) : Int)), some (aI ((togN R b i k + gnu R k i : Nat) : Int)), some (aI ((k : Nat) : Int))]) rfl rfl ?_
        refine E_inc (x := ((k : Nat) : Int)) (w := ((k + 1 : Nat) : Int)) (L' := [some (aA 10), some (aI ((g : Nat) : Int)), some (aI ((b : Nat) : Int)), some (aI ((i : Nat) : Int)), some (aI ((togN R b i k + gnu R k i : Nat) : Int)), some (aI ((k + 1 : Nat) : Int))]) rfl rfl rfl (by omega) (by omega) rfl ?_
        refine E_s (p' := 18) rfl rfl ?_
        have e9 : togN R b i (k + 1) = togN R b i k + gnu R k i := by
          show togN R b i k + (bif Nat.testBit b k then gnu R k i else 0) = _
          rw [tb1 (by omega)]; rfl
        rw [← e9]
        exact ih (k + 1) (by omega) (by omega)
theorem yl_a1 (hV : VR R) (hG : GA R m u) (hg : g < 12) (hb : b < 4096) (hbm : ∀ k, k < 12 → Nat.testBit b k = true → glen R (k : Int) = glen R (g : Int)) (q1 : addB R g b = true → Q (some (aI 1)) (m, tl len)) (q0 : addB R g b = false → Q (some (aI 0)) (m, tl len))  : ∀ (d : Nat) (i : Nat) (x4 x5 : Option AV), (glen R (g : Int) < i + d) → (i ≤ glen R (g : Int)) → (∀ j, j < i → togN R b j 12 = gnu R g j) → E 114 2 [some (aA 10), some (aI ((g : Nat) : Int)), some (aI ((b : Nat) : Int)), some (aI ((i : Nat) : Int)), x4, x5] [] (m, tl len) Q := by
  intro d
  induction d with
  | zero => intro i x4 x5 hd hi I1; omega
  | succ d ih =>
    intro i x4 x5 hd hi I1
    have hgl := glen_le hV (g : Int)
    refine E_s (p' := 3) (st' := aI ((i : Nat) : Int) :: _) rfl rfl ?_
    refine E_s (p' := 4) (st' := aA 10 :: _) rfl rfl ?_
    refine E_gA (b := 13) rfl rfl rfl rfl rfl rfl ?_
    refine E_s (p' := 8) (st' := aI ((g : Nat) : Int) :: _) rfl rfl ?_
    refine E_ald (e := g) (N := 12) (v := ((glen R (g : Int) : Nat) : Int)) rfl rfl (rfl) (by omega) (hG.len (by omega)) ?_
    refine E_icmp_ge (x := ((i : Nat) : Int)) (y := ((glen R (g : Int) : Nat) : Int)) rfl (by decide) (fun h_1 => ?_) (fun h_1 => ?_)
    · refine E_go (p' := 85) (L' := [some (aA 10), some (aI ((g : Nat) : Int)), some (aI ((b : Nat) : Int)), some (aI ((i : Nat) : Int)), x4, x5]) (st' := []) rfl rfl rfl ?_
      refine E_s (p' := 86) (st' := aI 1 :: _) rfl rfl ?_
      refine E_ret rfl rfl ?_
      exact q1 (addB_t (fun j hj => I1 j (by omega)))
    · refine E_go (p' := 12) (L' := [some (aA 10), some (aI ((g : Nat) : Int)), some (aI ((b : Nat) : Int)), some (aI ((i : Nat) : Int)), x4, x5]) (st' := []) rfl rfl rfl ?_
      refine E_s (p' := 13) (st' := aI 0 :: _) rfl rfl ?_
      refine E_s (p' := 15) (L' := [some (aA 10), some (aI ((g : Nat) : Int)), some (aI ((b : Nat) : Int)), some (aI ((i : Nat) : Int)), some (aI 0), x5]) rfl rfl ?_
      refine E_s (p' := 16) (st' := aI 0 :: _) rfl rfl ?_
      refine E_s (p' := 18) (L' := [some (aA 10), some (aI ((g : Nat) : Int)), some (aI ((b : Nat) : Int)), some (aI ((i : Nat) : Int)), some (aI 0), some (aI 0)]) rfl rfl ?_
      refine yl_a2 hV hG hg hb hbm (i := i) (by omega) ?_ 13 0 (by omega) (by omega)
      refine E_s (p' := 63) (st' := aI ((togN R b i 12 : Nat) : Int) :: _) rfl rfl ?_
      refine E_s (p' := 64) (st' := aA 10 :: _) rfl rfl ?_
      refine E_gA (b := 14) rfl rfl rfl rfl rfl rfl ?_
      refine E_s (p' := 68) (st' := aI ((g : Nat) : Int) :: _) rfl rfl ?_
      refine E_s (p' := 70) (st' := aI 60 :: _) rfl rfl ?_
      refine E_mul (v := ((60 * g : Nat) : Int)) rfl (by omega) (by omega) ?_
      refine E_s (p' := 72) (st' := aI ((i : Nat) : Int) :: _) rfl rfl ?_
      refine E_add (v := ((60 * g + i : Nat) : Int)) rfl (by omega) (by omega) ?_
      refine E_ald (e := 60 * g + i) (N := 720) (v := ((gnu R g i : Nat) : Int)) rfl rfl (rfl) (by omega) (hG.num (by omega) (by omega)) ?_
      refine E_icmp_eq (x := ((togN R b i 12 : Nat) : Int)) (y := ((gnu R g i : Nat) : Int)) rfl (by decide) (fun h_2 => ?_) (fun h_2 => ?_)
      · refine E_go (p' := 79) (L' := [some (aA 10), some (aI ((g : Nat) : Int)), some (aI ((b : Nat) : Int)), some (aI ((i : Nat) : Int)), some (aI ((togN R b i 12 : Nat) : Int)), some (aI 12)]) (st' := []) rfl rfl rfl ?_
        refine E_inc (x := ((i : Nat) : Int)) (w := ((i + 1 : Nat) : Int)) (L' := [some (aA 10), some (aI ((g : Nat) : Int)), some (aI ((b : Nat) : Int)), some (aI ((i + 1 : Nat) : Int)), some (aI ((togN R b i 12 : Nat) : Int)), some (aI 12)]) rfl rfl rfl (by omega) (by omega) rfl ?_
        refine E_s (p' := 2) rfl rfl ?_
        refine ih (i + 1) _ _ (by omega) (by omega) (fun j hj => ?_)
        by_cases g9 : j = i
        · rw [g9]; omega
        · exact I1 j (by omega)
      · refine E_go (p' := 77) (L' := [some (aA 10), some (aI ((g : Nat) : Int)), some (aI ((b : Nat) : Int)), some (aI ((i : Nat) : Int)), some (aI ((togN R b i 12 : Nat) : Int)), some (aI 12)]) (st' := []) rfl rfl rfl ?_
        refine E_s (p' := 78) (st' := aI 0 :: _) rfl rfl ?_
        refine E_ret rfl rfl ?_
        exact q0 (addB_f (i := i) (by omega) (by omega))
theorem c_addsUp (hV : VR R) (hG : GA R m u) (hg : g < 12) (hb : b < 4096) (hbm : ∀ k, k < 12 → Nat.testBit b k = true → glen R (k : Int) = glen R (g : Int)) (q1 : addB R g b = true → Q (some (aI 1)) (m, tl len)) (q0 : addB R g b = false → Q (some (aI 0)) (m, tl len))  : E 114 0 [some (aA 10), some (aI ((g : Nat) : Int)), some (aI ((b : Nat) : Int)), none, none, none] [] (m, tl len) Q := by
  refine E_s (p' := 1) (st' := aI 0 :: _) rfl rfl ?_
  refine E_s (p' := 2) (L' := [some (aA 10), some (aI ((g : Nat) : Int)), some (aI ((b : Nat) : Int)), some (aI 0), none, none]) rfl rfl ?_
  exact yl_a1 hV hG hg hb hbm q1 q0 (glen R (g : Int) + 1) 0 _ _ (by omega) (by omega) (fun j hj => absurd hj (by omega))
end
