/-- some number of the GROUP is above 0, among the first -/
def smB (R : RD) (g : Nat) : Nat → Bool
  | 0 => false
  | i + 1 => smB R g i || decide (0 < gnu R g i)
def igB (R : RD) (g b : Nat) : Bool := addB R g b && smB R g (glen R (g : Int))
def sdG (R : RD) (g : Nat) : Bool := (gmem R (g : Int) (Cn R)).all (sdR R)
theorem sd_num {R : RD} {m : Mm} {g i : Nat} (hN : ∀ d, d < Cn R → m 148 d = Rtd R d) (hs : sdG R g = true) (hi : i < glen R (g : Int)) : m 148 ((gmem R (g : Int) (Cn R)).getD i 0) = (gnu R g i : Int) := by
  have h1 := gN_mem (l := gmem R (g : Int) (Cn R)) hi
  rw [hN _ (gmem_lt _ h1)]
  unfold sdG at hs
  rw [List.all_eq_true] at hs
  have h2 := hs _ h1
  unfold sdR at h2
  have h3 := of_decide_eq_true (Bool.and_eq_true_iff.mp h2).2
  unfold Rtd
  rw [if_pos h3]; rfl
section
variable {len : Nat} {m m0 : Mm} {Q : Option AV → Sx → Prop} {R : RD} {g b : Nat}
theorem yl_i2 (hV : VR R) (hN : ∀ d, d < Cn R → m 148 d = Rtd R d) (hG : GR R (Cn R) m) (hg : g < 12) (hsg : sdG R g = true) (hb : b < 4096) (hbm : ∀ k, k < 12 → Nat.testBit b k = true → glen R (k : Int) = glen R (g : Int)) (hbs : ∀ k, k < 12 → Nat.testBit b k = true → sdG R k = true) {i : Nat} {so3 : Bool} (hi : i < glen R (g : Int)) (hk : E 178 72 [some (aA 124), some (aI ((g : Nat) : Int)), some (aI ((b : Nat) : Int)), some (aI (bi so3)), some (aI ((i : Nat) : Int)), some (aI ((togN R b i 12 : Nat) : Int)), some (aI 12)] [] (m, tl len) Q) : ∀ (d : Nat) (k : Nat), (12 < k + d) → (k ≤ 12) → E 178 22 [some (aA 124), some (aI ((g : Nat) : Int)), some (aI ((b : Nat) : Int)), some (aI (bi so3)), some (aI ((i : Nat) : Int)), some (aI ((togN R b i k : Nat) : Int)), some (aI ((k : Nat) : Int))] [] (m, tl len) Q := by
  intro d
  induction d with
  | zero => intro k hd hk9; omega
  | succ d ih =>
    intro k hd hk9
    have hgl := glen_le hV (g : Int)
    have hn60 := hV.1
    have hto := togN_le hV hbm hi k hk9
    refine E_s (p' := 24) (st' := aI ((k : Nat) : Int) :: _) rfl rfl ?_
    refine E_s (p' := 26) (st' := aI 12 :: _) rfl rfl ?_
    refine E_icmp_ge (x := ((k : Nat) : Int)) (y := 12) rfl (by decide) (fun h_1 => ?_) (fun h_1 => ?_)
    · refine E_go (p' := 72) (L' := [some (aA 124), some (aI ((g : Nat) : Int)), some (aI ((b : Nat) : Int)), some (aI (bi so3)), some (aI ((i : Nat) : Int)), some (aI ((togN R b i k : Nat) : Int)), some (aI ((k : Nat) : Int))]) (st' := []) rfl rfl rfl ?_
      have ek : k = 12 := by omega
      subst ek
      exact hk
    · refine E_go (p' := 29) (L' := [some (aA 124), some (aI ((g : Nat) : Int)), some (aI ((b : Nat) : Int)), some (aI (bi so3)), some (aI ((i : Nat) : Int)), some (aI ((togN R b i k : Nat) : Int)), some (aI ((k : Nat) : Int))]) (st' := []) rfl rfl rfl ?_
      refine E_s (p' := 31) (st' := aI ((togN R b i k : Nat) : Int) :: _) rfl rfl ?_
      refine E_s (p' := 32) (st' := aI ((b : Nat) : Int) :: _) rfl rfl ?_
      refine E_s (p' := 34) (st' := aI ((k : Nat) : Int) :: _) rfl rfl ?_
      refine E_shr (x := b) (y := k) (v := ((b) / 2 ^ k)) rfl (by first | omega | (have := Nat.div_le_self b (2 ^ k); omega)) (by omega) rfl ?_
      refine E_s (p' := 36) (st' := aI 1 :: _) rfl rfl ?_
      refine E_and (x := ((b) / 2 ^ k)) (y := 1) (v := ((((b) / 2 ^ k)) &&& 1)) rfl (by first | omega | (have := Nat.div_le_self b (2 ^ k); omega)) (by omega) rfl ?_
      refine E_s (p' := 38) (st' := aI 1 :: _) rfl rfl ?_
      refine E_icmp_ne (x := ((((((b) / 2 ^ k)) &&& 1) : Nat) : Int)) (y := 1) rfl (by decide) (fun h_2 => ?_) (fun h_2 => ?_)
      · refine E_go (p' := 62) (L' := [some (aA 124), some (aI ((g : Nat) : Int)), some (aI ((b : Nat) : Int)), some (aI (bi so3)), some (aI ((i : Nat) : Int)), some (aI ((togN R b i k : Nat) : Int)), some (aI ((k : Nat) : Int))]) (st' := [aI ((togN R b i k : Nat) : Int)]) rfl rfl rfl ?_
        refine E_s (p' := 63) (st' := aI 0 :: _) rfl rfl ?_
        refine E_add (v := ((togN R b i k : Nat) : Int)) rfl (by omega) (by omega) ?_
        refine E_s (p' := 66) (L' := [some (aA 124), some (aI ((g : Nat) : Int)), some (aI ((b : Nat) : Int)), some (aI (bi so3)), some (aI ((i : Nat) : Int)), some (aI ((togN R b i k : Nat) : Int)), some (aI ((k : Nat) : Int))]) rfl rfl ?_
        refine E_inc (x := ((k : Nat) : Int)) (w := ((k + 1 : Nat) : Int)) (L' := [some (aA 124), some (aI ((g : Nat) : Int)), some (aI ((b : Nat) : Int)), some (aI (bi so3)), some (aI ((i : Nat) : Int)), some (aI ((togN R b i k : Nat) : Int)), some (aI ((k + 1 : Nat) : Int))]) rfl rfl rfl (by omega) (by omega) rfl ?_
        refine E_s (p' := 22) rfl rfl ?_
        have e9 : togN R b i (k + 1) = togN R b i k := by
          show togN R b i k + (bif Nat.testBit b k then gnu R k i else 0) = _
          rw [tb0 (by have := Nat.and_one_is_mod (b / 2 ^ k); omega)]; rfl
        rw [← e9]
        exact ih (k + 1) (by omega) (by omega)
      · refine E_go (p' := 41) (L' := [some (aA 124), some (aI ((g : Nat) : Int)), some (aI ((b : Nat) : Int)), some (aI (bi so3)), some (aI ((i : Nat) : Int)), some (aI ((togN R b i k : Nat) : Int)), some (aI ((k : Nat) : Int))]) (st' := [aI ((togN R b i k : Nat) : Int)]) rfl rfl rfl ?_
        have htb : Nat.testBit b k = true := tb1 (by omega)
        have hil : i < glen R (k : Int) := by rw [hbm k (by omega) htb]; exact hi
        have hgb := gnu_b5 hV hil
        have hgx := gmem_lt _ (gN_mem hil)
        refine E_s (p' := 42) (st' := aA 124 :: _) rfl rfl ?_
        refine E_gA (b := 148) rfl rfl rfl rfl rfl rfl ?_
        refine E_s (p' := 46) (st' := aA 124 :: _) rfl rfl ?_
        refine E_gA (b := 162) rfl rfl rfl rfl rfl rfl ?_
        refine E_s (p' := 51) (st' := aI 60 :: _) rfl rfl ?_
        refine E_s (p' := 53) (st' := aI ((k : Nat) : Int) :: _) rfl rfl ?_
        refine E_mul (v := ((60 * k : Nat) : Int)) rfl (by omega) (by omega) ?_
        refine E_s (p' := 56) (st' := aI ((i : Nat) : Int) :: _) rfl rfl ?_
        refine E_add (v := ((60 * k + i : Nat) : Int)) rfl (by omega) (by omega) ?_
        refine E_ald (e := 60 * k + i) (N := 720) (v := (((gmem R (k : Int) (Cn R)).getD i 0 : Nat) : Int)) rfl rfl (rfl) (by omega) ((hG k (by omega)).2.1 i hil) ?_
        refine E_ald (e := (gmem R (k : Int) (Cn R)).getD i 0) (N := 60) (v := ((gnu R k i : Nat) : Int)) rfl rfl (rfl) (by omega) (sd_num hN (hbs k (by omega) (tb1 (by omega))) hil) ?_
        refine E_s (p' := 63) rfl rfl ?_
        refine E_add (v := ((togN R b i k + gnu R k i : Nat) : Int)) rfl (by omega) (by omega) ?_
        refine E_s (p' := 66) (L' := [some (aA 124), some (aI ((g : Nat) : Int)), some (aI ((b : Nat) : Int)), some (aI (bi so3)), some (aI ((i : Nat) : Int)), some (aI ((togN R b i k + gnu R k i : Nat) : Int)), some (aI ((k : Nat) : Int))]) rfl rfl ?_
        refine E_inc (x := ((k : Nat) : Int)) (w := ((k + 1 : Nat) : Int)) (L' := [some (aA 124), some (aI ((g : Nat) : Int)), some (aI ((b : Nat) : Int)), some (aI (bi so3)), some (aI ((i : Nat) : Int)), some (aI ((togN R b i k + gnu R k i : Nat) : Int)), some (aI ((k + 1 : Nat) : Int))]) rfl rfl rfl (by omega) (by omega) rfl ?_
        refine E_s (p' := 22) rfl rfl ?_
        have e9 : togN R b i (k + 1) = togN R b i k + gnu R k i := by
          show togN R b i k + (bif Nat.testBit b k then gnu R k i else 0) = _
          rw [tb1 (by have := Nat.and_one_is_mod (b / 2 ^ k); omega)]; rfl
        rw [← e9]
        exact ih (k + 1) (by omega) (by omega)
theorem yl_i1 (hV : VR R) (hN : ∀ d, d < Cn R → m 148 d = Rtd R d) (hG : GR R (Cn R) m) (hg : g < 12) (hsg : sdG R g = true) (hb : b < 4096) (hbm : ∀ k, k < 12 → Nat.testBit b k = true → glen R (k : Int) = glen R (g : Int)) (hbs : ∀ k, k < 12 → Nat.testBit b k = true → sdG R k = true) (q : Q (some (aI (bi (igB R g b)))) (m, tl len))  : ∀ (d : Nat) (i : Nat) (x5 x6 : Option AV), (glen R (g : Int) < i + d) → (i ≤ glen R (g : Int)) → (∀ j, j < i → togN R b j 12 = gnu R g j) → E 178 5 [some (aA 124), some (aI ((g : Nat) : Int)), some (aI ((b : Nat) : Int)), some (aI (bi (smB R g i))), some (aI ((i : Nat) : Int)), x5, x6] [] (m, tl len) Q := by
  intro d
  induction d with
  | zero => intro i x5 x6 hd hi I1; omega
  | succ d ih =>
    intro i x5 x6 hd hi I1
    have hgl := glen_le hV (g : Int)
    have hn60 := hV.1
    refine E_s (p' := 7) (st' := aI ((i : Nat) : Int) :: _) rfl rfl ?_
    refine E_s (p' := 8) (st' := aA 124 :: _) rfl rfl ?_
    refine E_gA (b := 163) rfl rfl rfl rfl rfl rfl ?_
    refine E_s (p' := 12) (st' := aI ((g : Nat) : Int) :: _) rfl rfl ?_
    refine E_ald (e := g) (N := 12) (v := ((glen R (g : Int) : Nat) : Int)) rfl rfl (rfl) (by omega) (hG g (by omega)).1 ?_
    refine E_icmp_ge (x := ((i : Nat) : Int)) (y := ((glen R (g : Int) : Nat) : Int)) rfl (by decide) (fun h_1 => ?_) (fun h_1 => ?_)
    · refine E_go (p' := 121) (L' := [some (aA 124), some (aI ((g : Nat) : Int)), some (aI ((b : Nat) : Int)), some (aI (bi (smB R g i))), some (aI ((i : Nat) : Int)), x5, x6]) (st' := []) rfl rfl rfl ?_
      refine E_s (p' := 122) (st' := aI (bi (smB R g i)) :: _) rfl rfl ?_
      refine E_retB rfl rfl (bi01 _) ?_
      have ei : i = glen R (g : Int) := by omega
      subst ei
      have e9 : igB R g b = smB R g (glen R (g : Int)) := by unfold igB; rw [addB_t I1]; rfl
      rw [e9] at q
      exact q
    · refine E_go (p' := 16) (L' := [some (aA 124), some (aI ((g : Nat) : Int)), some (aI ((b : Nat) : Int)), some (aI (bi (smB R g i))), some (aI ((i : Nat) : Int)), x5, x6]) (st' := []) rfl rfl rfl ?_
      refine E_s (p' := 17) (st' := aI 0 :: _) rfl rfl ?_
      refine E_s (p' := 19) (L' := [some (aA 124), some (aI ((g : Nat) : Int)), some (aI ((b : Nat) : Int)), some (aI (bi (smB R g i))), some (aI ((i : Nat) : Int)), some (aI 0), x6]) rfl rfl ?_
      refine E_s (p' := 20) (st' := aI 0 :: _) rfl rfl ?_
      refine E_s (p' := 22) (L' := [some (aA 124), some (aI ((g : Nat) : Int)), some (aI ((b : Nat) : Int)), some (aI (bi (smB R g i))), some (aI ((i : Nat) : Int)), some (aI 0), some (aI 0)]) rfl rfl ?_
      have hil : i < glen R (g : Int) := by omega
      have hgx := gmem_lt _ (gN_mem hil)
      refine yl_i2 hV hN hG hg hsg hb hbm hbs (i := i) (so3 := smB R g i) hil ?_ 13 0 (by omega) (by omega)
      refine E_s (p' := 73) (st' := aA 124 :: _) rfl rfl ?_
      refine E_gA (b := 148) rfl rfl rfl rfl rfl rfl ?_
      refine E_s (p' := 77) (st' := aA 124 :: _) rfl rfl ?_
      refine E_gA (b := 162) rfl rfl rfl rfl rfl rfl ?_
      refine E_s (p' := 82) (st' := aI 60 :: _) rfl rfl ?_
      refine E_s (p' := 83) (st' := aI ((g : Nat) : Int) :: _) rfl rfl ?_
      refine E_mul (v := ((60 * g : Nat) : Int)) rfl (by omega) (by omega) ?_
      refine E_s (p' := 86) (st' := aI ((i : Nat) : Int) :: _) rfl rfl ?_
      refine E_add (v := ((60 * g + i : Nat) : Int)) rfl (by omega) (by omega) ?_
      refine E_ald (e := 60 * g + i) (N := 720) (v := (((gmem R (g : Int) (Cn R)).getD i 0 : Nat) : Int)) rfl rfl (rfl) (by omega) ((hG g (by omega)).2.1 i hil) ?_
      refine E_ald (e := (gmem R (g : Int) (Cn R)).getD i 0) (N := 60) (v := ((gnu R g i : Nat) : Int)) rfl rfl (rfl) (by omega) (sd_num hN hsg hil) ?_
      refine E_s (p' := 91) (L' := [some (aA 124), some (aI ((g : Nat) : Int)), some (aI ((b : Nat) : Int)), some (aI (bi (smB R g i))), some (aI ((i : Nat) : Int)), some (aI ((togN R b i 12 : Nat) : Int)), some (aI ((gnu R g i : Nat) : Int))]) rfl rfl ?_
      refine E_s (p' := 93) (st' := aI ((togN R b i 12 : Nat) : Int) :: _) rfl rfl ?_
      refine E_s (p' := 95) (st' := aI ((gnu R g i : Nat) : Int) :: _) rfl rfl ?_
      refine E_icmp_eq (x := ((togN R b i 12 : Nat) : Int)) (y := ((gnu R g i : Nat) : Int)) rfl (by decide) (fun h_2 => ?_) (fun h_2 => ?_)
      · refine E_go (p' := 100) (L' := [some (aA 124), some (aI ((g : Nat) : Int)), some (aI ((b : Nat) : Int)), some (aI (bi (smB R g i))), some (aI ((i : Nat) : Int)), some (aI ((togN R b i 12 : Nat) : Int)), some (aI ((gnu R g i : Nat) : Int))]) (st' := []) rfl rfl rfl ?_
        refine E_s (p' := 101) (st' := aI (bi (smB R g i)) :: _) rfl rfl ?_
        refine E_b_ne0 (b := (smB R g i)) rfl (by decide) (fun h_3 => ?_) (fun h_3 => ?_)
        · refine E_go (p' := 109) (L' := [some (aA 124), some (aI ((g : Nat) : Int)), some (aI ((b : Nat) : Int)), some (aI (bi (smB R g i))), some (aI ((i : Nat) : Int)), some (aI ((togN R b i 12 : Nat) : Int)), some (aI ((gnu R g i : Nat) : Int))]) (st' := []) rfl rfl rfl ?_
          refine E_s (p' := 110) (st' := aI 1 :: _) rfl rfl ?_
          refine E_s (p' := 114) rfl rfl ?_
          refine E_s (p' := 115) (L' := [some (aA 124), some (aI ((g : Nat) : Int)), some (aI ((b : Nat) : Int)), some (aI 1), some (aI ((i : Nat) : Int)), some (aI ((togN R b i 12 : Nat) : Int)), some (aI ((gnu R g i : Nat) : Int))]) rfl rfl ?_
          refine E_inc (x := ((i : Nat) : Int)) (w := ((i + 1 : Nat) : Int)) (L' := [some (aA 124), some (aI ((g : Nat) : Int)), some (aI ((b : Nat) : Int)), some (aI 1), some (aI ((i + 1 : Nat) : Int)), some (aI ((togN R b i 12 : Nat) : Int)), some (aI ((gnu R g i : Nat) : Int))]) rfl rfl rfl (by omega) (by omega) rfl ?_
          refine E_s (p' := 5) rfl rfl ?_
          have e9 : smB R g (i + 1) = true := by
            show (smB R g i || decide (0 < gnu R g i)) = _
            first
            | (rw [show smB R g i = true by assumption]; rfl)
            | (rw [show smB R g i = false by assumption, decide_eq_true (by omega)]; rfl)
          refine E_go (p' := 5) (L' := [some (aA 124), some (aI ((g : Nat) : Int)), some (aI ((b : Nat) : Int)), some (aI (bi (smB R g (i + 1)))), some (aI ((i + 1 : Nat) : Int)), some (aI ((togN R b i 12 : Nat) : Int)), some (aI ((gnu R g i : Nat) : Int))]) (st' := []) rfl (by rw [e9]; rfl) rfl ?_
          refine ih (i + 1) _ _ (by omega) (by omega) (fun j hj => ?_)
          by_cases g9 : j = i
          · rw [g9]; omega
          · exact I1 j (by omega)
        · refine E_go (p' := 104) (L' := [some (aA 124), some (aI ((g : Nat) : Int)), some (aI ((b : Nat) : Int)), some (aI (bi (smB R g i))), some (aI ((i : Nat) : Int)), some (aI ((togN R b i 12 : Nat) : Int)), some (aI ((gnu R g i : Nat) : Int))]) (st' := []) rfl rfl rfl ?_
          refine E_s (p' := 106) (st' := aI ((gnu R g i : Nat) : Int) :: _) rfl rfl ?_
          refine E_if_le (x := ((gnu R g i : Nat) : Int)) rfl (by decide) (fun h_4 => ?_) (fun h_4 => ?_)
          · refine E_go (p' := 113) (L' := [some (aA 124), some (aI ((g : Nat) : Int)), some (aI ((b : Nat) : Int)), some (aI (bi (smB R g i))), some (aI ((i : Nat) : Int)), some (aI ((togN R b i 12 : Nat) : Int)), some (aI ((gnu R g i : Nat) : Int))]) (st' := []) rfl rfl rfl ?_
            refine E_s (p' := 114) (st' := aI 0 :: _) rfl rfl ?_
            refine E_s (p' := 115) (L' := [some (aA 124), some (aI ((g : Nat) : Int)), some (aI ((b : Nat) : Int)), some (aI 0), some (aI ((i : Nat) : Int)), some (aI ((togN R b i 12 : Nat) : Int)), some (aI ((gnu R g i : Nat) : Int))]) rfl rfl ?_
            refine E_inc (x := ((i : Nat) : Int)) (w := ((i + 1 : Nat) : Int)) (L' := [some (aA 124), some (aI ((g : Nat) : Int)), some (aI ((b : Nat) : Int)), some (aI 0), some (aI ((i + 1 : Nat) : Int)), some (aI ((togN R b i 12 : Nat) : Int)), some (aI ((gnu R g i : Nat) : Int))]) rfl rfl rfl (by omega) (by omega) rfl ?_
            refine E_s (p' := 5) rfl rfl ?_
            have e9 : smB R g (i + 1) = false := by
              show (smB R g i || decide (0 < gnu R g i)) = _
              first
              | (rw [show smB R g i = true by assumption]; rfl)
              | (rw [show smB R g i = false by assumption, decide_eq_false (by omega)]; rfl)
            refine E_go (p' := 5) (L' := [some (aA 124), some (aI ((g : Nat) : Int)), some (aI ((b : Nat) : Int)), some (aI (bi (smB R g (i + 1)))), some (aI ((i + 1 : Nat) : Int)), some (aI ((togN R b i 12 : Nat) : Int)), some (aI ((gnu R g i : Nat) : Int))]) (st' := []) rfl (by rw [e9]; rfl) rfl ?_
            refine ih (i + 1) _ _ (by omega) (by omega) (fun j hj => ?_)
            by_cases g9 : j = i
            · rw [g9]; omega
            · exact I1 j (by omega)
          · refine E_go (p' := 109) (L' := [some (aA 124), some (aI ((g : Nat) : Int)), some (aI ((b : Nat) : Int)), some (aI (bi (smB R g i))), some (aI ((i : Nat) : Int)), some (aI ((togN R b i 12 : Nat) : Int)), some (aI ((gnu R g i : Nat) : Int))]) (st' := []) rfl rfl rfl ?_
            refine E_s (p' := 110) (st' := aI 1 :: _) rfl rfl ?_
            refine E_s (p' := 114) rfl rfl ?_
            refine E_s (p' := 115) (L' := [some (aA 124), some (aI ((g : Nat) : Int)), some (aI ((b : Nat) : Int)), some (aI 1), some (aI ((i : Nat) : Int)), some (aI ((togN R b i 12 : Nat) : Int)), some (aI ((gnu R g i : Nat) : Int))]) rfl rfl ?_
            refine E_inc (x := ((i : Nat) : Int)) (w := ((i + 1 : Nat) : Int)) (L' := [some (aA 124), some (aI ((g : Nat) : Int)), some (aI ((b : Nat) : Int)), some (aI 1), some (aI ((i + 1 : Nat) : Int)), some (aI ((togN R b i 12 : Nat) : Int)), some (aI ((gnu R g i : Nat) : Int))]) rfl rfl rfl (by omega) (by omega) rfl ?_
            refine E_s (p' := 5) rfl rfl ?_
            have e9 : smB R g (i + 1) = true := by
              show (smB R g i || decide (0 < gnu R g i)) = _
              first
              | (rw [show smB R g i = true by assumption]; rfl)
              | (rw [show smB R g i = false by assumption, decide_eq_true (by omega)]; rfl)
            refine E_go (p' := 5) (L' := [some (aA 124), some (aI ((g : Nat) : Int)), some (aI ((b : Nat) : Int)), some (aI (bi (smB R g (i + 1)))), some (aI ((i + 1 : Nat) : Int)), some (aI ((togN R b i 12 : Nat) : Int)), some (aI ((gnu R g i : Nat) : Int))]) (st' := []) rfl (by rw [e9]; rfl) rfl ?_
            refine ih (i + 1) _ _ (by omega) (by omega) (fun j hj => ?_)
            by_cases g9 : j = i
            · rw [g9]; omega
            · exact I1 j (by omega)
      · refine E_go (p' := 98) (L' := [some (aA 124), some (aI ((g : Nat) : Int)), some (aI ((b : Nat) : Int)), some (aI (bi (smB R g i))), some (aI ((i : Nat) : Int)), some (aI ((togN R b i 12 : Nat) : Int)), some (aI ((gnu R g i : Nat) : Int))]) (st' := []) rfl rfl rfl ?_
        refine E_s (p' := 99) (st' := aI 0 :: _) rfl rfl ?_
        refine E_ret rfl rfl ?_
        have e9 : igB R g b = false := by unfold igB; rw [addB_f (i := i) hil (by omega)]; rfl
        rw [e9] at q
        exact q
theorem m_isGrouping (hV : VR R) (hN : ∀ d, d < Cn R → m 148 d = Rtd R d) (hG : GR R (Cn R) m) (hg : g < 12) (hsg : sdG R g = true) (hb : b < 4096) (hbm : ∀ k, k < 12 → Nat.testBit b k = true → glen R (k : Int) = glen R (g : Int)) (hbs : ∀ k, k < 12 → Nat.testBit b k = true → sdG R k = true) (q : Q (some (aI (bi (igB R g b)))) (m, tl len))  : E 178 0 [some (aA 124), some (aI ((g : Nat) : Int)), some (aI ((b : Nat) : Int)), none, none, none, none] [] (m, tl len) Q := by
  refine E_s (p' := 1) (st' := aI 0 :: _) rfl rfl ?_
  refine E_s (p' := 2) (L' := [some (aA 124), some (aI ((g : Nat) : Int)), some (aI ((b : Nat) : Int)), some (aI 0), none, none, none]) rfl rfl ?_
  refine E_s (p' := 3) (st' := aI 0 :: _) rfl rfl ?_
  refine E_s (p' := 5) (L' := [some (aA 124), some (aI ((g : Nat) : Int)), some (aI ((b : Nat) : Int)), some (aI 0), some (aI 0), none, none]) rfl rfl ?_
  exact yl_i1 hV hN hG hg hsg hb hbm hbs q (glen R (g : Int) + 1) 0 _ _ (by omega) (by omega) (fun j hj => absurd hj (by omega))
end
