theorem unS_b {R : RD} {ci e : Nat} (hV : VR R) (he : e ≤ Cn R) : unS R ci e ≤ 27000000 * e := by
  have := sumN_le (f := fun d => bif decide (Co R d = (ci : Int)) then Rvl R d else 0) (b := 27000000) e (fun i hi => by have := Rvl_c hV (show i < Cn R by omega); show (bif decide (Co R i = (ci : Int)) then Rvl R i else 0) ≤ _; cases decide (Co R i = (ci : Int)) <;> simp <;> omega)
  unfold unS; omega
theorem spS_b {R : RD} {s p : Nat} (hV : VR R) (hs : s < Sn R) (hp : p ≤ Sp R s) : spS R s p ≤ 27000000 * p := by
  have := sumN_le (f := fun k => Rvl R (Sq R s k)) (b := 27000000) p (fun i hi => Rvl_c hV (hV.2.2.2.2.2.2 s i hs (by omega)))
  unfold spS; omega
section
variable {len : Nat} {m : Mm} {Q : Option AV → Sx → Prop} {S : Nat → RD} {R : RD} {i ci : Nat} {r c k l s w : Int}
theorem yl_ab8 (hi : i < 4) (hM : MR R i m) (hV : VR R)  (q : Q (some (aI (cntN (fun d => decide (Co R d = (ci : Int))) (Cn R) : Int))) (m, tl len)) : ∀ (d : Nat) (t2 t : Nat), (Cn R < t2 + d) → (t2 ≤ Cn R) → (t = cntN (fun d => decide (Co R d = (ci : Int))) t2) → E 145 151 [some (aA 124), some (aI ((i : Nat) : Int)), some (aI ((ci : Nat) : Int)), some (aI (w)), some (aI ((60 * i + ci : Nat) : Int)), some (aI ((t : Nat) : Int)), some (aI ((t2 : Nat) : Int))] [] (m, tl len) Q := by
  intro d
  induction d with
  | zero => intro t2 t hd hi2 hz; omega
  | succ d ih =>
    intro t2 t hd hi2 hz
    have hn60 := hV.1
    have ht9 := cntN_le (fun d => decide (Co R d = (ci : Int))) t2
    refine E_s (p' := 153) (st' := aI ((t2 : Nat) : Int) :: _) rfl rfl ?_
    refine E_s (p' := 154) (st' := aA 124 :: _) rfl rfl ?_
    refine E_gA (b := 125) rfl rfl rfl rfl rfl rfl ?_
    refine E_s (p' := 158) (st' := aI ((i : Nat) : Int) :: _) rfl rfl ?_
    refine E_ald (e := i) (N := 4) (v := ((Cn R : Nat) : Int)) rfl rfl (rfl) (by omega) (MR_125 hM) ?_
    refine E_icmp_ge (x := ((t2 : Nat) : Int)) (y := ((Cn R : Nat) : Int)) rfl (by decide) (fun h_1 => ?_) (fun h_1 => ?_)
    · refine E_go (p' := 194) (L' := [some (aA 124), some (aI ((i : Nat) : Int)), some (aI ((ci : Nat) : Int)), some (aI (w)), some (aI ((60 * i + ci : Nat) : Int)), some (aI ((t : Nat) : Int)), some (aI ((t2 : Nat) : Int))]) (st' := []) rfl rfl rfl ?_
      refine E_s (p' := 196) (st' := aI ((t : Nat) : Int) :: _) rfl rfl ?_
      refine E_ret rfl rfl ?_
      have ei : t2 = Cn R := by omega
      rw [hz, ei]
      exact q
    · refine E_go (p' := 162) (L' := [some (aA 124), some (aI ((i : Nat) : Int)), some (aI ((ci : Nat) : Int)), some (aI (w)), some (aI ((60 * i + ci : Nat) : Int)), some (aI ((t : Nat) : Int)), some (aI ((t2 : Nat) : Int))]) (st' := []) rfl rfl rfl ?_
      refine E_s (p' := 164) (st' := aI ((t : Nat) : Int) :: _) rfl rfl ?_
      refine E_s (p' := 165) (st' := aA 124 :: _) rfl rfl ?_
      refine E_gA (b := 128) rfl rfl rfl rfl rfl rfl ?_
      refine E_s (p' := 170) (st' := aI 60 :: _) rfl rfl ?_
      refine E_s (p' := 171) (st' := aI ((i : Nat) : Int) :: _) rfl rfl ?_
      refine E_mul (v := ((60 * i : Nat) : Int)) rfl (by omega) (by omega) ?_
      refine E_s (p' := 174) (st' := aI ((t2 : Nat) : Int) :: _) rfl rfl ?_
      refine E_add (v := ((60 * i + t2 : Nat) : Int)) rfl (by omega) (by omega) ?_
      refine E_ald (e := 60 * i + t2) (N := 240) (v := ((Co R t2))) rfl rfl (rfl) (by omega) (MR_128 hM (by omega) (by omega)) ?_
      refine E_s (p' := 177) (st' := aI ((ci : Nat) : Int) :: _) rfl rfl ?_
      suffices h_2 : E 145 185 [some (aA 124), some (aI ((i : Nat) : Int)), some (aI ((ci : Nat) : Int)), some (aI (w)), some (aI ((60 * i + ci : Nat) : Int)), some (aI ((t : Nat) : Int)), some (aI ((t2 : Nat) : Int))] [aI (bi (!decide (((Co R t2)) ≠ ((ci : Nat) : Int)))), aI ((t : Nat) : Int)] (m, tl len) Q by
        refine E_icmp_ne (x := ((Co R t2))) (y := ((ci : Nat) : Int)) rfl (by decide) (fun h_3 => ?_) (fun h_3 => ?_)
        · refine E_go (p' := 184) (L' := [some (aA 124), some (aI ((i : Nat) : Int)), some (aI ((ci : Nat) : Int)), some (aI (w)), some (aI ((60 * i + ci : Nat) : Int)), some (aI ((t : Nat) : Int)), some (aI ((t2 : Nat) : Int))]) (st' := [aI ((t : Nat) : Int)]) rfl rfl rfl ?_
          refine E_s (p' := 185) (st' := aI 0 :: _) rfl rfl ?_
          rw [decide_eq_true (p := ((Co R t2)) ≠ ((ci : Nat) : Int)) (by omega)] at h_2
          exact h_2
        · refine E_go (p' := 180) (L' := [some (aA 124), some (aI ((i : Nat) : Int)), some (aI ((ci : Nat) : Int)), some (aI (w)), some (aI ((60 * i + ci : Nat) : Int)), some (aI ((t : Nat) : Int)), some (aI ((t2 : Nat) : Int))]) (st' := [aI ((t : Nat) : Int)]) rfl rfl rfl ?_
          refine E_s (p' := 181) (st' := aI 1 :: _) rfl rfl ?_
          refine E_s (p' := 185) rfl rfl ?_
          rw [decide_eq_false (p := ((Co R t2)) ≠ ((ci : Nat) : Int)) (by omega)] at h_2
          exact h_2
      refine E_add (v := ((t + bn (!decide (((Co R t2)) ≠ ((ci : Nat) : Int))) : Nat) : Int)) rfl add_bn (by have := bn_le (!decide (((Co R t2)) ≠ ((ci : Nat) : Int))); omega) ?_
      refine E_s (p' := 188) (L' := [some (aA 124), some (aI ((i : Nat) : Int)), some (aI ((ci : Nat) : Int)), some (aI (w)), some (aI ((60 * i + ci : Nat) : Int)), some (aI ((t + bn (!decide (((Co R t2)) ≠ ((ci : Nat) : Int))) : Nat) : Int)), some (aI ((t2 : Nat) : Int))]) rfl rfl ?_
      refine E_inc (x := ((t2 : Nat) : Int)) (w := ((t2 + 1 : Nat) : Int)) (L' := [some (aA 124), some (aI ((i : Nat) : Int)), some (aI ((ci : Nat) : Int)), some (aI (w)), some (aI ((60 * i + ci : Nat) : Int)), some (aI ((t + bn (!decide (((Co R t2)) ≠ ((ci : Nat) : Int))) : Nat) : Int)), some (aI ((t2 + 1 : Nat) : Int))]) rfl rfl rfl (by omega) (by omega) rfl ?_
      refine E_s (p' := 151) rfl rfl ?_
      exact ih (t2 + 1) _ (by omega) (by omega) (by rw [hz]; simp [cntN])
theorem yl_ct1 (hi : i < 4) (hM : MR R i m) (hV : VR R)  (q : Q (some (aI (sumN (Ck R) (Cn R) : Int))) (m, tl len)) : ∀ (d : Nat) (t2 t : Nat), (Cn R < t2 + d) → (t2 ≤ Cn R) → (t = sumN (Ck R) t2) → E 182 66 [some (aA 124), some (aI ((i : Nat) : Int)), some (aI (w)), some (aI ((t : Nat) : Int)), some (aI ((t2 : Nat) : Int))] [] (m, tl len) Q := by
  intro d
  induction d with
  | zero => intro t2 t hd hi2 hz; omega
  | succ d ih =>
    intro t2 t hd hi2 hz
    have hn60 := hV.1
    have ht9 := sumN_le (f := (Ck R)) (b := 30) t2 (fun j hj => (hV.2.2.1 j (by omega)).2.2.2.2.2)
    have hk30 : ∀ d, d < Cn R → Ck R d ≤ 30 := fun d hd9 => (hV.2.2.1 d hd9).2.2.2.2.2
    refine E_s (p' := 68) (st' := aI ((t2 : Nat) : Int) :: _) rfl rfl ?_
    refine E_s (p' := 69) (st' := aA 124 :: _) rfl rfl ?_
    refine E_gA (b := 125) rfl rfl rfl rfl rfl rfl ?_
    refine E_s (p' := 73) (st' := aI ((i : Nat) : Int) :: _) rfl rfl ?_
    refine E_ald (e := i) (N := 4) (v := ((Cn R : Nat) : Int)) rfl rfl (rfl) (by omega) (MR_125 hM) ?_
    refine E_icmp_ge (x := ((t2 : Nat) : Int)) (y := ((Cn R : Nat) : Int)) rfl (by decide) (fun h_1 => ?_) (fun h_1 => ?_)
    · refine E_go (p' := 98) (L' := [some (aA 124), some (aI ((i : Nat) : Int)), some (aI (w)), some (aI ((t : Nat) : Int)), some (aI ((t2 : Nat) : Int))]) (st' := []) rfl rfl rfl ?_
      refine E_s (p' := 99) (st' := aI ((t : Nat) : Int) :: _) rfl rfl ?_
      refine E_ret rfl rfl ?_
      have ei : t2 = Cn R := by omega
      rw [hz, ei]
      exact q
    · refine E_go (p' := 77) (L' := [some (aA 124), some (aI ((i : Nat) : Int)), some (aI (w)), some (aI ((t : Nat) : Int)), some (aI ((t2 : Nat) : Int))]) (st' := []) rfl rfl rfl ?_
      have hkd := hk30 t2 (by omega)
      refine E_s (p' := 78) (st' := aI ((t : Nat) : Int) :: _) rfl rfl ?_
      refine E_s (p' := 79) (st' := aA 124 :: _) rfl rfl ?_
      refine E_gA (b := 132) rfl rfl rfl rfl rfl rfl ?_
      refine E_s (p' := 84) (st' := aI 60 :: _) rfl rfl ?_
      refine E_s (p' := 85) (st' := aI ((i : Nat) : Int) :: _) rfl rfl ?_
      refine E_mul (v := ((60 * i : Nat) : Int)) rfl (by omega) (by omega) ?_
      refine E_s (p' := 88) (st' := aI ((t2 : Nat) : Int) :: _) rfl rfl ?_
      refine E_add (v := ((60 * i + t2 : Nat) : Int)) rfl (by omega) (by omega) ?_
      refine E_ald (e := 60 * i + t2) (N := 240) (v := ((Ck R t2 : Nat) : Int)) rfl rfl (rfl) (by omega) (MR_132 hM (by omega) (by omega)) ?_
      refine E_add (v := ((t + Ck R t2 : Nat) : Int)) rfl (by omega) (by omega) ?_
      refine E_s (p' := 92) (L' := [some (aA 124), some (aI ((i : Nat) : Int)), some (aI (w)), some (aI ((t + Ck R t2 : Nat) : Int)), some (aI ((t2 : Nat) : Int))]) rfl rfl ?_
      refine E_inc (x := ((t2 : Nat) : Int)) (w := ((t2 + 1 : Nat) : Int)) (L' := [some (aA 124), some (aI ((i : Nat) : Int)), some (aI (w)), some (aI ((t + Ck R t2 : Nat) : Int)), some (aI ((t2 + 1 : Nat) : Int))]) rfl rfl rfl (by omega) (by omega) rfl ?_
      refine E_s (p' := 66) rfl rfl ?_
      exact ih (t2 + 1) _ (by omega) (by omega) (by rw [hz]; rfl)
theorem yl_ct6 (hi : i < 4) (hM : MR R i m) (hV : VR R)  (q : Q (some (aI (cntN (fun d => decide (Co R d = -1)) (Cn R) : Int))) (m, tl len)) : ∀ (d : Nat) (t2 t : Nat), (Cn R < t2 + d) → (t2 ≤ Cn R) → (t = cntN (fun d => decide (Co R d = -1)) t2) → E 182 212 [some (aA 124), some (aI ((i : Nat) : Int)), some (aI (w)), some (aI ((t : Nat) : Int)), some (aI ((t2 : Nat) : Int))] [] (m, tl len) Q := by
  intro d
  induction d with
  | zero => intro t2 t hd hi2 hz; omega
  | succ d ih =>
    intro t2 t hd hi2 hz
    have hn60 := hV.1
    have ht9 := cntN_le (fun d => decide (Co R d = -1)) t2
    refine E_s (p' := 214) (st' := aI ((t2 : Nat) : Int) :: _) rfl rfl ?_
    refine E_s (p' := 215) (st' := aA 124 :: _) rfl rfl ?_
    refine E_gA (b := 125) rfl rfl rfl rfl rfl rfl ?_
    refine E_s (p' := 219) (st' := aI ((i : Nat) : Int) :: _) rfl rfl ?_
    refine E_ald (e := i) (N := 4) (v := ((Cn R : Nat) : Int)) rfl rfl (rfl) (by omega) (MR_125 hM) ?_
    refine E_icmp_ge (x := ((t2 : Nat) : Int)) (y := ((Cn R : Nat) : Int)) rfl (by decide) (fun h_1 => ?_) (fun h_1 => ?_)
    · refine E_go (p' := 253) (L' := [some (aA 124), some (aI ((i : Nat) : Int)), some (aI (w)), some (aI ((t : Nat) : Int)), some (aI ((t2 : Nat) : Int))]) (st' := []) rfl rfl rfl ?_
      refine E_s (p' := 254) (st' := aI ((t : Nat) : Int) :: _) rfl rfl ?_
      refine E_ret rfl rfl ?_
      have ei : t2 = Cn R := by omega
      rw [hz, ei]
      exact q
    · refine E_go (p' := 223) (L' := [some (aA 124), some (aI ((i : Nat) : Int)), some (aI (w)), some (aI ((t : Nat) : Int)), some (aI ((t2 : Nat) : Int))]) (st' := []) rfl rfl rfl ?_
      refine E_s (p' := 224) (st' := aI ((t : Nat) : Int) :: _) rfl rfl ?_
      refine E_s (p' := 225) (st' := aA 124 :: _) rfl rfl ?_
      refine E_gA (b := 128) rfl rfl rfl rfl rfl rfl ?_
      refine E_s (p' := 230) (st' := aI 60 :: _) rfl rfl ?_
      refine E_s (p' := 231) (st' := aI ((i : Nat) : Int) :: _) rfl rfl ?_
      refine E_mul (v := ((60 * i : Nat) : Int)) rfl (by omega) (by omega) ?_
      refine E_s (p' := 234) (st' := aI ((t2 : Nat) : Int) :: _) rfl rfl ?_
      refine E_add (v := ((60 * i + t2 : Nat) : Int)) rfl (by omega) (by omega) ?_
      refine E_ald (e := 60 * i + t2) (N := 240) (v := ((Co R t2))) rfl rfl (rfl) (by omega) (MR_128 hM (by omega) (by omega)) ?_
      refine E_s (p' := 237) (st' := aI (-1) :: _) rfl rfl ?_
      suffices h_2 : E 182 245 [some (aA 124), some (aI ((i : Nat) : Int)), some (aI (w)), some (aI ((t : Nat) : Int)), some (aI ((t2 : Nat) : Int))] [aI (bi (!decide (((Co R t2)) ≠ (-1)))), aI ((t : Nat) : Int)] (m, tl len) Q by
        refine E_icmp_ne (x := ((Co R t2))) (y := (-1)) rfl (by decide) (fun h_3 => ?_) (fun h_3 => ?_)
        · refine E_go (p' := 244) (L' := [some (aA 124), some (aI ((i : Nat) : Int)), some (aI (w)), some (aI ((t : Nat) : Int)), some (aI ((t2 : Nat) : Int))]) (st' := [aI ((t : Nat) : Int)]) rfl rfl rfl ?_
          refine E_s (p' := 245) (st' := aI 0 :: _) rfl rfl ?_
          rw [decide_eq_true (p := ((Co R t2)) ≠ (-1)) (by omega)] at h_2
          exact h_2
        · refine E_go (p' := 240) (L' := [some (aA 124), some (aI ((i : Nat) : Int)), some (aI (w)), some (aI ((t : Nat) : Int)), some (aI ((t2 : Nat) : Int))]) (st' := [aI ((t : Nat) : Int)]) rfl rfl rfl ?_
          refine E_s (p' := 241) (st' := aI 1 :: _) rfl rfl ?_
          refine E_s (p' := 245) rfl rfl ?_
          rw [decide_eq_false (p := ((Co R t2)) ≠ (-1)) (by omega)] at h_2
          exact h_2
      refine E_add (v := ((t + bn (!decide (((Co R t2)) ≠ (-1))) : Nat) : Int)) rfl add_bn (by have := bn_le (!decide (((Co R t2)) ≠ (-1))); omega) ?_
      refine E_s (p' := 247) (L' := [some (aA 124), some (aI ((i : Nat) : Int)), some (aI (w)), some (aI ((t + bn (!decide (((Co R t2)) ≠ (-1))) : Nat) : Int)), some (aI ((t2 : Nat) : Int))]) rfl rfl ?_
      refine E_inc (x := ((t2 : Nat) : Int)) (w := ((t2 + 1 : Nat) : Int)) (L' := [some (aA 124), some (aI ((i : Nat) : Int)), some (aI (w)), some (aI ((t + bn (!decide (((Co R t2)) ≠ (-1))) : Nat) : Int)), some (aI ((t2 + 1 : Nat) : Int))]) rfl rfl rfl (by omega) (by omega) rfl ?_
      refine E_s (p' := 212) rfl rfl ?_
      exact ih (t2 + 1) _ (by omega) (by omega) (by rw [hz]; simp [cntN])
theorem yl_ct4 (hi : i < 4) (hM : MR R i m) (hV : VR R) (q : Q (some (aI (cntN (fun d => decide (Ct R d ≠ 0)) (Cn R) : Int))) (m, tl len)) : ∀ (d : Nat) (t2 t : Nat), (Cn R < t2 + d) → (t2 ≤ Cn R) → (t = cntN (fun d => decide (Ct R d ≠ 0)) t2) → E 182 117 [some (aA 124), some (aI ((i : Nat) : Int)), some (aI (w)), some (aI ((t : Nat) : Int)), some (aI ((t2 : Nat) : Int))] [] (m, tl len) Q := by
  intro d
  induction d with
  | zero => intro t2 t hd hi2 hz; omega
  | succ d ih =>
    intro t2 t hd hi2 hz
    have hn60 := hV.1
    have ht9 := cntN_le (fun d => decide (Ct R d ≠ 0)) t2
    refine E_s (p' := 119) (st' := aI ((t2 : Nat) : Int) :: _) rfl rfl ?_
    refine E_s (p' := 120) (st' := aA 124 :: _) rfl rfl ?_
    refine E_gA (b := 125) rfl rfl rfl rfl rfl rfl ?_
    refine E_s (p' := 124) (st' := aI ((i : Nat) : Int) :: _) rfl rfl ?_
    refine E_ald (e := i) (N := 4) (v := ((Cn R : Nat) : Int)) rfl rfl (rfl) (by omega) (MR_125 hM) ?_
    refine E_icmp_ge (x := ((t2 : Nat) : Int)) (y := ((Cn R : Nat) : Int)) rfl (by decide) (fun h_1 => ?_) (fun h_1 => ?_)
    · refine E_go (p' := 158) (L' := [some (aA 124), some (aI ((i : Nat) : Int)), some (aI (w)), some (aI ((t : Nat) : Int)), some (aI ((t2 : Nat) : Int))]) (st' := []) rfl rfl rfl ?_
      refine E_s (p' := 159) (st' := aI ((t : Nat) : Int) :: _) rfl rfl ?_
      refine E_ret rfl rfl ?_
      have ei : t2 = Cn R := by omega
      rw [hz, ei]
      exact q
    · refine E_go (p' := 128) (L' := [some (aA 124), some (aI ((i : Nat) : Int)), some (aI (w)), some (aI ((t : Nat) : Int)), some (aI ((t2 : Nat) : Int))]) (st' := []) rfl rfl rfl ?_
      have hctz := Ctz_c R t2
      refine E_s (p' := 129) (st' := aI ((t : Nat) : Int) :: _) rfl rfl ?_
      refine E_s (p' := 130) (st' := aA 124 :: _) rfl rfl ?_
      refine E_gA (b := 131) rfl rfl rfl rfl rfl rfl ?_
      refine E_s (p' := 135) (st' := aI 60 :: _) rfl rfl ?_
      refine E_s (p' := 136) (st' := aI ((i : Nat) : Int) :: _) rfl rfl ?_
      refine E_mul (v := ((60 * i : Nat) : Int)) rfl (by omega) (by omega) ?_
      refine E_s (p' := 139) (st' := aI ((t2 : Nat) : Int) :: _) rfl rfl ?_
      refine E_add (v := ((60 * i + t2 : Nat) : Int)) rfl (by omega) (by omega) ?_
      refine E_ald (e := 60 * i + t2) (N := 240) (v := (((Ctz R t2)))) rfl rfl (rfl) (by omega) (MR_131 hM (by omega) (by omega)) ?_
      refine E_s (p' := 142) (st' := aI (-1) :: _) rfl rfl ?_
      suffices h_2 : E 182 150 [some (aA 124), some (aI ((i : Nat) : Int)), some (aI (w)), some (aI ((t : Nat) : Int)), some (aI ((t2 : Nat) : Int))] [aI (bi (!decide ((((Ctz R t2))) = (-1)))), aI ((t : Nat) : Int)] (m, tl len) Q by
        refine E_icmp_eq (x := (((Ctz R t2)))) (y := (-1)) rfl (by decide) (fun h_3 => ?_) (fun h_3 => ?_)
        · refine E_go (p' := 149) (L' := [some (aA 124), some (aI ((i : Nat) : Int)), some (aI (w)), some (aI ((t : Nat) : Int)), some (aI ((t2 : Nat) : Int))]) (st' := [aI ((t : Nat) : Int)]) rfl rfl rfl ?_
          refine E_s (p' := 150) (st' := aI 0 :: _) rfl rfl ?_
          rw [decide_eq_true (p := (((Ctz R t2))) = (-1)) (by omega)] at h_2
          exact h_2
        · refine E_go (p' := 145) (L' := [some (aA 124), some (aI ((i : Nat) : Int)), some (aI (w)), some (aI ((t : Nat) : Int)), some (aI ((t2 : Nat) : Int))]) (st' := [aI ((t : Nat) : Int)]) rfl rfl rfl ?_
          refine E_s (p' := 146) (st' := aI 1 :: _) rfl rfl ?_
          refine E_s (p' := 150) rfl rfl ?_
          rw [decide_eq_false (p := (((Ctz R t2))) = (-1)) (by omega)] at h_2
          exact h_2
      refine E_add (v := ((t + bn (!decide ((((Ctz R t2))) = (-1))) : Nat) : Int)) rfl add_bn (by have := bn_le (!decide ((((Ctz R t2))) = (-1))); omega) ?_
      refine E_s (p' := 152) (L' := [some (aA 124), some (aI ((i : Nat) : Int)), some (aI (w)), some (aI ((t + bn (!decide ((((Ctz R t2))) = (-1))) : Nat) : Int)), some (aI ((t2 : Nat) : Int))]) rfl rfl ?_
      refine E_inc (x := ((t2 : Nat) : Int)) (w := ((t2 + 1 : Nat) : Int)) (L' := [some (aA 124), some (aI ((i : Nat) : Int)), some (aI (w)), some (aI ((t + bn (!decide ((((Ctz R t2))) = (-1))) : Nat) : Int)), some (aI ((t2 + 1 : Nat) : Int))]) rfl rfl rfl (by omega) (by omega) rfl ?_
      refine E_s (p' := 117) rfl rfl ?_
      refine ih (t2 + 1) _ (by omega) (by omega) ?_
      show _ = cntN _ t2 + bn (decide (Ct R t2 ≠ 0))
      rw [hz]
      congr 2
      by_cases g9 : Ct R t2 = 0
      · rw [decide_eq_false (p := Ct R t2 ≠ 0) (by omega), decide_eq_true (by omega)]; rfl
      · rw [decide_eq_true (p := Ct R t2 ≠ 0) (by omega), decide_eq_false (by omega)]; rfl
theorem yl_ct5 (hi : i < 4) (hM : MR R i m) (hV : VR R) (hnm : ∀ d, d < Cn R → m 148 d = Rtd R d) (q : Q (some (aI (cntN (fun d => decide (Rft R d ≠ 0)) (Cn R) : Int))) (m, tl len)) : ∀ (d : Nat) (t2 t : Nat), (Cn R < t2 + d) → (t2 ≤ Cn R) → (t = cntN (fun d => decide (Rft R d ≠ 0)) t2) → E 182 172 [some (aA 124), some (aI ((i : Nat) : Int)), some (aI (w)), some (aI ((t : Nat) : Int)), some (aI ((t2 : Nat) : Int))] [] (m, tl len) Q := by
  intro d
  induction d with
  | zero => intro t2 t hd hi2 hz; omega
  | succ d ih =>
    intro t2 t hd hi2 hz
    have hn60 := hV.1
    have ht9 := cntN_le (fun d => decide (Rft R d ≠ 0)) t2
    have htd := Rtd_n (R := R) (c := t2)
    refine E_s (p' := 174) (st' := aI ((t2 : Nat) : Int) :: _) rfl rfl ?_
    refine E_s (p' := 175) (st' := aA 124 :: _) rfl rfl ?_
    refine E_gA (b := 125) rfl rfl rfl rfl rfl rfl ?_
    refine E_s (p' := 179) (st' := aI ((i : Nat) : Int) :: _) rfl rfl ?_
    refine E_ald (e := i) (N := 4) (v := ((Cn R : Nat) : Int)) rfl rfl (rfl) (by omega) (MR_125 hM) ?_
    refine E_icmp_ge (x := ((t2 : Nat) : Int)) (y := ((Cn R : Nat) : Int)) rfl (by decide) (fun h_1 => ?_) (fun h_1 => ?_)
    · refine E_go (p' := 207) (L' := [some (aA 124), some (aI ((i : Nat) : Int)), some (aI (w)), some (aI ((t : Nat) : Int)), some (aI ((t2 : Nat) : Int))]) (st' := []) rfl rfl rfl ?_
      refine E_s (p' := 208) (st' := aI ((t : Nat) : Int) :: _) rfl rfl ?_
      refine E_ret rfl rfl ?_
      have ei : t2 = Cn R := by omega
      rw [hz, ei]
      exact q
    · refine E_go (p' := 183) (L' := [some (aA 124), some (aI ((i : Nat) : Int)), some (aI (w)), some (aI ((t : Nat) : Int)), some (aI ((t2 : Nat) : Int))]) (st' := []) rfl rfl rfl ?_
      refine E_s (p' := 184) (st' := aI ((t : Nat) : Int) :: _) rfl rfl ?_
      refine E_s (p' := 185) (st' := aA 124 :: _) rfl rfl ?_
      refine E_gA (b := 148) rfl rfl rfl rfl rfl rfl ?_
      refine E_s (p' := 190) (st' := aI ((t2 : Nat) : Int) :: _) rfl rfl ?_
      refine E_ald (e := t2) (N := 60) (v := (((Rtd R t2)))) rfl rfl (rfl) (by omega) (hnm _ (by omega)) ?_
      suffices h_2 : E 182 199 [some (aA 124), some (aI ((i : Nat) : Int)), some (aI (w)), some (aI ((t : Nat) : Int)), some (aI ((t2 : Nat) : Int))] [aI (bi (!decide (0 ≤ (((Rtd R t2)))))), aI ((t : Nat) : Int)] (m, tl len) Q by
        refine E_if_ge (x := (((Rtd R t2)))) rfl (by decide) (fun h_3 => ?_) (fun h_3 => ?_)
        · refine E_go (p' := 198) (L' := [some (aA 124), some (aI ((i : Nat) : Int)), some (aI (w)), some (aI ((t : Nat) : Int)), some (aI ((t2 : Nat) : Int))]) (st' := [aI ((t : Nat) : Int)]) rfl rfl rfl ?_
          refine E_s (p' := 199) (st' := aI 0 :: _) rfl rfl ?_
          rw [decide_eq_true (p := 0 ≤ (((Rtd R t2)))) (by omega)] at h_2
          exact h_2
        · refine E_go (p' := 194) (L' := [some (aA 124), some (aI ((i : Nat) : Int)), some (aI (w)), some (aI ((t : Nat) : Int)), some (aI ((t2 : Nat) : Int))]) (st' := [aI ((t : Nat) : Int)]) rfl rfl rfl ?_
          refine E_s (p' := 195) (st' := aI 1 :: _) rfl rfl ?_
          refine E_s (p' := 199) rfl rfl ?_
          rw [decide_eq_false (p := 0 ≤ (((Rtd R t2)))) (by omega)] at h_2
          exact h_2
      refine E_add (v := ((t + bn (!decide (0 ≤ (((Rtd R t2))))) : Nat) : Int)) rfl add_bn (by have := bn_le (!decide (0 ≤ (((Rtd R t2))))); omega) ?_
      refine E_s (p' := 201) (L' := [some (aA 124), some (aI ((i : Nat) : Int)), some (aI (w)), some (aI ((t + bn (!decide (0 ≤ (((Rtd R t2))))) : Nat) : Int)), some (aI ((t2 : Nat) : Int))]) rfl rfl ?_
      refine E_inc (x := ((t2 : Nat) : Int)) (w := ((t2 + 1 : Nat) : Int)) (L' := [some (aA 124), some (aI ((i : Nat) : Int)), some (aI (w)), some (aI ((t + bn (!decide (0 ≤ (((Rtd R t2))))) : Nat) : Int)), some (aI ((t2 + 1 : Nat) : Int))]) rfl rfl rfl (by omega) (by omega) rfl ?_
      refine E_s (p' := 172) rfl rfl ?_
      refine ih (t2 + 1) _ (by omega) (by omega) ?_
      show _ = cntN _ t2 + bn (decide (Rft R t2 ≠ 0))
      rw [hz]
      congr 2
      by_cases g9 : Rft R t2 = 0
      · rw [decide_eq_false (p := Rft R t2 ≠ 0) (by omega), decide_eq_true (by omega)]; rfl
      · rw [decide_eq_true (p := Rft R t2 ≠ 0) (by omega), decide_eq_false (by omega)]; rfl
theorem M_about (hS : MS S m) (q : ∀ m1, MS S m1 → Co1 m m1 → Q (some (aI (qy S r (-1) (aAbout c w)))) (m1, tl len)) : E 145 0 [some (aA 124), some (aI (r)), some (aI (c)), some (aI (w)), none, none, none] [] (m, tl len) Q := by
  refine E_s (p' := 1) (st' := aA 124 :: _) rfl rfl ?_
  refine E_s (p' := 2) (st' := aI (r) :: _) rfl rfl ?_
  refine E_s (p' := 3) (st' := aI (c) :: _) rfl rfl ?_
  refine E_callV (k' := 135) (a := 124) (r := []) (L0 := [some (aA 124), some (aI (r)), some (aI (c))]) rfl rfl rfl rfl rfl rfl rfl rfl rfl rfl ?_
  refine m_isCord hS (fun i ci hi hr hc hcc => ?_) (fun hno => ?_)
  · refine E_go (p' := 6) (L' := [some (aA 124), some (aI (r)), some (aI (c)), some (aI (w)), none, none, none]) (st' := [aI 1]) rfl rfl rfl ?_
    obtain ⟨hV, hM⟩ := hS i hi
    have hn60 := hV.1
    have hs40 := hV.2.2.2.2.1
    subst hr hc
    refine E_s (p' := 11) rfl rfl ?_
    refine E_s (p' := 13) (st' := aI 60 :: _) rfl rfl ?_
    refine E_s (p' := 14) (st' := aI ((i : Nat) : Int) :: _) rfl rfl ?_
    refine E_mul (v := ((60 * i : Nat) : Int)) rfl (by omega) (by omega) ?_
    refine E_s (p' := 16) (st' := aI ((ci : Nat) : Int) :: _) rfl rfl ?_
    refine E_add (v := ((60 * i + ci : Nat) : Int)) rfl (by omega) (by omega) ?_
    refine E_s (p' := 19) (L' := [some (aA 124), some (aI ((i : Nat) : Int)), some (aI ((ci : Nat) : Int)), some (aI (w)), some (aI ((60 * i + ci : Nat) : Int)), none, none]) rfl rfl ?_
    refine E_s (p' := 20) (st' := aI 0 :: _) rfl rfl ?_
    refine E_s (p' := 22) (L' := [some (aA 124), some (aI ((i : Nat) : Int)), some (aI ((ci : Nat) : Int)), some (aI (w)), some (aI ((60 * i + ci : Nat) : Int)), some (aI 0), none]) rfl rfl ?_
    refine E_s (p' := 23) (st' := aI (w) :: _) rfl rfl ?_
    rcases (show (w) = 0 ∨ (w) = 1 ∨ (w) = 2 ∨ (w) = 3 ∨ (w) = 4 ∨ (w) = 5 ∨ (w) = 6 ∨ (w) = 7 ∨ (w) = 8 ∨ ((w) ≠ 0 ∧ (w) ≠ 1 ∧ (w) ≠ 2 ∧ (w) ≠ 3 ∧ (w) ≠ 4 ∧ (w) ≠ 5 ∧ (w) ≠ 6 ∧ (w) ≠ 7 ∧ (w) ≠ 8) by omega) with h_1 | h_2 | h_3 | h_4 | h_5 | h_6 | h_7 | h_8 | h_9 | h_10
    · refine E_valv h_1 ?_
      refine E_s (p' := 72) rfl rfl ?_
      refine E_s (p' := 73) (st' := aA 124 :: _) rfl rfl ?_
      refine E_gA (b := 127) rfl rfl rfl rfl rfl rfl ?_
      refine E_s (p' := 78) (st' := aI ((60 * i + ci : Nat) : Int) :: _) rfl rfl ?_
      refine E_ald (e := 60 * i + ci) (N := 240) (v := ((Cg (S i) ci))) rfl rfl (rfl) (by omega) (MR_127 hM (by omega) (by omega)) ?_
      refine E_ret rfl rfl ?_
      exact mq_in hS hi rfl q (by unfold aAbout; rw [cif_pos (by unfold inC; omega)]; (try simp only [Int.toNat_natCast]); rw [if_pos (by omega)]) Co1.rf
    · refine E_valv h_2 ?_
      refine E_s (p' := 80) rfl rfl ?_
      refine E_s (p' := 81) (st' := aA 124 :: _) rfl rfl ?_
      refine E_gA (b := 128) rfl rfl rfl rfl rfl rfl ?_
      refine E_s (p' := 86) (st' := aI ((60 * i + ci : Nat) : Int) :: _) rfl rfl ?_
      refine E_ald (e := 60 * i + ci) (N := 240) (v := ((Co (S i) ci))) rfl rfl (rfl) (by omega) (MR_128 hM (by omega) (by omega)) ?_
      refine E_ret rfl rfl ?_
      exact mq_in hS hi rfl q (by unfold aAbout; rw [cif_pos (by unfold inC; omega)]; (try simp only [Int.toNat_natCast]); rw [if_neg (by omega), if_pos (by omega)]) Co1.rf
    · refine E_valv h_3 ?_
      refine E_s (p' := 88) rfl rfl ?_
      refine E_s (p' := 89) (st' := aA 124 :: _) rfl rfl ?_
      refine E_gA (b := 129) rfl rfl rfl rfl rfl rfl ?_
      refine E_s (p' := 94) (st' := aI ((60 * i + ci : Nat) : Int) :: _) rfl rfl ?_
      refine E_ald (e := 60 * i + ci) (N := 240) (v := ((Cc (S i) ci : Nat) : Int)) rfl rfl (rfl) (by omega) (MR_129 hM (by omega) (by omega)) ?_
      refine E_ret rfl rfl ?_
      exact mq_in hS hi rfl q (by unfold aAbout; rw [cif_pos (by unfold inC; omega)]; (try simp only [Int.toNat_natCast]); rw [if_neg (by omega), if_neg (by omega), if_pos (by omega)]) Co1.rf
    · refine E_valv h_4 ?_
      refine E_s (p' := 96) rfl rfl ?_
      refine E_s (p' := 97) (st' := aA 124 :: _) rfl rfl ?_
      refine E_gA (b := 130) rfl rfl rfl rfl rfl rfl ?_
      refine E_s (p' := 102) (st' := aI ((60 * i + ci : Nat) : Int) :: _) rfl rfl ?_
      refine E_ald (e := 60 * i + ci) (N := 240) (v := ((Cl (S i) ci : Nat) : Int)) rfl rfl (rfl) (by omega) (MR_130 hM (by omega) (by omega)) ?_
      refine E_ret rfl rfl ?_
      exact mq_in hS hi rfl q (by unfold aAbout; rw [cif_pos (by unfold inC; omega)]; (try simp only [Int.toNat_natCast]); rw [if_neg (by omega), if_neg (by omega), if_neg (by omega), if_pos (by omega)]) Co1.rf
    · refine E_valv h_5 ?_
      refine E_s (p' := 104) rfl rfl ?_
      refine E_s (p' := 105) (st' := aA 124 :: _) rfl rfl ?_
      refine E_gA (b := 132) rfl rfl rfl rfl rfl rfl ?_
      refine E_s (p' := 110) (st' := aI ((60 * i + ci : Nat) : Int) :: _) rfl rfl ?_
      refine E_ald (e := 60 * i + ci) (N := 240) (v := ((Ck (S i) ci : Nat) : Int)) rfl rfl (rfl) (by omega) (MR_132 hM (by omega) (by omega)) ?_
      refine E_ret rfl rfl ?_
      exact mq_in hS hi rfl q (by unfold aAbout; rw [cif_pos (by unfold inC; omega)]; (try simp only [Int.toNat_natCast]); rw [if_neg (by omega), if_neg (by omega), if_neg (by omega), if_neg (by omega), if_pos (by omega)]) Co1.rf
    · refine E_valv h_6 ?_
      refine E_s (p' := 112) rfl rfl ?_
      refine E_s (p' := 113) (st' := aA 124 :: _) rfl rfl ?_
      refine E_gA (b := 131) rfl rfl rfl rfl rfl rfl ?_
      refine E_s (p' := 118) (st' := aI ((60 * i + ci : Nat) : Int) :: _) rfl rfl ?_
      refine E_ald (e := 60 * i + ci) (N := 240) (v := (((Ctz (S i) ci)))) rfl rfl (rfl) (by omega) (MR_131 hM (by omega) (by omega)) ?_
      refine E_ret rfl rfl ?_
      exact mq_in hS hi rfl q (by unfold aAbout; rw [cif_pos (by unfold inC; omega)]; (try simp only [Int.toNat_natCast]); rw [if_neg (by omega), if_neg (by omega), if_neg (by omega), if_neg (by omega), if_neg (by omega), if_pos (by omega)]) Co1.rf
    · refine E_valv h_7 ?_
      refine E_s (p' := 120) rfl rfl ?_
      refine E_s (p' := 121) (st' := aA 124 :: _) rfl rfl ?_
      refine E_s (p' := 123) (st' := aI ((60 * i + ci : Nat) : Int) :: _) rfl rfl ?_
      refine E_callV (k' := 146) (a := 124) (r := []) (L0 := [some (aA 124), some (aI ((60 * i + ci : Nat) : Int)), none, none, none]) rfl rfl rfl rfl rfl rfl rfl rfl rfl rfl ?_
      refine m_cluster hi hM hV (c := ci) hcc (fun m1 J1 J2 => ?_)
      refine E_go (p' := 126) (L' := [some (aA 124), some (aI ((i : Nat) : Int)), some (aI ((ci : Nat) : Int)), some (aI (w)), some (aI ((60 * i + ci : Nat) : Int)), some (aI 0), none]) (st' := []) rfl rfl rfl ?_
      have hF1 : FrM m m1 := fun b z g1 g2 => J2 b z (by omega) (by omega)
      have hS1 := hF1.MS hS
      have hC1 := hF1.Co1
      refine E_s (p' := 127) (st' := aA 124 :: _) rfl rfl ?_
      refine E_gI (v := (((clsA (S i) ci).length : Nat) : Int)) rfl rfl rfl rfl J1.1 ?_
      refine E_ret rfl rfl ?_
      exact mq_in hS1 hi rfl q (by unfold aAbout; rw [cif_pos (by unfold inC; omega)]; (try simp only [Int.toNat_natCast]); rw [if_neg (by omega), if_neg (by omega), if_neg (by omega), if_neg (by omega), if_neg (by omega), if_neg (by omega), if_pos (by omega)]) hC1
    · refine E_valv h_8 ?_
      refine E_s (p' := 131) rfl rfl ?_
      refine E_s (p' := 132) (st' := aA 124 :: _) rfl rfl ?_
      refine E_s (p' := 133) (st' := aI ((i : Nat) : Int) :: _) rfl rfl ?_
      refine E_callV (k' := 147) (a := 124) (r := []) (L0 := [some (aA 124), some (aI ((i : Nat) : Int)), none, none]) rfl rfl rfl rfl rfl rfl rfl rfl rfl rfl ?_
      refine m_read hi hM hV (fun m1 K1 hd => ?_)
      refine E_go (p' := 136) (L' := [some (aA 124), some (aI ((i : Nat) : Int)), some (aI ((ci : Nat) : Int)), some (aI (w)), some (aI ((60 * i + ci : Nat) : Int)), some (aI 0), none]) (st' := [aI (bi (decide (0 < RL (S i))))]) rfl rfl rfl ?_
      have hS1 := K1.MS hS
      have hC1 := K1.Co1
      have hM1 := K1.MR hM
      refine E_s (p' := 137) rfl rfl ?_
      refine E_s (p' := 138) (st' := aA 124 :: _) rfl rfl ?_
      refine E_s (p' := 140) (st' := aI ((60 * i + ci : Nat) : Int) :: _) rfl rfl ?_
      refine E_callV (k' := 148) (a := 124) (r := []) (L0 := [some (aA 124), some (aI ((60 * i + ci : Nat) : Int)), none, none]) rfl rfl rfl rfl rfl rfl rfl rfl rfl rfl ?_
      refine m_readCord hi hM1 hV (c := ci) hcc hd (fun m2 K2 hd2 K3 K4 K5 => ?_)
      refine E_go (p' := 143) (L' := [some (aA 124), some (aI ((i : Nat) : Int)), some (aI ((ci : Nat) : Int)), some (aI (w)), some (aI ((60 * i + ci : Nat) : Int)), some (aI 0), none]) (st' := []) rfl rfl rfl ?_
      have hS2 := K2.MS hS1
      have hC2 : Co1 m m2 := (K1.tr K2).Co1
      have hfb := Rft_b (S i) ci
      have hvb := Rvl_c hV hcc
      have htd := Rtd_n (R := S i) (c := ci)
      refine E_s (p' := 144) (st' := aA 124 :: _) rfl rfl ?_
      refine E_gI (v := ((Rft (S i) ci : Nat) : Int)) rfl rfl rfl rfl K3 ?_
      refine E_ret rfl rfl ?_
      exact mq_in hS2 hi rfl q (by unfold aAbout; rw [cif_pos (by unfold inC; omega)]; (try simp only [Int.toNat_natCast]); rw [if_neg (by omega), if_neg (by omega), if_neg (by omega), if_neg (by omega), if_neg (by omega), if_neg (by omega), if_neg (by omega), if_pos (by omega)]) hC2
    · refine E_valv h_9 ?_
      refine E_s (p' := 148) rfl rfl ?_
      refine E_s (p' := 149) (st' := aI 0 :: _) rfl rfl ?_
      refine E_s (p' := 151) (L' := [some (aA 124), some (aI ((i : Nat) : Int)), some (aI ((ci : Nat) : Int)), some (aI (w)), some (aI ((60 * i + ci : Nat) : Int)), some (aI 0), some (aI 0)]) rfl rfl ?_
      exact yl_ab8 hi hM hV (mq_in hS hi rfl q (by unfold aAbout; rw [cif_pos (by unfold inC; omega)]; (try simp only [Int.toNat_natCast]); rw [if_neg (by omega), if_neg (by omega), if_neg (by omega), if_neg (by omega), if_neg (by omega), if_neg (by omega), if_neg (by omega), if_neg (by omega), if_pos (by omega)]) Co1.rf) (Cn (S i) + 1) 0 0 (by omega) (by omega) rfl
    · refine E_tabO rfl (by omega) (by decide) ?_
      refine E_go (p' := 197) (L' := [some (aA 124), some (aI ((i : Nat) : Int)), some (aI ((ci : Nat) : Int)), some (aI (w)), some (aI ((60 * i + ci : Nat) : Int)), some (aI 0), none]) (st' := []) rfl rfl rfl ?_
      refine E_s (p' := 198) (st' := aI (-1) :: _) rfl rfl ?_
      refine E_ret rfl rfl ?_
      exact mq_in hS hi rfl q (by unfold aAbout; rw [cif_pos (by unfold inC; omega)]; (try simp only [Int.toNat_natCast]); rw [if_neg (by omega), if_neg (by omega), if_neg (by omega), if_neg (by omega), if_neg (by omega), if_neg (by omega), if_neg (by omega), if_neg (by omega), if_neg (by omega)]) Co1.rf
  · refine E_go (p' := 6) (L' := [some (aA 124), some (aI (r)), some (aI (c)), some (aI (w)), none, none, none]) (st' := [aI 0]) rfl rfl rfl ?_
    refine E_s (p' := 9) rfl rfl ?_
    refine E_s (p' := 10) (st' := aI (-1) :: _) rfl rfl ?_
    refine E_ret rfl rfl ?_
    rcases hno with hr | ⟨i, hi, hr, hno⟩
    · exact mq_out hS q hr
    · exact mq_in hS hi hr q (by unfold aAbout; rw [cif_neg (hno)]) Co1.rf
theorem M_count (hS : MS S m) (q : ∀ m1, MS S m1 → Co1 m m1 → Q (some (aI (qy S r (-1) (aCount w)))) (m1, tl len)) : E 182 0 [some (aA 124), some (aI (r)), some (aI (w)), none, none] [] (m, tl len) Q := by
  refine E_s (p' := 1) (st' := aI (r) :: _) rfl rfl ?_
  refine E_callL (p' := 4) (L0 := [some (aI (r))]) rfl rfl rfl ?_
  refine m_isRecord (fun i hi hr => ?_) (fun hr => ?_)
  · refine E_go (p' := 4) (L' := [some (aA 124), some (aI (r)), some (aI (w)), none, none]) (st' := [aI 1]) rfl rfl rfl ?_
    obtain ⟨hV, hM⟩ := hS i hi
    have hn60 := hV.1
    have hs40 := hV.2.2.2.2.1
    subst hr
    refine E_s (p' := 9) rfl rfl ?_
    refine E_s (p' := 10) (st' := aI 0 :: _) rfl rfl ?_
    refine E_s (p' := 11) (L' := [some (aA 124), some (aI ((i : Nat) : Int)), some (aI (w)), some (aI 0), none]) rfl rfl ?_
    refine E_s (p' := 12) (st' := aI (w) :: _) rfl rfl ?_
    rcases (show (w) = 0 ∨ (w) = 1 ∨ (w) = 2 ∨ (w) = 3 ∨ (w) = 4 ∨ (w) = 5 ∨ (w) = 6 ∨ ((w) ≠ 0 ∧ (w) ≠ 1 ∧ (w) ≠ 2 ∧ (w) ≠ 3 ∧ (w) ≠ 4 ∧ (w) ≠ 5 ∧ (w) ≠ 6) by omega) with h_1 | h_2 | h_3 | h_4 | h_5 | h_6 | h_7 | h_8
    · refine E_valv h_1 ?_
      refine E_s (p' := 56) rfl rfl ?_
      refine E_s (p' := 57) (st' := aA 124 :: _) rfl rfl ?_
      refine E_gA (b := 125) rfl rfl rfl rfl rfl rfl ?_
      refine E_s (p' := 61) (st' := aI ((i : Nat) : Int) :: _) rfl rfl ?_
      refine E_ald (e := i) (N := 4) (v := ((Cn (S i) : Nat) : Int)) rfl rfl (rfl) (by omega) (MR_125 hM) ?_
      refine E_ret rfl rfl ?_
      exact mq_in hS hi rfl q (by unfold aCount; rw [if_pos (by omega)]) Co1.rf
    · refine E_valv h_2 ?_
      refine E_s (p' := 63) rfl rfl ?_
      refine E_s (p' := 64) (st' := aI 0 :: _) rfl rfl ?_
      refine E_s (p' := 66) (L' := [some (aA 124), some (aI ((i : Nat) : Int)), some (aI (w)), some (aI 0), some (aI 0)]) rfl rfl ?_
      exact yl_ct1 hi hM hV (mq_in hS hi rfl q (by unfold aCount; rw [if_neg (by omega), if_pos (by omega)]) Co1.rf) (Cn (S i) + 1) 0 0 (by omega) (by omega) rfl
    · refine E_valv h_3 ?_
      refine E_s (p' := 100) rfl rfl ?_
      refine E_s (p' := 101) (st' := aA 124 :: _) rfl rfl ?_
      refine E_gA (b := 136) rfl rfl rfl rfl rfl rfl ?_
      refine E_s (p' := 105) (st' := aI ((i : Nat) : Int) :: _) rfl rfl ?_
      refine E_ald (e := i) (N := 4) (v := ((Sn (S i) : Nat) : Int)) rfl rfl (rfl) (by omega) (MR_136 hM) ?_
      refine E_ret rfl rfl ?_
      exact mq_in hS hi rfl q (by unfold aCount; rw [if_neg (by omega), if_neg (by omega), if_pos (by omega)]) Co1.rf
    · refine E_valv h_4 ?_
      refine E_s (p' := 107) rfl rfl ?_
      refine E_s (p' := 108) (st' := aA 124 :: _) rfl rfl ?_
      refine E_gA (b := 126) rfl rfl rfl rfl rfl rfl ?_
      refine E_s (p' := 112) (st' := aI ((i : Nat) : Int) :: _) rfl rfl ?_
      refine E_ald (e := i) (N := 4) (v := ((Cq (S i) : Nat) : Int)) rfl rfl (rfl) (by omega) (MR_126 hM) ?_
      refine E_ret rfl rfl ?_
      exact mq_in hS hi rfl q (by unfold aCount; rw [if_neg (by omega), if_neg (by omega), if_neg (by omega), if_pos (by omega)]) Co1.rf
    · refine E_valv h_5 ?_
      refine E_s (p' := 114) rfl rfl ?_
      refine E_s (p' := 115) (st' := aI 0 :: _) rfl rfl ?_
      refine E_s (p' := 117) (L' := [some (aA 124), some (aI ((i : Nat) : Int)), some (aI (w)), some (aI 0), some (aI 0)]) rfl rfl ?_
      exact yl_ct4 hi hM hV (mq_in hS hi rfl q (by unfold aCount; rw [if_neg (by omega), if_neg (by omega), if_neg (by omega), if_neg (by omega), if_pos (by omega)]) Co1.rf) (Cn (S i) + 1) 0 0 (by omega) (by omega) rfl
    · refine E_valv h_6 ?_
      refine E_s (p' := 160) rfl rfl ?_
      refine E_s (p' := 161) (st' := aA 124 :: _) rfl rfl ?_
      refine E_s (p' := 162) (st' := aI ((i : Nat) : Int) :: _) rfl rfl ?_
      refine E_s (p' := 163) (st' := aA 124 :: _) rfl rfl ?_
      refine E_gA (b := 148) rfl rfl rfl rfl rfl rfl ?_
      refine E_callV (k' := 157) (a := 124) (r := []) (L0 := [some (aA 124), some (aI ((i : Nat) : Int)), some (aA 148), none]) rfl rfl rfl rfl rfl rfl rfl rfl rfl rfl ?_
      refine m_readAll hi (Or.inl rfl) hM hV (fun m1 K1 K2 K3 => ?_)
      refine E_go (p' := 169) (L' := [some (aA 124), some (aI ((i : Nat) : Int)), some (aI (w)), some (aI 0), none]) (st' := []) rfl rfl rfl ?_
      have hS1 := K1.MS (by decide) hS
      have hC1 := K1.Co1 (Or.inl rfl)
      have hM1 := (hS1 i hi).2
      refine E_s (p' := 170) (st' := aI 0 :: _) rfl rfl ?_
      refine E_s (p' := 172) (L' := [some (aA 124), some (aI ((i : Nat) : Int)), some (aI (w)), some (aI 0), some (aI 0)]) rfl rfl ?_
      exact yl_ct5 hi hM1 hV K3 (mq_in hS1 hi rfl q (by unfold aCount; rw [if_neg (by omega), if_neg (by omega), if_neg (by omega), if_neg (by omega), if_neg (by omega), if_pos (by omega)]) hC1) (Cn (S i) + 1) 0 0 (by omega) (by omega) rfl
    · refine E_valv h_7 ?_
      refine E_s (p' := 209) rfl rfl ?_
      refine E_s (p' := 210) (st' := aI 0 :: _) rfl rfl ?_
      refine E_s (p' := 212) (L' := [some (aA 124), some (aI ((i : Nat) : Int)), some (aI (w)), some (aI 0), some (aI 0)]) rfl rfl ?_
      exact yl_ct6 hi hM hV (mq_in hS hi rfl q (by unfold aCount; rw [if_neg (by omega), if_neg (by omega), if_neg (by omega), if_neg (by omega), if_neg (by omega), if_neg (by omega), if_pos (by omega)]) Co1.rf) (Cn (S i) + 1) 0 0 (by omega) (by omega) rfl
    · refine E_tabO rfl (by omega) (by decide) ?_
      refine E_go (p' := 255) (L' := [some (aA 124), some (aI ((i : Nat) : Int)), some (aI (w)), some (aI 0), none]) (st' := []) rfl rfl rfl ?_
      refine E_s (p' := 256) (st' := aI (-1) :: _) rfl rfl ?_
      refine E_ret rfl rfl ?_
      exact mq_in hS hi rfl q (by unfold aCount; rw [if_neg (by omega), if_neg (by omega), if_neg (by omega), if_neg (by omega), if_neg (by omega), if_neg (by omega), if_neg (by omega)]) Co1.rf
  · refine E_go (p' := 4) (L' := [some (aA 124), some (aI (r)), some (aI (w)), none, none]) (st' := [aI 0]) rfl rfl rfl ?_
    refine E_s (p' := 7) rfl rfl ?_
    refine E_s (p' := 8) (st' := aI (-1) :: _) rfl rfl ?_
    refine E_ret rfl rfl ?_
    exact mq_out hS q hr
theorem yl_mun (hi : i < 4) (hM : MR R i m) (hV : VR R) (hcc : ci < Cn R) (hnm : ∀ d, d < Cn R → m 148 d = Rtd R d) (q1 : unB R ci (Cn R) = 0 → Q (some (aI (unS R ci (Cn R) : Int))) (m, tl len)) (q0 : unB R ci (Cn R) ≠ 0 → Q (some (aI (-1))) (m, tl len)) : ∀ (d : Nat) (e w : Nat), (Cn R < e + d) → (e ≤ Cn R) → (w = unS R ci e) → (unB R ci e = 0) → E 156 25 [some (aA 124), some (aI ((i : Nat) : Int)), some (aI ((ci : Nat) : Int)), some (aI ((w : Nat) : Int)), some (aI ((e : Nat) : Int))] [] (m, tl len) Q := by
  intro d
  induction d with
  | zero => intro e w hd he hw hb; omega
  | succ d ih =>
    intro e w hd he hw hb
    have hn60 := hV.1
    have hwb : w ≤ 27000000 * e := by rw [hw]; exact unS_b hV he
    refine E_s (p' := 27) (st' := aI ((e : Nat) : Int) :: _) rfl rfl ?_
    refine E_s (p' := 28) (st' := aA 124 :: _) rfl rfl ?_
    refine E_gA (b := 125) rfl rfl rfl rfl rfl rfl ?_
    refine E_s (p' := 32) (st' := aI ((i : Nat) : Int) :: _) rfl rfl ?_
    refine E_ald (e := i) (N := 4) (v := ((Cn R : Nat) : Int)) rfl rfl (rfl) (by omega) (MR_125 hM) ?_
    refine E_icmp_ge (x := ((e : Nat) : Int)) (y := ((Cn R : Nat) : Int)) rfl (by decide) (fun h_1 => ?_) (fun h_1 => ?_)
    · refine E_go (p' := 83) (L' := [some (aA 124), some (aI ((i : Nat) : Int)), some (aI ((ci : Nat) : Int)), some (aI ((w : Nat) : Int)), some (aI ((e : Nat) : Int))]) (st' := []) rfl rfl rfl ?_
      refine E_s (p' := 84) (st' := aI ((w : Nat) : Int) :: _) rfl rfl ?_
      refine E_ret rfl rfl ?_
      have ee : e = Cn R := by omega
      rw [ee] at hw hb
      rw [← hw] at q1
      exact q1 hb
    · refine E_go (p' := 36) (L' := [some (aA 124), some (aI ((i : Nat) : Int)), some (aI ((ci : Nat) : Int)), some (aI ((w : Nat) : Int)), some (aI ((e : Nat) : Int))]) (st' := []) rfl rfl rfl ?_
      refine E_s (p' := 37) (st' := aA 124 :: _) rfl rfl ?_
      refine E_gA (b := 128) rfl rfl rfl rfl rfl rfl ?_
      refine E_s (p' := 42) (st' := aI 60 :: _) rfl rfl ?_
      refine E_s (p' := 43) (st' := aI ((i : Nat) : Int) :: _) rfl rfl ?_
      refine E_mul (v := ((60 * i : Nat) : Int)) rfl (by omega) (by omega) ?_
      refine E_s (p' := 46) (st' := aI ((e : Nat) : Int) :: _) rfl rfl ?_
      refine E_add (v := ((60 * i + e : Nat) : Int)) rfl (by omega) (by omega) ?_
      refine E_ald (e := 60 * i + e) (N := 240) (v := ((Co R e))) rfl rfl (rfl) (by omega) (MR_128 hM (by omega) (by omega)) ?_
      refine E_s (p' := 49) (st' := aI ((ci : Nat) : Int) :: _) rfl rfl ?_
      refine E_icmp_eq (x := ((Co R e))) (y := ((ci : Nat) : Int)) rfl (by decide) (fun h_2 => ?_) (fun h_2 => ?_)
      · refine E_go (p' := 55) (L' := [some (aA 124), some (aI ((i : Nat) : Int)), some (aI ((ci : Nat) : Int)), some (aI ((w : Nat) : Int)), some (aI ((e : Nat) : Int))]) (st' := []) rfl rfl rfl ?_
        refine E_s (p' := 56) (st' := aA 124 :: _) rfl rfl ?_
        refine E_s (p' := 57) (st' := aI ((i : Nat) : Int) :: _) rfl rfl ?_
        refine E_s (p' := 59) (st' := aI ((e : Nat) : Int) :: _) rfl rfl ?_
        refine E_callV (k' := 158) (a := 124) (r := []) (L0 := [some (aA 124), some (aI ((i : Nat) : Int)), some (aI ((e : Nat) : Int))]) rfl rfl rfl rfl rfl rfl rfl rfl rfl rfl ?_
        refine m_isSure hi hM hV (c := e) (by omega) (hnm _ (by omega)) (fun hs1 hs2 => ?_) (fun hs0 => ?_)
        · refine E_go (p' := 62) (L' := [some (aA 124), some (aI ((i : Nat) : Int)), some (aI ((ci : Nat) : Int)), some (aI ((w : Nat) : Int)), some (aI ((e : Nat) : Int))]) (st' := [aI 1]) rfl rfl rfl ?_
          refine E_s (p' := 67) rfl rfl ?_
          have hve := Rvl_c hV (show e < Cn R by omega)
          refine E_s (p' := 68) (st' := aI ((w : Nat) : Int) :: _) rfl rfl ?_
          refine E_s (p' := 69) (st' := aA 124 :: _) rfl rfl ?_
          refine E_gA (b := 148) rfl rfl rfl rfl rfl rfl ?_
          refine E_s (p' := 74) (st' := aI ((e : Nat) : Int) :: _) rfl rfl ?_
          refine E_ald (e := e) (N := 60) (v := ((Rvl R e : Nat) : Int)) rfl rfl (rfl) (by omega) ((hnm _ (by omega)).trans (by have := Rtd_n (R := R) (c := e); omega)) ?_
          refine E_add (v := ((w + Rvl R e : Nat) : Int)) rfl (by omega) (by omega) ?_
          refine E_s (p' := 77) (L' := [some (aA 124), some (aI ((i : Nat) : Int)), some (aI ((ci : Nat) : Int)), some (aI ((w + Rvl R e : Nat) : Int)), some (aI ((e : Nat) : Int))]) rfl rfl ?_
          refine E_inc (x := ((e : Nat) : Int)) (w := ((e + 1 : Nat) : Int)) (L' := [some (aA 124), some (aI ((i : Nat) : Int)), some (aI ((ci : Nat) : Int)), some (aI ((w + Rvl R e : Nat) : Int)), some (aI ((e + 1 : Nat) : Int))]) rfl rfl rfl (by omega) (by omega) rfl ?_
          refine E_s (p' := 25) rfl rfl ?_
          refine ih (e + 1) _ (by omega) (by omega) ?_ ?_
          · rw [hw]; show _ = sumN _ e + (bif decide (Co R e = (ci : Int)) then Rvl R e else 0); rw [decide_eq_true (p := Co R e = (ci : Int)) (by omega)]; rfl
          · show cntN _ e + bn (decide (Co R e = (ci : Int)) && !sdR R e) = 0; rw [decide_eq_true (p := Co R e = (ci : Int)) (by omega), sdR_t hs1 hs2]; exact hb
        · refine E_go (p' := 62) (L' := [some (aA 124), some (aI ((i : Nat) : Int)), some (aI ((ci : Nat) : Int)), some (aI ((w : Nat) : Int)), some (aI ((e : Nat) : Int))]) (st' := [aI 0]) rfl rfl rfl ?_
          refine E_s (p' := 65) rfl rfl ?_
          refine E_s (p' := 66) (st' := aI (-1) :: _) rfl rfl ?_
          refine E_ret rfl rfl ?_
          exact q0 (cntN_pos (i := e) (by omega) (by show (decide (Co R e = (ci : Int)) && !sdR R e) = true; rw [decide_eq_true (p := Co R e = (ci : Int)) (by omega), sdR_f hs0]; rfl))
      · refine E_go (p' := 52) (L' := [some (aA 124), some (aI ((i : Nat) : Int)), some (aI ((ci : Nat) : Int)), some (aI ((w : Nat) : Int)), some (aI ((e : Nat) : Int))]) (st' := []) rfl rfl rfl ?_
        refine E_s (p' := 77) rfl rfl ?_
        refine E_inc (x := ((e : Nat) : Int)) (w := ((e + 1 : Nat) : Int)) (L' := [some (aA 124), some (aI ((i : Nat) : Int)), some (aI ((ci : Nat) : Int)), some (aI ((w : Nat) : Int)), some (aI ((e + 1 : Nat) : Int))]) rfl rfl rfl (by omega) (by omega) rfl ?_
        refine E_s (p' := 25) rfl rfl ?_
        refine ih (e + 1) _ (by omega) (by omega) ?_ ?_
        · rw [hw]; show _ = sumN _ e + (bif decide (Co R e = (ci : Int)) then Rvl R e else 0); rw [decide_eq_false (p := Co R e = (ci : Int)) (by omega)]; rfl
        · show cntN _ e + bn (decide (Co R e = (ci : Int)) && !sdR R e) = 0; rw [decide_eq_false (p := Co R e = (ci : Int)) (by omega)]; exact hb
theorem M_under (hS : MS S m) (q : ∀ m1, MS S m1 → Co1 m m1 → Q (some (aI (qy S r (-1) (aUnder c)))) (m1, tl len)) : E 156 0 [some (aA 124), some (aI (r)), some (aI (c)), none, none] [] (m, tl len) Q := by
  refine E_s (p' := 1) (st' := aA 124 :: _) rfl rfl ?_
  refine E_s (p' := 2) (st' := aI (r) :: _) rfl rfl ?_
  refine E_s (p' := 3) (st' := aI (c) :: _) rfl rfl ?_
  refine E_callV (k' := 135) (a := 124) (r := []) (L0 := [some (aA 124), some (aI (r)), some (aI (c))]) rfl rfl rfl rfl rfl rfl rfl rfl rfl rfl ?_
  refine m_isCord hS (fun i ci hi hr hc hcc => ?_) (fun hno => ?_)
  · refine E_go (p' := 6) (L' := [some (aA 124), some (aI (r)), some (aI (c)), none, none]) (st' := [aI 1]) rfl rfl rfl ?_
    obtain ⟨hV, hM⟩ := hS i hi
    have hn60 := hV.1
    have hs40 := hV.2.2.2.2.1
    subst hr hc
    refine E_s (p' := 11) rfl rfl ?_
    refine E_s (p' := 12) (st' := aA 124 :: _) rfl rfl ?_
    refine E_s (p' := 13) (st' := aI ((i : Nat) : Int) :: _) rfl rfl ?_
    refine E_s (p' := 14) (st' := aA 124 :: _) rfl rfl ?_
    refine E_gA (b := 148) rfl rfl rfl rfl rfl rfl ?_
    refine E_callV (k' := 157) (a := 124) (r := []) (L0 := [some (aA 124), some (aI ((i : Nat) : Int)), some (aA 148), none]) rfl rfl rfl rfl rfl rfl rfl rfl rfl rfl ?_
    refine m_readAll hi (Or.inl rfl) hM hV (fun m1 K1 K2 K3 => ?_)
    refine E_go (p' := 20) (L' := [some (aA 124), some (aI ((i : Nat) : Int)), some (aI ((ci : Nat) : Int)), none, none]) (st' := []) rfl rfl rfl ?_
    have hS1 := K1.MS (by decide) hS
    have hC1 := K1.Co1 (Or.inl rfl)
    have hM1 := (hS1 i hi).2
    refine E_s (p' := 21) (st' := aI 0 :: _) rfl rfl ?_
    refine E_s (p' := 22) (L' := [some (aA 124), some (aI ((i : Nat) : Int)), some (aI ((ci : Nat) : Int)), some (aI 0), none]) rfl rfl ?_
    refine E_s (p' := 23) (st' := aI 0 :: _) rfl rfl ?_
    refine E_s (p' := 25) (L' := [some (aA 124), some (aI ((i : Nat) : Int)), some (aI ((ci : Nat) : Int)), some (aI 0), some (aI 0)]) rfl rfl ?_
    exact yl_mun hi hM1 hV hcc K3 (fun g9 => mq_in hS1 hi rfl q (by unfold aUnder; rw [cif_pos ⟨by unfold inC; omega, g9⟩]) hC1) (fun g9 => mq_in hS1 hi rfl q (by unfold aUnder; rw [cif_neg (fun h9 => g9 h9.2)]) hC1) (Cn (S i) + 1) 0 0 (by omega) (by omega) rfl rfl
  · refine E_go (p' := 6) (L' := [some (aA 124), some (aI (r)), some (aI (c)), none, none]) (st' := [aI 0]) rfl rfl rfl ?_
    refine E_s (p' := 9) rfl rfl ?_
    refine E_s (p' := 10) (st' := aI (-1) :: _) rfl rfl ?_
    refine E_ret rfl rfl ?_
    rcases hno with hr | ⟨i, hi, hr, hno⟩
    · exact mq_out hS q hr
    · exact mq_in hS hi hr q (by unfold aUnder; rw [cif_neg (fun g9 => hno g9.1)]) Co1.rf
theorem yl_mks (hi : i < 4) (hM : MR R i m) (hV : VR R) {sn : Nat} (hs : sn < Sn R) (hnm : ∀ d, d < Cn R → m 148 d = Rtd R d) (h2 : 2 ≤ Sp R sn) (hsd : sdR R (Sw R sn) = true) (q : Q (some (aI (kps R sn))) (m, tl len)) : ∀ (d : Nat) (p v : Nat) (x7 : Option AV), (Sp R sn < p + d) → (p ≤ Sp R sn) → (v = spS R sn p) → (spB R sn p = 0) → E 164 147 [some (aA 124), some (aI ((i : Nat) : Int)), some (aI ((sn : Nat) : Int)), some (aI (w)), some (aI ((40 * i + sn : Nat) : Int)), some (aI ((v : Nat) : Int)), some (aI ((p : Nat) : Int)), x7] [] (m, tl len) Q := by
  intro d
  induction d with
  | zero => intro p v x7 hd hp hw hb; omega
  | succ d ih =>
    intro p v x7 hd hp hw hb
    have hn60 := hV.1
    have hs40 := hV.2.2.2.2.1
    have hp12 := (hV.2.2.2.2.2.1 sn hs).2
    have hwn := (hV.2.2.2.2.2.1 sn hs).1
    have hwb : v ≤ 27000000 * p := by rw [hw]; exact spS_b hV hs hp
    have hwf : Rft R (Sw R sn) = 0 := by unfold sdR at hsd; rw [Bool.and_eq_true] at hsd; exact of_decide_eq_true hsd.2
    refine E_s (p' := 149) (st' := aI ((p : Nat) : Int) :: _) rfl rfl ?_
    refine E_s (p' := 150) (st' := aA 124 :: _) rfl rfl ?_
    refine E_gA (b := 138) rfl rfl rfl rfl rfl rfl ?_
    refine E_s (p' := 155) (st' := aI ((40 * i + sn : Nat) : Int) :: _) rfl rfl ?_
    refine E_ald (e := 40 * i + sn) (N := 160) (v := ((Sp R sn : Nat) : Int)) rfl rfl (rfl) (by omega) (MR_138 hM (by omega) (by omega)) ?_
    refine E_icmp_ge (x := ((p : Nat) : Int)) (y := ((Sp R sn : Nat) : Int)) rfl (by decide) (fun h_1 => ?_) (fun h_1 => ?_)
    · refine E_go (p' := 204) (L' := [some (aA 124), some (aI ((i : Nat) : Int)), some (aI ((sn : Nat) : Int)), some (aI (w)), some (aI ((40 * i + sn : Nat) : Int)), some (aI ((v : Nat) : Int)), some (aI ((p : Nat) : Int)), x7]) (st' := []) rfl rfl rfl ?_
      refine E_s (p' := 206) (st' := aI ((v : Nat) : Int) :: _) rfl rfl ?_
      refine E_s (p' := 207) (st' := aA 124 :: _) rfl rfl ?_
      refine E_gA (b := 148) rfl rfl rfl rfl rfl rfl ?_
      refine E_s (p' := 211) (st' := aA 124 :: _) rfl rfl ?_
      refine E_gA (b := 137) rfl rfl rfl rfl rfl rfl ?_
      refine E_s (p' := 216) (st' := aI ((40 * i + sn : Nat) : Int) :: _) rfl rfl ?_
      refine E_ald (e := 40 * i + sn) (N := 160) (v := ((Sw R sn : Nat) : Int)) rfl rfl (rfl) (by omega) (MR_137 hM (by omega) (by omega)) ?_
      refine E_ald (e := Sw R sn) (N := 60) (v := ((Rvl R (Sw R sn) : Nat) : Int)) rfl rfl (rfl) (by omega) ((hnm _ (by omega)).trans (by have := Rtd_n (R := R) (c := Sw R sn); omega)) ?_
      refine E_icmp_ne (x := ((v : Nat) : Int)) (y := ((Rvl R (Sw R sn) : Nat) : Int)) rfl (by decide) (fun h_2 => ?_) (fun h_2 => ?_)
      · refine E_go (p' := 225) (L' := [some (aA 124), some (aI ((i : Nat) : Int)), some (aI ((sn : Nat) : Int)), some (aI (w)), some (aI ((40 * i + sn : Nat) : Int)), some (aI ((v : Nat) : Int)), some (aI ((p : Nat) : Int)), x7]) (st' := []) rfl rfl rfl ?_
        refine E_s (p' := 226) (st' := aI 0 :: _) rfl rfl ?_
        refine E_ret rfl rfl ?_
        have ep : p = Sp R sn := by omega
        rw [ep] at hw hb
        rw [show kps R sn = 0 by unfold kps; rw [cif_pos ⟨h2, hsd, hb⟩, ← hw, if_neg (by omega)]] at q
        exact q
      · refine E_go (p' := 221) (L' := [some (aA 124), some (aI ((i : Nat) : Int)), some (aI ((sn : Nat) : Int)), some (aI (w)), some (aI ((40 * i + sn : Nat) : Int)), some (aI ((v : Nat) : Int)), some (aI ((p : Nat) : Int)), x7]) (st' := []) rfl rfl rfl ?_
        refine E_s (p' := 222) (st' := aI 1 :: _) rfl rfl ?_
        refine E_s (p' := 226) rfl rfl ?_
        refine E_ret rfl rfl ?_
        have ep : p = Sp R sn := by omega
        rw [ep] at hw hb
        rw [show kps R sn = 1 by unfold kps; rw [cif_pos ⟨h2, hsd, hb⟩, ← hw, if_pos (by omega)]] at q
        exact q
    · refine E_go (p' := 159) (L' := [some (aA 124), some (aI ((i : Nat) : Int)), some (aI ((sn : Nat) : Int)), some (aI (w)), some (aI ((40 * i + sn : Nat) : Int)), some (aI ((v : Nat) : Int)), some (aI ((p : Nat) : Int)), x7]) (st' := []) rfl rfl rfl ?_
      have hsq := hV.2.2.2.2.2.2 sn p hs (show p < Sp R sn by omega)
      have hve := Rvl_c hV hsq
      refine E_s (p' := 160) (st' := aA 124 :: _) rfl rfl ?_
      refine E_gA (b := 139) rfl rfl rfl rfl rfl rfl ?_
      refine E_s (p' := 165) (st' := aI 12 :: _) rfl rfl ?_
      refine E_s (p' := 167) (st' := aI ((40 * i + sn : Nat) : Int) :: _) rfl rfl ?_
      refine E_mul (v := ((480 * i + 12 * sn : Nat) : Int)) rfl (by omega) (by omega) ?_
      refine E_s (p' := 170) (st' := aI ((p : Nat) : Int) :: _) rfl rfl ?_
      refine E_add (v := ((480 * i + 12 * sn + p : Nat) : Int)) rfl (by omega) (by omega) ?_
      refine E_ald (e := 480 * i + 12 * sn + p) (N := 1920) (v := ((Sq R sn p : Nat) : Int)) rfl rfl (rfl) (by omega) (MR_139 hM (by omega) (by omega) (by omega)) ?_
      refine E_s (p' := 174) (L' := [some (aA 124), some (aI ((i : Nat) : Int)), some (aI ((sn : Nat) : Int)), some (aI (w)), some (aI ((40 * i + sn : Nat) : Int)), some (aI ((v : Nat) : Int)), some (aI ((p : Nat) : Int)), some (aI ((Sq R sn p : Nat) : Int))]) rfl rfl ?_
      refine E_s (p' := 175) (st' := aA 124 :: _) rfl rfl ?_
      refine E_s (p' := 176) (st' := aI ((i : Nat) : Int) :: _) rfl rfl ?_
      refine E_s (p' := 178) (st' := aI ((Sq R sn p : Nat) : Int) :: _) rfl rfl ?_
      refine E_callV (k' := 158) (a := 124) (r := []) (L0 := [some (aA 124), some (aI ((i : Nat) : Int)), some (aI ((Sq R sn p : Nat) : Int))]) rfl rfl rfl rfl rfl rfl rfl rfl rfl rfl ?_
      refine m_isSure hi hM hV (c := Sq R sn p) (by omega) (hnm _ (by omega)) (fun hs1 hs2 => ?_) (fun hs0 => ?_)
      · refine E_go (p' := 181) (L' := [some (aA 124), some (aI ((i : Nat) : Int)), some (aI ((sn : Nat) : Int)), some (aI (w)), some (aI ((40 * i + sn : Nat) : Int)), some (aI ((v : Nat) : Int)), some (aI ((p : Nat) : Int)), some (aI ((Sq R sn p : Nat) : Int))]) (st' := [aI 1]) rfl rfl rfl ?_
        refine E_s (p' := 186) rfl rfl ?_
        refine E_s (p' := 188) (st' := aI ((v : Nat) : Int) :: _) rfl rfl ?_
        refine E_s (p' := 189) (st' := aA 124 :: _) rfl rfl ?_
        refine E_gA (b := 148) rfl rfl rfl rfl rfl rfl ?_
        refine E_s (p' := 194) (st' := aI ((Sq R sn p : Nat) : Int) :: _) rfl rfl ?_
        refine E_ald (e := Sq R sn p) (N := 60) (v := ((Rvl R (Sq R sn p) : Nat) : Int)) rfl rfl (rfl) (by omega) ((hnm _ (by omega)).trans (by have := Rtd_n (R := R) (c := Sq R sn p); omega)) ?_
        refine E_add (v := ((v + Rvl R (Sq R sn p) : Nat) : Int)) rfl (by omega) (by omega) ?_
        refine E_s (p' := 198) (L' := [some (aA 124), some (aI ((i : Nat) : Int)), some (aI ((sn : Nat) : Int)), some (aI (w)), some (aI ((40 * i + sn : Nat) : Int)), some (aI ((v + Rvl R (Sq R sn p) : Nat) : Int)), some (aI ((p : Nat) : Int)), some (aI ((Sq R sn p : Nat) : Int))]) rfl rfl ?_
        refine E_inc (x := ((p : Nat) : Int)) (w := ((p + 1 : Nat) : Int)) (L' := [some (aA 124), some (aI ((i : Nat) : Int)), some (aI ((sn : Nat) : Int)), some (aI (w)), some (aI ((40 * i + sn : Nat) : Int)), some (aI ((v + Rvl R (Sq R sn p) : Nat) : Int)), some (aI ((p + 1 : Nat) : Int)), some (aI ((Sq R sn p : Nat) : Int))]) rfl rfl rfl (by omega) (by omega) rfl ?_
        refine E_s (p' := 147) rfl rfl ?_
        exact ih (p + 1) _ _ (by omega) (by omega) (by rw [hw]; rfl) (by show cntN _ p + bn (!sdR R (Sq R sn p)) = 0; rw [sdR_t hs1 hs2]; exact hb)
      · refine E_go (p' := 181) (L' := [some (aA 124), some (aI ((i : Nat) : Int)), some (aI ((sn : Nat) : Int)), some (aI (w)), some (aI ((40 * i + sn : Nat) : Int)), some (aI ((v : Nat) : Int)), some (aI ((p : Nat) : Int)), some (aI ((Sq R sn p : Nat) : Int))]) (st' := [aI 0]) rfl rfl rfl ?_
        refine E_s (p' := 184) rfl rfl ?_
        refine E_s (p' := 185) (st' := aI (-1) :: _) rfl rfl ?_
        refine E_ret rfl rfl ?_
        rw [show kps R sn = -1 by unfold kps; rw [cif_neg (fun g9 => absurd g9.2.2 (cntN_pos (i := p) (by omega) (by show (!sdR R (Sq R sn p)) = true; rw [sdR_f hs0]; rfl)))]] at q
        exact q
theorem M_sumAt (hw9 : w ≤ 2147483647) (hS : MS S m) (q : ∀ m1, MS S m1 → Co1 m m1 → Q (some (aI (qy S r (-1) (aSumAt s w)))) (m1, tl len)) : E 164 0 [some (aA 124), some (aI (r)), some (aI (s)), some (aI (w)), none, none, none, none] [] (m, tl len) Q := by
  refine E_s (p' := 1) (st' := aI (r) :: _) rfl rfl ?_
  refine E_callL (p' := 4) (L0 := [some (aI (r))]) rfl rfl rfl ?_
  refine m_isRecord (fun i hi hr => ?_) (fun hr => ?_)
  · refine E_go (p' := 4) (L' := [some (aA 124), some (aI (r)), some (aI (s)), some (aI (w)), none, none, none, none]) (st' := [aI 1]) rfl rfl rfl ?_
    obtain ⟨hV, hM⟩ := hS i hi
    have hn60 := hV.1
    have hs40 := hV.2.2.2.2.1
    subst hr
    refine E_s (p' := 7) rfl rfl ?_
    refine E_s (p' := 8) (st' := aI (s) :: _) rfl rfl ?_
    refine E_s (p' := 9) (st' := aI 0 :: _) rfl rfl ?_
    refine E_s (p' := 10) (st' := aA 124 :: _) rfl rfl ?_
    refine E_gA (b := 136) rfl rfl rfl rfl rfl rfl ?_
    refine E_s (p' := 14) (st' := aI ((i : Nat) : Int) :: _) rfl rfl ?_
    refine E_ald (e := i) (N := 4) (v := ((Sn (S i) : Nat) : Int)) rfl rfl (rfl) (by omega) (MR_136 hM) ?_
    refine E_s (p' := 16) (st' := aI 1 :: _) rfl rfl ?_
    refine E_sub (v := ((Sn (S i) : Int) - 1)) rfl (by omega) (by omega) ?_
    refine E_callL (p' := 20) (L0 := [some (aI (s)), some (aI 0), some (aI ((Sn (S i) : Int) - 1))]) rfl rfl rfl ?_
    refine m_in (fun h_1 h_2 => ?_) (fun h_3 => ?_)
    · refine E_go (p' := 20) (L' := [some (aA 124), some (aI ((i : Nat) : Int)), some (aI (s)), some (aI (w)), none, none, none, none]) (st' := [aI 1]) rfl rfl rfl ?_
      refine E_s (p' := 25) rfl rfl ?_
      obtain ⟨sn, es⟩ : ∃ x : Nat, s = (x : Int) := ⟨s.toNat, by omega⟩
      subst es
      have hp12 := (hV.2.2.2.2.2.1 sn (by omega)).2
      have hwn := (hV.2.2.2.2.2.1 sn (by omega)).1
      refine E_s (p' := 27) (st' := aI 40 :: _) rfl rfl ?_
      refine E_s (p' := 28) (st' := aI ((i : Nat) : Int) :: _) rfl rfl ?_
      refine E_mul (v := ((40 * i : Nat) : Int)) rfl (by omega) (by omega) ?_
      refine E_s (p' := 30) (st' := aI ((sn : Nat) : Int) :: _) rfl rfl ?_
      refine E_add (v := ((40 * i + sn : Nat) : Int)) rfl (by omega) (by omega) ?_
      refine E_s (p' := 33) (L' := [some (aA 124), some (aI ((i : Nat) : Int)), some (aI ((sn : Nat) : Int)), some (aI (w)), some (aI ((40 * i + sn : Nat) : Int)), none, none, none]) rfl rfl ?_
      refine E_s (p' := 34) (st' := aI (w) :: _) rfl rfl ?_
      refine E_if_ne (x := (w)) rfl (by decide) (fun h_4 => ?_) (fun h_4 => ?_)
      · refine E_go (p' := 45) (L' := [some (aA 124), some (aI ((i : Nat) : Int)), some (aI ((sn : Nat) : Int)), some (aI (w)), some (aI ((40 * i + sn : Nat) : Int)), none, none, none]) (st' := []) rfl rfl rfl ?_
        refine E_s (p' := 46) (st' := aI (w) :: _) rfl rfl ?_
        refine E_s (p' := 47) (st' := aI 1 :: _) rfl rfl ?_
        refine E_icmp_ne (x := (w)) (y := 1) rfl (by decide) (fun h_5 => ?_) (fun h_5 => ?_)
        · refine E_go (p' := 58) (L' := [some (aA 124), some (aI ((i : Nat) : Int)), some (aI ((sn : Nat) : Int)), some (aI (w)), some (aI ((40 * i + sn : Nat) : Int)), none, none, none]) (st' := []) rfl rfl rfl ?_
          refine E_s (p' := 59) (st' := aI (w) :: _) rfl rfl ?_
          refine E_s (p' := 60) (st' := aI 2 :: _) rfl rfl ?_
          refine E_icmp_eq (x := (w)) (y := 2) rfl (by decide) (fun h_6 => ?_) (fun h_6 => ?_)
          · refine E_go (p' := 102) (L' := [some (aA 124), some (aI ((i : Nat) : Int)), some (aI ((sn : Nat) : Int)), some (aI (w)), some (aI ((40 * i + sn : Nat) : Int)), none, none, none]) (st' := []) rfl rfl rfl ?_
            refine E_s (p' := 103) (st' := aA 124 :: _) rfl rfl ?_
            refine E_gA (b := 138) rfl rfl rfl rfl rfl rfl ?_
            refine E_s (p' := 108) (st' := aI ((40 * i + sn : Nat) : Int) :: _) rfl rfl ?_
            refine E_ald (e := 40 * i + sn) (N := 160) (v := ((Sp (S i) sn : Nat) : Int)) rfl rfl (rfl) (by omega) (MR_138 hM (by omega) (by omega)) ?_
            refine E_s (p' := 110) (st' := aI 2 :: _) rfl rfl ?_
            refine E_icmp_ge (x := ((Sp (S i) sn : Nat) : Int)) (y := 2) rfl (by decide) (fun h_7 => ?_) (fun h_7 => ?_)
            · refine E_go (p' := 115) (L' := [some (aA 124), some (aI ((i : Nat) : Int)), some (aI ((sn : Nat) : Int)), some (aI (w)), some (aI ((40 * i + sn : Nat) : Int)), none, none, none]) (st' := []) rfl rfl rfl ?_
              refine E_s (p' := 116) (st' := aA 124 :: _) rfl rfl ?_
              refine E_s (p' := 117) (st' := aI ((i : Nat) : Int) :: _) rfl rfl ?_
              refine E_s (p' := 118) (st' := aA 124 :: _) rfl rfl ?_
              refine E_gA (b := 148) rfl rfl rfl rfl rfl rfl ?_
              refine E_callV (k' := 157) (a := 124) (r := []) (L0 := [some (aA 124), some (aI ((i : Nat) : Int)), some (aA 148), none]) rfl rfl rfl rfl rfl rfl rfl rfl rfl rfl ?_
              refine m_readAll hi (Or.inl rfl) hM hV (fun m1 K1 K2 K3 => ?_)
              refine E_go (p' := 124) (L' := [some (aA 124), some (aI ((i : Nat) : Int)), some (aI ((sn : Nat) : Int)), some (aI (w)), some (aI ((40 * i + sn : Nat) : Int)), none, none, none]) (st' := []) rfl rfl rfl ?_
              have hS1 := K1.MS (by decide) hS
              have hC1 := K1.Co1 (Or.inl rfl)
              have hM1 := (hS1 i hi).2
              refine E_s (p' := 125) (st' := aA 124 :: _) rfl rfl ?_
              refine E_s (p' := 126) (st' := aI ((i : Nat) : Int) :: _) rfl rfl ?_
              refine E_s (p' := 127) (st' := aA 124 :: _) rfl rfl ?_
              refine E_gA (b := 137) rfl rfl rfl rfl rfl rfl ?_
              refine E_s (p' := 132) (st' := aI ((40 * i + sn : Nat) : Int) :: _) rfl rfl ?_
              refine E_ald (e := 40 * i + sn) (N := 160) (v := ((Sw (S i) sn : Nat) : Int)) rfl rfl (rfl) (by omega) (MR_137 hM1 (by omega) (by omega)) ?_
              refine E_callV (k' := 158) (a := 124) (r := []) (L0 := [some (aA 124), some (aI ((i : Nat) : Int)), some (aI ((Sw (S i) sn : Nat) : Int))]) rfl rfl rfl rfl rfl rfl rfl rfl rfl rfl ?_
              refine m_isSure hi hM1 hV (c := Sw (S i) sn) (by omega) (K3 _ (by omega)) (fun hs1 hs2 => ?_) (fun hs0 => ?_)
              · refine E_go (p' := 136) (L' := [some (aA 124), some (aI ((i : Nat) : Int)), some (aI ((sn : Nat) : Int)), some (aI (w)), some (aI ((40 * i + sn : Nat) : Int)), none, none, none]) (st' := [aI 1]) rfl rfl rfl ?_
                refine E_s (p' := 141) rfl rfl ?_
                refine E_s (p' := 142) (st' := aI 0 :: _) rfl rfl ?_
                refine E_s (p' := 144) (L' := [some (aA 124), some (aI ((i : Nat) : Int)), some (aI ((sn : Nat) : Int)), some (aI (w)), some (aI ((40 * i + sn : Nat) : Int)), some (aI 0), none, none]) rfl rfl ?_
                refine E_s (p' := 145) (st' := aI 0 :: _) rfl rfl ?_
                refine E_s (p' := 147) (L' := [some (aA 124), some (aI ((i : Nat) : Int)), some (aI ((sn : Nat) : Int)), some (aI (w)), some (aI ((40 * i + sn : Nat) : Int)), some (aI 0), some (aI 0), none]) rfl rfl ?_
                exact yl_mks hi hM1 hV (by omega) K3 (by omega) (sdR_t hs1 hs2) (mq_in hS1 hi rfl q (by unfold aSumAt; (try simp only [Int.toNat_natCast]); rw [cif_pos (by omega), if_neg (by omega), if_neg (by omega), if_pos (by omega)]) hC1) (Sp (S i) sn + 1) 0 0 none (by omega) (by omega) rfl rfl
              · refine E_go (p' := 136) (L' := [some (aA 124), some (aI ((i : Nat) : Int)), some (aI ((sn : Nat) : Int)), some (aI (w)), some (aI ((40 * i + sn : Nat) : Int)), none, none, none]) (st' := [aI 0]) rfl rfl rfl ?_
                refine E_s (p' := 139) rfl rfl ?_
                refine E_s (p' := 140) (st' := aI (-1) :: _) rfl rfl ?_
                refine E_ret rfl rfl ?_
                exact mq_in hS1 hi rfl q (by unfold aSumAt; (try simp only [Int.toNat_natCast]); rw [cif_pos (by omega), if_neg (by omega), if_neg (by omega), if_pos (by omega)]; unfold kps; rw [cif_neg (fun g9 => by have := g9.2.1; rw [sdR_f hs0] at this; cases this)]) hC1
            · refine E_go (p' := 113) (L' := [some (aA 124), some (aI ((i : Nat) : Int)), some (aI ((sn : Nat) : Int)), some (aI (w)), some (aI ((40 * i + sn : Nat) : Int)), none, none, none]) (st' := []) rfl rfl rfl ?_
              refine E_s (p' := 114) (st' := aI (-1) :: _) rfl rfl ?_
              refine E_ret rfl rfl ?_
              exact mq_in hS hi rfl q (by unfold aSumAt; (try simp only [Int.toNat_natCast]); rw [cif_pos (by omega), if_neg (by omega), if_neg (by omega), if_pos (by omega)]; unfold kps; rw [cif_neg (by omega)]) Co1.rf
          · refine E_go (p' := 63) (L' := [some (aA 124), some (aI ((i : Nat) : Int)), some (aI ((sn : Nat) : Int)), some (aI (w)), some (aI ((40 * i + sn : Nat) : Int)), none, none, none]) (st' := []) rfl rfl rfl ?_
            refine E_s (p' := 64) (st' := aI (w) :: _) rfl rfl ?_
            refine E_s (p' := 66) (st' := aI 10 :: _) rfl rfl ?_
            refine E_s (p' := 68) (st' := aI 9 :: _) rfl rfl ?_
            refine E_s (p' := 69) (st' := aA 124 :: _) rfl rfl ?_
            refine E_gA (b := 138) rfl rfl rfl rfl rfl rfl ?_
            refine E_s (p' := 74) (st' := aI ((40 * i + sn : Nat) : Int) :: _) rfl rfl ?_
            refine E_ald (e := 40 * i + sn) (N := 160) (v := ((Sp (S i) sn : Nat) : Int)) rfl rfl (rfl) (by omega) (MR_138 hM (by omega) (by omega)) ?_
            refine E_add (v := ((Sp (S i) sn + 9 : Nat) : Int)) rfl (by omega) (by omega) ?_
            refine E_callL (p' := 79) (L0 := [some (aI (w)), some (aI 10), some (aI ((Sp (S i) sn + 9 : Nat) : Int))]) rfl rfl rfl ?_
            refine m_in (fun h_8 h_9 => ?_) (fun h_10 => ?_)
            · refine E_go (p' := 79) (L' := [some (aA 124), some (aI ((i : Nat) : Int)), some (aI ((sn : Nat) : Int)), some (aI (w)), some (aI ((40 * i + sn : Nat) : Int)), none, none, none]) (st' := [aI 1]) rfl rfl rfl ?_
              refine E_s (p' := 82) rfl rfl ?_
              obtain ⟨pn, ep⟩ : ∃ x : Nat, w = (x : Int) + 10 := ⟨(w - 10).toNat, by omega⟩
              rw [show (w : Int) = ((pn + 10 : Nat) : Int) by omega]
              refine E_s (p' := 83) (st' := aA 124 :: _) rfl rfl ?_
              refine E_gA (b := 139) rfl rfl rfl rfl rfl rfl ?_
              refine E_s (p' := 88) (st' := aI 12 :: _) rfl rfl ?_
              refine E_s (p' := 90) (st' := aI ((40 * i + sn : Nat) : Int) :: _) rfl rfl ?_
              refine E_mul (v := ((480 * i + 12 * sn : Nat) : Int)) rfl (by omega) (by omega) ?_
              refine E_s (p' := 92) (st' := aI ((pn + 10 : Nat) : Int) :: _) rfl rfl ?_
              refine E_add (v := ((480 * i + 12 * sn + pn + 10 : Nat) : Int)) rfl (by omega) (by omega) ?_
              refine E_s (p' := 95) (st' := aI 10 :: _) rfl rfl ?_
              refine E_sub (v := ((480 * i + 12 * sn + pn : Nat) : Int)) rfl (by omega) (by omega) ?_
              refine E_ald (e := 480 * i + 12 * sn + pn) (N := 1920) (v := ((Sq (S i) sn pn : Nat) : Int)) rfl rfl (rfl) (by omega) (MR_139 hM (by omega) (by omega) (by omega)) ?_
              refine E_s (p' := 101) rfl rfl ?_
              refine E_ret rfl rfl ?_
              exact mq_in hS hi rfl q (by unfold aSumAt; (try simp only [Int.toNat_natCast]); rw [cif_pos (by omega), if_neg (by omega), if_neg (by omega), if_neg (by omega), cif_pos (by omega), show (w - 10).toNat = pn by omega]) Co1.rf
            · refine E_go (p' := 79) (L' := [some (aA 124), some (aI ((i : Nat) : Int)), some (aI ((sn : Nat) : Int)), some (aI (w)), some (aI ((40 * i + sn : Nat) : Int)), none, none, none]) (st' := [aI 0]) rfl rfl rfl ?_
              refine E_s (p' := 100) rfl rfl ?_
              refine E_s (p' := 101) (st' := aI (-1) :: _) rfl rfl ?_
              refine E_ret rfl rfl ?_
              exact mq_in hS hi rfl q (by unfold aSumAt; (try simp only [Int.toNat_natCast]); rw [cif_pos (by omega), if_neg (by omega), if_neg (by omega), if_neg (by omega), cif_neg (by omega)]) Co1.rf
        · refine E_go (p' := 50) (L' := [some (aA 124), some (aI ((i : Nat) : Int)), some (aI ((sn : Nat) : Int)), some (aI (w)), some (aI ((40 * i + sn : Nat) : Int)), none, none, none]) (st' := []) rfl rfl rfl ?_
          refine E_s (p' := 51) (st' := aA 124 :: _) rfl rfl ?_
          refine E_gA (b := 138) rfl rfl rfl rfl rfl rfl ?_
          refine E_s (p' := 56) (st' := aI ((40 * i + sn : Nat) : Int) :: _) rfl rfl ?_
          refine E_ald (e := 40 * i + sn) (N := 160) (v := ((Sp (S i) sn : Nat) : Int)) rfl rfl (rfl) (by omega) (MR_138 hM (by omega) (by omega)) ?_
          refine E_ret rfl rfl ?_
          exact mq_in hS hi rfl q (by unfold aSumAt; (try simp only [Int.toNat_natCast]); rw [cif_pos (by omega), if_neg (by omega), if_pos (by omega)]) Co1.rf
      · refine E_go (p' := 37) (L' := [some (aA 124), some (aI ((i : Nat) : Int)), some (aI ((sn : Nat) : Int)), some (aI (w)), some (aI ((40 * i + sn : Nat) : Int)), none, none, none]) (st' := []) rfl rfl rfl ?_
        refine E_s (p' := 38) (st' := aA 124 :: _) rfl rfl ?_
        refine E_gA (b := 137) rfl rfl rfl rfl rfl rfl ?_
        refine E_s (p' := 43) (st' := aI ((40 * i + sn : Nat) : Int) :: _) rfl rfl ?_
        refine E_ald (e := 40 * i + sn) (N := 160) (v := ((Sw (S i) sn : Nat) : Int)) rfl rfl (rfl) (by omega) (MR_137 hM (by omega) (by omega)) ?_
        refine E_ret rfl rfl ?_
        exact mq_in hS hi rfl q (by unfold aSumAt; (try simp only [Int.toNat_natCast]); rw [cif_pos (by omega), if_pos (by omega)]) Co1.rf
    · refine E_go (p' := 20) (L' := [some (aA 124), some (aI ((i : Nat) : Int)), some (aI (s)), some (aI (w)), none, none, none, none]) (st' := [aI 0]) rfl rfl rfl ?_
      refine E_s (p' := 23) rfl rfl ?_
      refine E_s (p' := 24) (st' := aI (-1) :: _) rfl rfl ?_
      refine E_ret rfl rfl ?_
      exact mq_in hS hi rfl q (by unfold aSumAt; rw [cif_neg (by omega)]) Co1.rf
  · refine E_go (p' := 4) (L' := [some (aA 124), some (aI (r)), some (aI (s)), some (aI (w)), none, none, none, none]) (st' := [aI 0]) rfl rfl rfl ?_
    refine E_s (p' := 23) rfl rfl ?_
    refine E_s (p' := 24) (st' := aI (-1) :: _) rfl rfl ?_
    refine E_ret rfl rfl ?_
    exact mq_out hS q hr
theorem M_span (hS : MS S m) (q : ∀ v : Int, Q (some (aI v)) (m, tl len)) : E 172 0 [some (aA 124), some (aI (r)), some (aI (c)), some (aI (w))] [] (m, tl len) Q := by
  refine E_s (p' := 1) (st' := aA 124 :: _) rfl rfl ?_
  refine E_s (p' := 2) (st' := aI (r) :: _) rfl rfl ?_
  refine E_s (p' := 3) (st' := aI (c) :: _) rfl rfl ?_
  refine E_callV (k' := 135) (a := 124) (r := []) (L0 := [some (aA 124), some (aI (r)), some (aI (c))]) rfl rfl rfl rfl rfl rfl rfl rfl rfl rfl ?_
  refine m_isCord hS (fun i ci hi hr hc hcc => ?_) (fun hno => ?_)
  · refine E_go (p' := 6) (L' := [some (aA 124), some (aI (r)), some (aI (c)), some (aI (w))]) (st' := [aI 1]) rfl rfl rfl ?_
    obtain ⟨hV, hM⟩ := hS i hi
    have hn60 := hV.1
    have hs40 := hV.2.2.2.2.1
    subst hr hc
    refine E_s (p' := 9) rfl rfl ?_
    refine E_s (p' := 10) (st' := aA 124 :: _) rfl rfl ?_
    refine E_gA (b := 140) rfl rfl rfl rfl rfl rfl ?_
    refine E_s (p' := 14) (st' := aI ((i : Nat) : Int) :: _) rfl rfl ?_
    refine E_zld (e := i) (N := 4) (v := ((m 140 i))) rfl rfl (rfl) (by omega) rfl ?_
    refine E_if_eq (x := ((m 140 i))) rfl (by decide) (fun h_1 => ?_) (fun h_1 => ?_)
    · refine E_go (p' := 27) (L' := [some (aA 124), some (aI ((i : Nat) : Int)), some (aI ((ci : Nat) : Int)), some (aI (w))]) (st' := []) rfl rfl rfl ?_
      refine E_s (p' := 28) (st' := aI (-1) :: _) rfl rfl ?_
      refine E_ret rfl rfl ?_
      exact q _
    · refine E_go (p' := 18) (L' := [some (aA 124), some (aI ((i : Nat) : Int)), some (aI ((ci : Nat) : Int)), some (aI (w))]) (st' := []) rfl rfl rfl ?_
      refine E_s (p' := 19) (st' := aI (w) :: _) rfl rfl ?_
      refine E_s (p' := 20) (st' := aI 0 :: _) rfl rfl ?_
      refine E_s (p' := 21) (st' := aI 1 :: _) rfl rfl ?_
      refine E_callL (p' := 24) (L0 := [some (aI (w)), some (aI 0), some (aI 1)]) rfl rfl rfl ?_
      refine m_in (fun h_2 h_3 => ?_) (fun h_4 => ?_)
      · refine E_go (p' := 24) (L' := [some (aA 124), some (aI ((i : Nat) : Int)), some (aI ((ci : Nat) : Int)), some (aI (w))]) (st' := [aI 1]) rfl rfl rfl ?_
        refine E_s (p' := 29) rfl rfl ?_
        refine E_s (p' := 30) (st' := aI (w) :: _) rfl rfl ?_
        refine E_if_ne (x := (w)) rfl (by decide) (fun h_5 => ?_) (fun h_5 => ?_)
        · refine E_go (p' := 47) (L' := [some (aA 124), some (aI ((i : Nat) : Int)), some (aI ((ci : Nat) : Int)), some (aI (w))]) (st' := []) rfl rfl rfl ?_
          refine E_s (p' := 48) (st' := aA 124 :: _) rfl rfl ?_
          refine E_gA (b := 160) rfl rfl rfl rfl rfl rfl ?_
          refine E_s (p' := 53) (st' := aI 60 :: _) rfl rfl ?_
          refine E_s (p' := 54) (st' := aI ((i : Nat) : Int) :: _) rfl rfl ?_
          refine E_mul (v := ((60 * i : Nat) : Int)) rfl (by omega) (by omega) ?_
          refine E_s (p' := 56) (st' := aI ((ci : Nat) : Int) :: _) rfl rfl ?_
          refine E_add (v := ((60 * i + ci : Nat) : Int)) rfl (by omega) (by omega) ?_
          refine E_ald (e := 60 * i + ci) (N := 240) (v := ((m 160 (60 * i + ci)))) rfl rfl (rfl) (by omega) rfl ?_
          refine E_ret rfl rfl ?_
          exact q _
        · refine E_go (p' := 33) (L' := [some (aA 124), some (aI ((i : Nat) : Int)), some (aI ((ci : Nat) : Int)), some (aI (w))]) (st' := []) rfl rfl rfl ?_
          refine E_s (p' := 34) (st' := aA 124 :: _) rfl rfl ?_
          refine E_gA (b := 159) rfl rfl rfl rfl rfl rfl ?_
          refine E_s (p' := 39) (st' := aI 60 :: _) rfl rfl ?_
          refine E_s (p' := 40) (st' := aI ((i : Nat) : Int) :: _) rfl rfl ?_
          refine E_mul (v := ((60 * i : Nat) : Int)) rfl (by omega) (by omega) ?_
          refine E_s (p' := 42) (st' := aI ((ci : Nat) : Int) :: _) rfl rfl ?_
          refine E_add (v := ((60 * i + ci : Nat) : Int)) rfl (by omega) (by omega) ?_
          refine E_ald (e := 60 * i + ci) (N := 240) (v := ((m 159 (60 * i + ci)))) rfl rfl (rfl) (by omega) rfl ?_
          refine E_s (p' := 58) rfl rfl ?_
          refine E_ret rfl rfl ?_
          exact q _
      · refine E_go (p' := 24) (L' := [some (aA 124), some (aI ((i : Nat) : Int)), some (aI ((ci : Nat) : Int)), some (aI (w))]) (st' := [aI 0]) rfl rfl rfl ?_
        refine E_s (p' := 27) rfl rfl ?_
        refine E_s (p' := 28) (st' := aI (-1) :: _) rfl rfl ?_
        refine E_ret rfl rfl ?_
        exact q _
  · refine E_go (p' := 6) (L' := [some (aA 124), some (aI (r)), some (aI (c)), some (aI (w))]) (st' := [aI 0]) rfl rfl rfl ?_
    refine E_s (p' := 27) rfl rfl ?_
    refine E_s (p' := 28) (st' := aI (-1) :: _) rfl rfl ?_
    refine E_ret rfl rfl ?_
    exact q _
theorem M_cured {n : Nat} (hn : n ≤ 2) (h44 : m 124 44 = (n : Int)) (q : ∀ v : Int, Q (some (aI v)) (m, tl len)) : E 175 0 [some (aA 124), some (aI (k))] [] (m, tl len) Q := by
  refine E_s (p' := 1) (st' := aI (k) :: _) rfl rfl ?_
  refine E_s (p' := 2) (st' := aI 0 :: _) rfl rfl ?_
  refine E_s (p' := 3) (st' := aA 124 :: _) rfl rfl ?_
  refine E_gI (v := ((n : Nat) : Int)) rfl rfl rfl rfl h44 ?_
  refine E_s (p' := 7) (st' := aI 1 :: _) rfl rfl ?_
  refine E_sub (v := ((n : Int) - 1)) rfl (by omega) (by omega) ?_
  refine E_callL (p' := 11) (L0 := [some (aI (k)), some (aI 0), some (aI ((n : Int) - 1))]) rfl rfl rfl ?_
  refine m_in (fun h_1 h_2 => ?_) (fun h_3 => ?_)
  · refine E_go (p' := 11) (L' := [some (aA 124), some (aI (k))]) (st' := [aI 1]) rfl rfl rfl ?_
    refine E_s (p' := 14) rfl rfl ?_
    refine E_s (p' := 15) (st' := aA 124 :: _) rfl rfl ?_
    refine E_gA (b := 161) rfl rfl rfl rfl rfl rfl ?_
    refine E_s (p' := 19) (st' := aI (k) :: _) rfl rfl ?_
    refine E_ald (e := (k).toNat) (N := 2) (v := ((m 161 (k).toNat))) rfl rfl (by omega) (by omega) rfl ?_
    refine E_s (p' := 24) rfl rfl ?_
    refine E_ret rfl rfl ?_
    exact q _
  · refine E_go (p' := 11) (L' := [some (aA 124), some (aI (k))]) (st' := [aI 0]) rfl rfl rfl ?_
    refine E_s (p' := 23) rfl rfl ?_
    refine E_s (p' := 24) (st' := aI (-1) :: _) rfl rfl ?_
    refine E_ret rfl rfl ?_
    exact q _
theorem M_grouping {n : Nat} (hn : n ≤ 300) (h50 : m 124 50 = (n : Int)) (q : ∀ v : Int, Q (some (aI v)) (m, tl len)) : E 179 0 [some (aA 124), some (aI (k)), some (aI (w))] [] (m, tl len) Q := by
  refine E_s (p' := 1) (st' := aI (k) :: _) rfl rfl ?_
  refine E_s (p' := 2) (st' := aI 0 :: _) rfl rfl ?_
  refine E_s (p' := 3) (st' := aA 124 :: _) rfl rfl ?_
  refine E_gI (v := ((n : Nat) : Int)) rfl rfl rfl rfl h50 ?_
  refine E_s (p' := 7) (st' := aI 1 :: _) rfl rfl ?_
  refine E_sub (v := ((n : Int) - 1)) rfl (by omega) (by omega) ?_
  refine E_callL (p' := 11) (L0 := [some (aI (k)), some (aI 0), some (aI ((n : Int) - 1))]) rfl rfl rfl ?_
  refine m_in (fun h_1 h_2 => ?_) (fun h_3 => ?_)
  · refine E_go (p' := 11) (L' := [some (aA 124), some (aI (k)), some (aI (w))]) (st' := [aI 1]) rfl rfl rfl ?_
    refine E_s (p' := 16) rfl rfl ?_
    refine E_s (p' := 17) (st' := aI (w) :: _) rfl rfl ?_
    refine E_if_ne (x := (w)) rfl (by decide) (fun h_4 => ?_) (fun h_4 => ?_)
    · refine E_go (p' := 29) (L' := [some (aA 124), some (aI (k)), some (aI (w))]) (st' := []) rfl rfl rfl ?_
      refine E_s (p' := 30) (st' := aI (w) :: _) rfl rfl ?_
      refine E_s (p' := 31) (st' := aI 1 :: _) rfl rfl ?_
      refine E_icmp_ne (x := (w)) (y := 1) rfl (by decide) (fun h_5 => ?_) (fun h_5 => ?_)
      · refine E_go (p' := 43) (L' := [some (aA 124), some (aI (k)), some (aI (w))]) (st' := []) rfl rfl rfl ?_
        refine E_s (p' := 44) (st' := aI (-1) :: _) rfl rfl ?_
        refine E_ret rfl rfl ?_
        exact q _
      · refine E_go (p' := 34) (L' := [some (aA 124), some (aI (k)), some (aI (w))]) (st' := []) rfl rfl rfl ?_
        refine E_s (p' := 35) (st' := aA 124 :: _) rfl rfl ?_
        refine E_gA (b := 166) rfl rfl rfl rfl rfl rfl ?_
        refine E_s (p' := 39) (st' := aI (k) :: _) rfl rfl ?_
        refine E_ald (e := (k).toNat) (N := 300) (v := ((m 166 (k).toNat))) rfl rfl (by omega) (by omega) rfl ?_
        refine E_s (p' := 44) rfl rfl ?_
        refine E_ret rfl rfl ?_
        exact q _
    · refine E_go (p' := 20) (L' := [some (aA 124), some (aI (k)), some (aI (w))]) (st' := []) rfl rfl rfl ?_
      refine E_s (p' := 21) (st' := aA 124 :: _) rfl rfl ?_
      refine E_gA (b := 165) rfl rfl rfl rfl rfl rfl ?_
      refine E_s (p' := 25) (st' := aI (k) :: _) rfl rfl ?_
      refine E_ald (e := (k).toNat) (N := 300) (v := ((m 165 (k).toNat))) rfl rfl (by omega) (by omega) rfl ?_
      refine E_s (p' := 44) rfl rfl ?_
      refine E_ret rfl rfl ?_
      exact q _
  · refine E_go (p' := 11) (L' := [some (aA 124), some (aI (k)), some (aI (w))]) (st' := [aI 0]) rfl rfl rfl ?_
    refine E_s (p' := 14) rfl rfl ?_
    refine E_s (p' := 15) (st' := aI (-1) :: _) rfl rfl ?_
    refine E_ret rfl rfl ?_
    exact q _
end
