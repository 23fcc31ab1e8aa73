section
variable {len : Nat} {m m0 : Mm} {Q : Option AV → Sx → Prop} {R : RD} {i c X : Nat} {y : KR}
theorem yl_ke (hi : i < 4) (hV : VR R) (hc : c < Cn R) (hM : MR R i m0) (hk : ∀ m1 : Mm, (∀ e, e < Ck R c → m1 150 e = (ht (Cp R c e) : Int) ∧ m1 151 e = (so (Cp R c e) : Int) ∧ m1 152 e = (tu (Cp R c e) : Int)) → (∀ b j, b ≠ 150 → b ≠ 151 → b ≠ 152 → m1 b j = m0 b j) → E 159 145 [some (aA 124), some (aI ((i : Nat) : Int)), some (aI ((c : Nat) : Int)), some (aI ((X : Nat) : Int)), some (aI ((60 * i + c : Nat) : Int)), some (aI ((Ck R c : Nat) : Int)), some (aI ((Ck R c : Nat) : Int)), none] [] (m1, tl len) Q) : ∀ (d : Nat) (k : Nat) (m : Mm), (Ck R c < k + d) → (k ≤ Ck R c) → (∀ e, e < k → m 150 e = (ht (Cp R c e) : Int) ∧ m 151 e = (so (Cp R c e) : Int) ∧ m 152 e = (tu (Cp R c e) : Int)) → (∀ b j, b ≠ 150 → b ≠ 151 → b ≠ 152 → m b j = m0 b j) → E 159 72 [some (aA 124), some (aI ((i : Nat) : Int)), some (aI ((c : Nat) : Int)), some (aI ((X : Nat) : Int)), some (aI ((60 * i + c : Nat) : Int)), some (aI ((Ck R c : Nat) : Int)), some (aI ((k : Nat) : Int)), none] [] (m, tl len) Q := by
  intro d
  induction d with
  | zero => intro k m hd hk9 I1 I2; omega
  | succ d ih =>
    intro k m hd hk9 I1 I2
    have hn60 := hV.1
    have hk30 := (hV.2.2.1 c hc).2.2.2.2.2
    have hMm : MR R i m := hM.of (fun b j g1 g2 => I2 b j (by omega) (by omega) (by omega))
    refine E_s (p' := 74) (st' := aI ((k : Nat) : Int) :: _) rfl rfl ?_
    refine E_s (p' := 76) (st' := aI ((Ck R c : Nat) : Int) :: _) rfl rfl ?_
    refine E_icmp_ge (x := ((k : Nat) : Int)) (y := ((Ck R c : Nat) : Int)) rfl (by decide) (fun h_1 => ?_) (fun h_1 => ?_)
    · refine E_go (p' := 145) (L' := [some (aA 124), some (aI ((i : Nat) : Int)), some (aI ((c : Nat) : Int)), some (aI ((X : Nat) : Int)), some (aI ((60 * i + c : Nat) : Int)), some (aI ((Ck R c : Nat) : Int)), some (aI ((k : Nat) : Int)), none]) (st' := []) rfl rfl rfl ?_
      have ek : k = Ck R c := by omega
      subst ek
      exact hk m I1 I2
    · refine E_go (p' := 79) (L' := [some (aA 124), some (aI ((i : Nat) : Int)), some (aI ((c : Nat) : Int)), some (aI ((X : Nat) : Int)), some (aI ((60 * i + c : Nat) : Int)), some (aI ((Ck R c : Nat) : Int)), some (aI ((k : Nat) : Int)), none]) (st' := []) rfl rfl rfl ?_
      refine E_s (p' := 80) (st' := aA 124 :: _) rfl rfl ?_
      refine E_gA (b := 150) rfl rfl rfl rfl rfl rfl ?_
      refine E_s (p' := 85) (st' := aI ((k : Nat) : Int) :: _) rfl rfl ?_
      refine E_s (p' := 86) (st' := aA 124 :: _) rfl rfl ?_
      refine E_gA (b := 133) rfl rfl rfl rfl rfl rfl ?_
      refine E_s (p' := 91) (st' := aI 30 :: _) rfl rfl ?_
      refine E_s (p' := 93) (st' := aI ((60 * i + c : Nat) : Int) :: _) rfl rfl ?_
      refine E_mul (v := ((1800 * i + 30 * c : Nat) : Int)) rfl (by omega) (by omega) ?_
      refine E_s (p' := 96) (st' := aI ((k : Nat) : Int) :: _) rfl rfl ?_
      refine E_add (v := ((1800 * i + 30 * c + k : Nat) : Int)) rfl (by omega) (by omega) ?_
      refine E_ald (e := 1800 * i + 30 * c + k) (N := 7200) (v := ((ht (Cp R c k) : Nat) : Int)) rfl rfl (rfl) (by omega) (MR_133 hMm (by omega) (by omega) (by omega)) ?_
      refine E_ast (e := k) (N := 30) rfl rfl (rfl) (by omega) ?_
      refine E_s (p' := 100) (st' := aA 124 :: _) rfl rfl ?_
      refine E_gA (b := 151) rfl rfl rfl rfl rfl rfl ?_
      refine E_s (p' := 105) (st' := aI ((k : Nat) : Int) :: _) rfl rfl ?_
      refine E_s (p' := 106) (st' := aA 124 :: _) rfl rfl ?_
      refine E_gA (b := 134) rfl rfl rfl rfl rfl rfl ?_
      refine E_s (p' := 111) (st' := aI 30 :: _) rfl rfl ?_
      refine E_s (p' := 113) (st' := aI ((60 * i + c : Nat) : Int) :: _) rfl rfl ?_
      refine E_mul (v := ((1800 * i + 30 * c : Nat) : Int)) rfl (by omega) (by omega) ?_
      refine E_s (p' := 116) (st' := aI ((k : Nat) : Int) :: _) rfl rfl ?_
      refine E_add (v := ((1800 * i + 30 * c + k : Nat) : Int)) rfl (by omega) (by omega) ?_
      refine E_ald (e := 1800 * i + 30 * c + k) (N := 7200) (v := ((so (Cp R c k) : Nat) : Int)) rfl rfl (rfl) (by omega) ((up2_ne (by omega)).trans ((MR_134 hMm (by omega) (by omega) (by omega)))) ?_
      refine E_ast (e := k) (N := 30) rfl rfl (rfl) (by omega) ?_
      refine E_s (p' := 120) (st' := aA 124 :: _) rfl rfl ?_
      refine E_gA (b := 152) rfl rfl rfl rfl rfl rfl ?_
      refine E_s (p' := 125) (st' := aI ((k : Nat) : Int) :: _) rfl rfl ?_
      refine E_s (p' := 126) (st' := aA 124 :: _) rfl rfl ?_
      refine E_gA (b := 135) rfl rfl rfl rfl rfl rfl ?_
      refine E_s (p' := 131) (st' := aI 30 :: _) rfl rfl ?_
      refine E_s (p' := 133) (st' := aI ((60 * i + c : Nat) : Int) :: _) rfl rfl ?_
      refine E_mul (v := ((1800 * i + 30 * c : Nat) : Int)) rfl (by omega) (by omega) ?_
      refine E_s (p' := 136) (st' := aI ((k : Nat) : Int) :: _) rfl rfl ?_
      refine E_add (v := ((1800 * i + 30 * c + k : Nat) : Int)) rfl (by omega) (by omega) ?_
      refine E_ald (e := 1800 * i + 30 * c + k) (N := 7200) (v := ((tu (Cp R c k) : Nat) : Int)) rfl rfl (rfl) (by omega) ((up2_ne (by omega)).trans ((up2_ne (by omega)).trans ((MR_135 hMm (by omega) (by omega) (by omega))))) ?_
      refine E_ast (e := k) (N := 30) rfl rfl (rfl) (by omega) ?_
      refine E_inc (x := ((k : Nat) : Int)) (w := ((k + 1 : Nat) : Int)) (L' := [some (aA 124), some (aI ((i : Nat) : Int)), some (aI ((c : Nat) : Int)), some (aI ((X : Nat) : Int)), some (aI ((60 * i + c : Nat) : Int)), some (aI ((Ck R c : Nat) : Int)), some (aI ((k + 1 : Nat) : Int)), none]) rfl rfl rfl (by omega) (by omega) rfl ?_
      refine E_s (p' := 72) rfl rfl ?_
      refine ih (k + 1) _ (by omega) (by omega) (fun e he => ?_) (fun b j g1 g2 g3 => (up2_ne g3).trans ((up2_ne g2).trans ((up2_ne g1).trans (I2 b j g1 g2 g3))))
      by_cases g : e = k
      · subst g
        exact ⟨(up2_ne (by omega)).trans ((up2_ne (by omega)).trans up2_eq), (up2_ne (by omega)).trans up2_eq, up2_eq⟩
      · obtain ⟨g1, g2, g3⟩ := I1 e (by omega)
        exact ⟨(up2_ne (by omega)).trans ((up2_ne (by omega)).trans ((up2_sl g).trans g1)), (up2_ne (by omega)).trans ((up2_sl g).trans ((up2_ne (by omega)).trans g2)), (up2_sl g).trans ((up2_ne (by omega)).trans ((up2_ne (by omega)).trans g3))⟩
theorem yl_bk (hi : i < 4) (hV : VR R) (hc : c < Cn R) (hX : okK R c y) (hM : MR (Rkn R c y.1 y.2) i m0) (hK : ∀ e, e < Ck R c → m0 150 e = (ht (Cp R c e) : Int) ∧ m0 151 e = (so (Cp R c e) : Int) ∧ m0 152 e = (tu (Cp R c e) : Int)) (q : ∀ m1 : Mm, MR R i m1 → Mx i m0 m1 → Fx 132 135 m0 m1 → Q (some (aI (-1))) (m1, tl len))  : ∀ (d : Nat) (k : Nat) (m : Mm) (o : Bool), (Ck R c < k + d) → (k ≤ Ck R c) → (m 132 (60 * i + c) = (Ck R c : Int)) → (∀ e, e < k → m 133 (1800 * i + 30 * c + e) = (ht (Cp R c e) : Int) ∧ m 134 (1800 * i + 30 * c + e) = (so (Cp R c e) : Int) ∧ m 135 (1800 * i + 30 * c + e) = (tu (Cp R c e) : Int)) → (∀ b z, ¬ (b = 132 ∧ z = 60 * i + c) → ¬ (133 ≤ b ∧ b ≤ 135 ∧ 1800 * i + 30 * c ≤ z ∧ z < 1800 * i + 30 * c + 30) → m b z = m0 b z) → E 159 259 [some (aA 124), some (aI ((i : Nat) : Int)), some (aI ((c : Nat) : Int)), some (aI ((X : Nat) : Int)), some (aI ((60 * i + c : Nat) : Int)), some (aI ((Ck R c : Nat) : Int)), some (aI (bi o)), some (aI ((k : Nat) : Int))] [] (m, tl len) Q := by
  intro d
  induction d with
  | zero => intro k m o hd hk9 I1 I2 I3; omega
  | succ d ih =>
    intro k m o hd hk9 I1 I2 I3
    have hn60 := hV.1
    have hk30 := (hV.2.2.1 c hc).2.2.2.2.2
    refine E_s (p' := 261) (st' := aI ((k : Nat) : Int) :: _) rfl rfl ?_
    refine E_s (p' := 263) (st' := aI ((Ck R c : Nat) : Int) :: _) rfl rfl ?_
    refine E_icmp_ge (x := ((k : Nat) : Int)) (y := ((Ck R c : Nat) : Int)) rfl (by decide) (fun h_1 => ?_) (fun h_1 => ?_)
    · refine E_go (p' := 332) (L' := [some (aA 124), some (aI ((i : Nat) : Int)), some (aI ((c : Nat) : Int)), some (aI ((X : Nat) : Int)), some (aI ((60 * i + c : Nat) : Int)), some (aI ((Ck R c : Nat) : Int)), some (aI (bi o)), some (aI ((k : Nat) : Int))]) (st' := []) rfl rfl rfl ?_
      refine E_s (p' := 333) (st' := aI (-1) :: _) rfl rfl ?_
      refine E_ret rfl rfl ?_
      have ek : k = Ck R c := by omega
      have hR9 := MR.kn (P := Cp R c) (n := Ck R c) (c := c) hM hX hk30 I1 (fun e he => I2 e (by omega)) (fun b z g1 g2 g3 g4 => I3 b z g3 g4)
      rw [Rkn_kn, Rkn_self] at hR9
      exact q m hR9 (fun b z hb => I3 b z (fun g => hb (by unfold blk; omega)) (fun g => hb (by unfold blk; omega))) (fun b z hb => I3 b z (by omega) (by omega))
    · refine E_go (p' := 266) (L' := [some (aA 124), some (aI ((i : Nat) : Int)), some (aI ((c : Nat) : Int)), some (aI ((X : Nat) : Int)), some (aI ((60 * i + c : Nat) : Int)), some (aI ((Ck R c : Nat) : Int)), some (aI (bi o)), some (aI ((k : Nat) : Int))]) (st' := []) rfl rfl rfl ?_
      refine E_s (p' := 267) (st' := aA 124 :: _) rfl rfl ?_
      refine E_gA (b := 133) rfl rfl rfl rfl rfl rfl ?_
      refine E_s (p' := 272) (st' := aI 30 :: _) rfl rfl ?_
      refine E_s (p' := 274) (st' := aI ((60 * i + c : Nat) : Int) :: _) rfl rfl ?_
      refine E_mul (v := ((1800 * i + 30 * c : Nat) : Int)) rfl (by omega) (by omega) ?_
      refine E_s (p' := 277) (st' := aI ((k : Nat) : Int) :: _) rfl rfl ?_
      refine E_add (v := ((1800 * i + 30 * c + k : Nat) : Int)) rfl (by omega) (by omega) ?_
      refine E_s (p' := 279) (st' := aA 124 :: _) rfl rfl ?_
      refine E_gA (b := 150) rfl rfl rfl rfl rfl rfl ?_
      refine E_s (p' := 284) (st' := aI ((k : Nat) : Int) :: _) rfl rfl ?_
      refine E_ald (e := k) (N := 30) (v := ((ht (Cp R c k) : Nat) : Int)) rfl rfl (rfl) (by omega) ((I3 _ _ (by omega) (by omega)).trans (hK _ (by omega)).1) ?_
      refine E_ast (e := 1800 * i + 30 * c + k) (N := 7200) rfl rfl (rfl) (by omega) ?_
      refine E_s (p' := 287) (st' := aA 124 :: _) rfl rfl ?_
      refine E_gA (b := 134) rfl rfl rfl rfl rfl rfl ?_
      refine E_s (p' := 292) (st' := aI 30 :: _) rfl rfl ?_
      refine E_s (p' := 294) (st' := aI ((60 * i + c : Nat) : Int) :: _) rfl rfl ?_
      refine E_mul (v := ((1800 * i + 30 * c : Nat) : Int)) rfl (by omega) (by omega) ?_
      refine E_s (p' := 297) (st' := aI ((k : Nat) : Int) :: _) rfl rfl ?_
      refine E_add (v := ((1800 * i + 30 * c + k : Nat) : Int)) rfl (by omega) (by omega) ?_
      refine E_s (p' := 299) (st' := aA 124 :: _) rfl rfl ?_
      refine E_gA (b := 151) rfl rfl rfl rfl rfl rfl ?_
      refine E_s (p' := 304) (st' := aI ((k : Nat) : Int) :: _) rfl rfl ?_
      refine E_ald (e := k) (N := 30) (v := ((so (Cp R c k) : Nat) : Int)) rfl rfl (rfl) (by omega) ((up2_ne (by omega)).trans (((I3 _ _ (by omega) (by omega)).trans (hK _ (by omega)).2.1))) ?_
      refine E_ast (e := 1800 * i + 30 * c + k) (N := 7200) rfl rfl (rfl) (by omega) ?_
      refine E_s (p' := 307) (st' := aA 124 :: _) rfl rfl ?_
      refine E_gA (b := 135) rfl rfl rfl rfl rfl rfl ?_
      refine E_s (p' := 312) (st' := aI 30 :: _) rfl rfl ?_
      refine E_s (p' := 314) (st' := aI ((60 * i + c : Nat) : Int) :: _) rfl rfl ?_
      refine E_mul (v := ((1800 * i + 30 * c : Nat) : Int)) rfl (by omega) (by omega) ?_
      refine E_s (p' := 317) (st' := aI ((k : Nat) : Int) :: _) rfl rfl ?_
      refine E_add (v := ((1800 * i + 30 * c + k : Nat) : Int)) rfl (by omega) (by omega) ?_
      refine E_s (p' := 319) (st' := aA 124 :: _) rfl rfl ?_
      refine E_gA (b := 152) rfl rfl rfl rfl rfl rfl ?_
      refine E_s (p' := 324) (st' := aI ((k : Nat) : Int) :: _) rfl rfl ?_
      refine E_ald (e := k) (N := 30) (v := ((tu (Cp R c k) : Nat) : Int)) rfl rfl (rfl) (by omega) ((up2_ne (by omega)).trans ((up2_ne (by omega)).trans (((I3 _ _ (by omega) (by omega)).trans (hK _ (by omega)).2.2)))) ?_
      refine E_ast (e := 1800 * i + 30 * c + k) (N := 7200) rfl rfl (rfl) (by omega) ?_
      refine E_inc (x := ((k : Nat) : Int)) (w := ((k + 1 : Nat) : Int)) (L' := [some (aA 124), some (aI ((i : Nat) : Int)), some (aI ((c : Nat) : Int)), some (aI ((X : Nat) : Int)), some (aI ((60 * i + c : Nat) : Int)), some (aI ((Ck R c : Nat) : Int)), some (aI (bi o)), some (aI ((k + 1 : Nat) : Int))]) rfl rfl rfl (by omega) (by omega) rfl ?_
      refine E_s (p' := 259) rfl rfl ?_
      refine ih (k + 1) _ o (by omega) (by omega) ((up2_ne (by omega)).trans ((up2_ne (by omega)).trans ((up2_ne (by omega)).trans I1))) (fun e he => ?_) (fun b z g1 g2 => (up2_o (by omega)).trans ((up2_o (by omega)).trans ((up2_o (by omega)).trans (I3 b z g1 g2))))
      by_cases g : e = k
      · subst g
        exact ⟨(up2_ne (by omega)).trans ((up2_ne (by omega)).trans up2_eq), (up2_ne (by omega)).trans up2_eq, up2_eq⟩
      · obtain ⟨g1, g2, g3⟩ := I2 e (by omega)
        exact ⟨(up2_ne (by omega)).trans ((up2_ne (by omega)).trans ((up2_sl (by omega)).trans g1)), (up2_ne (by omega)).trans ((up2_sl (by omega)).trans ((up2_ne (by omega)).trans g2)), (up2_sl (by omega)).trans ((up2_ne (by omega)).trans ((up2_ne (by omega)).trans g3))⟩
theorem m_back (hi : i < 4) (hV : VR R) (hc : c < Cn R) (hX : okK R c y) (hM : MR (Rkn R c y.1 y.2) i m0) (hK : ∀ e, e < Ck R c → m0 150 e = (ht (Cp R c e) : Int) ∧ m0 151 e = (so (Cp R c e) : Int) ∧ m0 152 e = (tu (Cp R c e) : Int)) (q : ∀ m1 : Mm, MR R i m1 → Mx i m0 m1 → Fx 132 135 m0 m1 → Q (some (aI (-1))) (m1, tl len)) {o : Bool} {x7 : Option AV} : E 159 247 [some (aA 124), some (aI ((i : Nat) : Int)), some (aI ((c : Nat) : Int)), some (aI ((X : Nat) : Int)), some (aI ((60 * i + c : Nat) : Int)), some (aI ((Ck R c : Nat) : Int)), some (aI (bi o)), x7] [] (m0, tl len) Q := by
  have hn60 := hV.1
  have hk30 := (hV.2.2.1 c hc).2.2.2.2.2
  refine E_s (p' := 248) (st' := aA 124 :: _) rfl rfl ?_
  refine E_gA (b := 132) rfl rfl rfl rfl rfl rfl ?_
  refine E_s (p' := 253) (st' := aI ((60 * i + c : Nat) : Int) :: _) rfl rfl ?_
  refine E_s (p' := 255) (st' := aI ((Ck R c : Nat) : Int) :: _) rfl rfl ?_
  refine E_ast (e := 60 * i + c) (N := 240) rfl rfl (rfl) (by omega) ?_
  refine E_s (p' := 257) (st' := aI 0 :: _) rfl rfl ?_
  refine E_s (p' := 259) (L' := [some (aA 124), some (aI ((i : Nat) : Int)), some (aI ((c : Nat) : Int)), some (aI ((X : Nat) : Int)), some (aI ((60 * i + c : Nat) : Int)), some (aI ((Ck R c : Nat) : Int)), some (aI (bi o)), some (aI 0)]) rfl rfl ?_
  exact yl_bk hi hV hc hX hM hK q (Ck R c + 1) 0 _ o (by omega) (by omega) up2_eq (fun e he => absurd he (Nat.not_lt_zero _)) (fun b z g1 g2 => up2_o g1)
theorem yl_cm (hi : i < 4) (hV : VR R) (hc : c < Cn R) (hM : MR (Rkn R c y.1 y.2) i m) (h1 : ∀ d, d < Cn R → m 148 d = Rtd (Rkn R c y.1 y.2) d) (h2 : ∀ d, d < Cn R → m 149 d = Rtd R d) (hk : ∀ o : Bool, (o = true → tdD R (Rkn R c y.1 y.2) c (X : Int)) → (o = false → ¬ tdD R (Rkn R c y.1 y.2) c (X : Int)) → E 159 235 [some (aA 124), some (aI ((i : Nat) : Int)), some (aI ((c : Nat) : Int)), some (aI ((X : Nat) : Int)), some (aI ((60 * i + c : Nat) : Int)), some (aI ((Ck R c : Nat) : Int)), some (aI (bi o)), some (aI ((Cn R : Nat) : Int))] [] (m, tl len) Q)  : ∀ (d : Nat) (t : Nat) (o : Bool), (Cn R < t + d) → (t ≤ Cn R) → (o = true → ∀ e, e < t → Rtd (Rkn R c y.1 y.2) e = if e = c then (X : Int) else Rtd R e) → (o = false → ¬ (∀ e, e < t → Rtd (Rkn R c y.1 y.2) e = if e = c then (X : Int) else Rtd R e)) → E 159 179 [some (aA 124), some (aI ((i : Nat) : Int)), some (aI ((c : Nat) : Int)), some (aI ((X : Nat) : Int)), some (aI ((60 * i + c : Nat) : Int)), some (aI ((Ck R c : Nat) : Int)), some (aI (bi o)), some (aI ((t : Nat) : Int))] [] (m, tl len) Q := by
  intro d
  induction d with
  | zero => intro t o hd ht9 I1 I2; omega
  | succ d ih =>
    intro t o hd ht9 I1 I2
    have hn60 := hV.1
    refine E_s (p' := 181) (st' := aI ((t : Nat) : Int) :: _) rfl rfl ?_
    refine E_s (p' := 182) (st' := aA 124 :: _) rfl rfl ?_
    refine E_gA (b := 125) rfl rfl rfl rfl rfl rfl ?_
    refine E_s (p' := 186) (st' := aI ((i : Nat) : Int) :: _) rfl rfl ?_
    refine E_ald (e := i) (N := 4) (v := ((Cn R : Nat) : Int)) rfl rfl (rfl) (by omega) (MR_125 (R := Rkn R c y.1 y.2) hM) ?_
    refine E_icmp_ge (x := ((t : Nat) : Int)) (y := ((Cn R : Nat) : Int)) rfl (by decide) (fun h_1 => ?_) (fun h_1 => ?_)
    · refine E_go (p' := 235) (L' := [some (aA 124), some (aI ((i : Nat) : Int)), some (aI ((c : Nat) : Int)), some (aI ((X : Nat) : Int)), some (aI ((60 * i + c : Nat) : Int)), some (aI ((Ck R c : Nat) : Int)), some (aI (bi o)), some (aI ((t : Nat) : Int))]) (st' := []) rfl rfl rfl ?_
      have et : t = Cn R := by omega
      subst et
      exact hk o (fun g => I1 g) (fun g => I2 g)
    · refine E_go (p' := 190) (L' := [some (aA 124), some (aI ((i : Nat) : Int)), some (aI ((c : Nat) : Int)), some (aI ((X : Nat) : Int)), some (aI ((60 * i + c : Nat) : Int)), some (aI ((Ck R c : Nat) : Int)), some (aI (bi o)), some (aI ((t : Nat) : Int))]) (st' := []) rfl rfl rfl ?_
      refine E_s (p' := 192) (st' := aI (bi o) :: _) rfl rfl ?_
      refine E_b_eq0 (b := o) rfl (by decide) (fun h_2 => ?_) (fun h_2 => ?_)
      · refine E_go (p' := 226) (L' := [some (aA 124), some (aI ((i : Nat) : Int)), some (aI ((c : Nat) : Int)), some (aI ((X : Nat) : Int)), some (aI ((60 * i + c : Nat) : Int)), some (aI ((Ck R c : Nat) : Int)), some (aI (bi o)), some (aI ((t : Nat) : Int))]) (st' := []) rfl rfl rfl ?_
        refine E_s (p' := 227) (st' := aI 0 :: _) rfl rfl ?_
        refine E_s (p' := 229) (L' := [some (aA 124), some (aI ((i : Nat) : Int)), some (aI ((c : Nat) : Int)), some (aI ((X : Nat) : Int)), some (aI ((60 * i + c : Nat) : Int)), some (aI ((Ck R c : Nat) : Int)), some (aI 0), some (aI ((t : Nat) : Int))]) rfl rfl ?_
        refine E_inc (x := ((t : Nat) : Int)) (w := ((t + 1 : Nat) : Int)) (L' := [some (aA 124), some (aI ((i : Nat) : Int)), some (aI ((c : Nat) : Int)), some (aI ((X : Nat) : Int)), some (aI ((60 * i + c : Nat) : Int)), some (aI ((Ck R c : Nat) : Int)), some (aI 0), some (aI ((t + 1 : Nat) : Int))]) rfl rfl rfl (by omega) (by omega) rfl ?_
        refine E_s (p' := 179) rfl rfl ?_
        refine ih (t + 1) false (by omega) (by omega) (fun g => absurd g (by decide)) (fun _ g => ?_)
        first
        | exact I2 (by assumption) (fun e he => g e (by omega))
        | (have g9 := g t (by omega); first | (rw [if_pos (by omega)] at g9; exact absurd g9 (by assumption)) | (rw [if_neg (by omega)] at g9; exact absurd g9 (by assumption)))
      · refine E_go (p' := 195) (L' := [some (aA 124), some (aI ((i : Nat) : Int)), some (aI ((c : Nat) : Int)), some (aI ((X : Nat) : Int)), some (aI ((60 * i + c : Nat) : Int)), some (aI ((Ck R c : Nat) : Int)), some (aI (bi o)), some (aI ((t : Nat) : Int))]) (st' := []) rfl rfl rfl ?_
        refine E_s (p' := 196) (st' := aA 124 :: _) rfl rfl ?_
        refine E_gA (b := 148) rfl rfl rfl rfl rfl rfl ?_
        refine E_s (p' := 201) (st' := aI ((t : Nat) : Int) :: _) rfl rfl ?_
        refine E_ald (e := t) (N := 60) (v := ((Rtd (Rkn R c y.1 y.2) t))) rfl rfl (rfl) (by omega) (h1 _ (by omega)) ?_
        refine E_s (p' := 204) (st' := aI ((t : Nat) : Int) :: _) rfl rfl ?_
        refine E_s (p' := 205) (st' := aI ((c : Nat) : Int) :: _) rfl rfl ?_
        refine E_icmp_ne (x := ((t : Nat) : Int)) (y := ((c : Nat) : Int)) rfl (by decide) (fun h_3 => ?_) (fun h_3 => ?_)
        · refine E_go (p' := 212) (L' := [some (aA 124), some (aI ((i : Nat) : Int)), some (aI ((c : Nat) : Int)), some (aI ((X : Nat) : Int)), some (aI ((60 * i + c : Nat) : Int)), some (aI ((Ck R c : Nat) : Int)), some (aI (bi o)), some (aI ((t : Nat) : Int))]) (st' := [aI ((Rtd (Rkn R c y.1 y.2) t))]) rfl rfl rfl ?_
          refine E_s (p' := 213) (st' := aA 124 :: _) rfl rfl ?_
          refine E_gA (b := 149) rfl rfl rfl rfl rfl rfl ?_
          refine E_s (p' := 218) (st' := aI ((t : Nat) : Int) :: _) rfl rfl ?_
          refine E_ald (e := t) (N := 60) (v := ((Rtd R t))) rfl rfl (rfl) (by omega) (h2 _ (by omega)) ?_
          refine E_icmp_ne (x := ((Rtd (Rkn R c y.1 y.2) t))) (y := ((Rtd R t))) rfl (by decide) (fun h_4 => ?_) (fun h_4 => ?_)
          · refine E_go (p' := 226) (L' := [some (aA 124), some (aI ((i : Nat) : Int)), some (aI ((c : Nat) : Int)), some (aI ((X : Nat) : Int)), some (aI ((60 * i + c : Nat) : Int)), some (aI ((Ck R c : Nat) : Int)), some (aI (bi o)), some (aI ((t : Nat) : Int))]) (st' := []) rfl rfl rfl ?_
            refine E_s (p' := 227) (st' := aI 0 :: _) rfl rfl ?_
            refine E_s (p' := 229) (L' := [some (aA 124), some (aI ((i : Nat) : Int)), some (aI ((c : Nat) : Int)), some (aI ((X : Nat) : Int)), some (aI ((60 * i + c : Nat) : Int)), some (aI ((Ck R c : Nat) : Int)), some (aI 0), some (aI ((t : Nat) : Int))]) rfl rfl ?_
            refine E_inc (x := ((t : Nat) : Int)) (w := ((t + 1 : Nat) : Int)) (L' := [some (aA 124), some (aI ((i : Nat) : Int)), some (aI ((c : Nat) : Int)), some (aI ((X : Nat) : Int)), some (aI ((60 * i + c : Nat) : Int)), some (aI ((Ck R c : Nat) : Int)), some (aI 0), some (aI ((t + 1 : Nat) : Int))]) rfl rfl rfl (by omega) (by omega) rfl ?_
            refine E_s (p' := 179) rfl rfl ?_
            refine ih (t + 1) false (by omega) (by omega) (fun g => absurd g (by decide)) (fun _ g => ?_)
            first
            | exact I2 (by assumption) (fun e he => g e (by omega))
            | (have g9 := g t (by omega); first | (rw [if_pos (by omega)] at g9; exact absurd g9 (by assumption)) | (rw [if_neg (by omega)] at g9; exact absurd g9 (by assumption)))
          · refine E_go (p' := 222) (L' := [some (aA 124), some (aI ((i : Nat) : Int)), some (aI ((c : Nat) : Int)), some (aI ((X : Nat) : Int)), some (aI ((60 * i + c : Nat) : Int)), some (aI ((Ck R c : Nat) : Int)), some (aI (bi o)), some (aI ((t : Nat) : Int))]) (st' := []) rfl rfl rfl ?_
            refine E_s (p' := 223) (st' := aI 1 :: _) rfl rfl ?_
            refine E_s (p' := 227) rfl rfl ?_
            refine E_s (p' := 229) (L' := [some (aA 124), some (aI ((i : Nat) : Int)), some (aI ((c : Nat) : Int)), some (aI ((X : Nat) : Int)), some (aI ((60 * i + c : Nat) : Int)), some (aI ((Ck R c : Nat) : Int)), some (aI 1), some (aI ((t : Nat) : Int))]) rfl rfl ?_
            refine E_inc (x := ((t : Nat) : Int)) (w := ((t + 1 : Nat) : Int)) (L' := [some (aA 124), some (aI ((i : Nat) : Int)), some (aI ((c : Nat) : Int)), some (aI ((X : Nat) : Int)), some (aI ((60 * i + c : Nat) : Int)), some (aI ((Ck R c : Nat) : Int)), some (aI 1), some (aI ((t + 1 : Nat) : Int))]) rfl rfl rfl (by omega) (by omega) rfl ?_
            refine E_s (p' := 179) rfl rfl ?_
            refine ih (t + 1) true (by omega) (by omega) (fun _ e he => ?_) (fun g => absurd g (by decide))
            by_cases g : e = t
            · subst g
              first | (rw [if_pos (by omega)]; assumption) | (rw [if_neg (by omega)]; assumption)
            · exact I1 (by assumption) e (by omega)
        · refine E_go (p' := 208) (L' := [some (aA 124), some (aI ((i : Nat) : Int)), some (aI ((c : Nat) : Int)), some (aI ((X : Nat) : Int)), some (aI ((60 * i + c : Nat) : Int)), some (aI ((Ck R c : Nat) : Int)), some (aI (bi o)), some (aI ((t : Nat) : Int))]) (st' := [aI ((Rtd (Rkn R c y.1 y.2) t))]) rfl rfl rfl ?_
          refine E_s (p' := 209) (st' := aI ((X : Nat) : Int) :: _) rfl rfl ?_
          refine E_s (p' := 219) rfl rfl ?_
          refine E_icmp_ne (x := ((Rtd (Rkn R c y.1 y.2) t))) (y := ((X : Nat) : Int)) rfl (by decide) (fun h_5 => ?_) (fun h_5 => ?_)
          · refine E_go (p' := 226) (L' := [some (aA 124), some (aI ((i : Nat) : Int)), some (aI ((c : Nat) : Int)), some (aI ((X : Nat) : Int)), some (aI ((60 * i + c : Nat) : Int)), some (aI ((Ck R c : Nat) : Int)), some (aI (bi o)), some (aI ((t : Nat) : Int))]) (st' := []) rfl rfl rfl ?_
            refine E_s (p' := 227) (st' := aI 0 :: _) rfl rfl ?_
            refine E_s (p' := 229) (L' := [some (aA 124), some (aI ((i : Nat) : Int)), some (aI ((c : Nat) : Int)), some (aI ((X : Nat) : Int)), some (aI ((60 * i + c : Nat) : Int)), some (aI ((Ck R c : Nat) : Int)), some (aI 0), some (aI ((t : Nat) : Int))]) rfl rfl ?_
            refine E_inc (x := ((t : Nat) : Int)) (w := ((t + 1 : Nat) : Int)) (L' := [some (aA 124), some (aI ((i : Nat) : Int)), some (aI ((c : Nat) : Int)), some (aI ((X : Nat) : Int)), some (aI ((60 * i + c : Nat) : Int)), some (aI ((Ck R c : Nat) : Int)), some (aI 0), some (aI ((t + 1 : Nat) : Int))]) rfl rfl rfl (by omega) (by omega) rfl ?_
            refine E_s (p' := 179) rfl rfl ?_
            refine ih (t + 1) false (by omega) (by omega) (fun g => absurd g (by decide)) (fun _ g => ?_)
            first
            | exact I2 (by assumption) (fun e he => g e (by omega))
            | (have g9 := g t (by omega); first | (rw [if_pos (by omega)] at g9; exact absurd g9 (by assumption)) | (rw [if_neg (by omega)] at g9; exact absurd g9 (by assumption)))
          · refine E_go (p' := 222) (L' := [some (aA 124), some (aI ((i : Nat) : Int)), some (aI ((c : Nat) : Int)), some (aI ((X : Nat) : Int)), some (aI ((60 * i + c : Nat) : Int)), some (aI ((Ck R c : Nat) : Int)), some (aI (bi o)), some (aI ((t : Nat) : Int))]) (st' := []) rfl rfl rfl ?_
            refine E_s (p' := 223) (st' := aI 1 :: _) rfl rfl ?_
            refine E_s (p' := 227) rfl rfl ?_
            refine E_s (p' := 229) (L' := [some (aA 124), some (aI ((i : Nat) : Int)), some (aI ((c : Nat) : Int)), some (aI ((X : Nat) : Int)), some (aI ((60 * i + c : Nat) : Int)), some (aI ((Ck R c : Nat) : Int)), some (aI 1), some (aI ((t : Nat) : Int))]) rfl rfl ?_
            refine E_inc (x := ((t : Nat) : Int)) (w := ((t + 1 : Nat) : Int)) (L' := [some (aA 124), some (aI ((i : Nat) : Int)), some (aI ((c : Nat) : Int)), some (aI ((X : Nat) : Int)), some (aI ((60 * i + c : Nat) : Int)), some (aI ((Ck R c : Nat) : Int)), some (aI 1), some (aI ((t + 1 : Nat) : Int))]) rfl rfl rfl (by omega) (by omega) rfl ?_
            refine E_s (p' := 179) rfl rfl ?_
            refine ih (t + 1) true (by omega) (by omega) (fun _ e he => ?_) (fun g => absurd g (by decide))
            by_cases g : e = t
            · subst g
              first | (rw [if_pos (by omega)]; assumption) | (rw [if_neg (by omega)]; assumption)
            · exact I1 (by assumption) e (by omega)
end
section
variable {len : Nat} {m : Mm} {Q : Option AV → Sx → Prop} {S : Nat → RD} {r c x : Int}
theorem M_tie (hS : MS S m) (q : ∀ m1, MS (on1 S r (-2) (oTie c x)).2 m1 → Co1 m m1 → Q (some (aI (on1 S r (-2) (oTie c x)).1)) (m1, tl len)) : E 159 0 [some (aA 124), some (aI (r)), some (aI (c)), some (aI (x)), none, none, none, none] [] (m, tl len) Q := by
  refine E_s (p' := 1) (st' := aA 124 :: _) rfl rfl ?_
  refine E_s (p' := 2) (st' := aI (r) :: _) rfl rfl ?_
  refine E_s (p' := 3) (st' := aI (c) :: _) rfl rfl ?_
  refine E_callV (k' := 135) (a := 124) (r := []) (L0 := [some (aA 124), some (aI (r)), some (aI (c))]) rfl rfl rfl rfl rfl rfl rfl rfl rfl rfl ?_
  refine m_isCord hS (fun i ci hi hr hc hcc => ?_) (fun hno => ?_)
  · refine E_go (p' := 6) (L' := [some (aA 124), some (aI (r)), some (aI (c)), some (aI (x)), none, none, none, none]) (st' := [aI 1]) rfl rfl rfl ?_
    obtain ⟨hV, hM⟩ := hS i hi
    have hn60 := hV.1
    have hs40 := hV.2.2.2.2.1
    subst hr hc
    refine E_s (p' := 9) rfl rfl ?_
    refine E_s (p' := 10) (st' := aI (x) :: _) rfl rfl ?_
    refine E_s (p' := 11) (st' := aI 0 :: _) rfl rfl ?_
    refine E_s (p' := 13) (st' := aI 999999 :: _) rfl rfl ?_
    refine E_callL (p' := 16) (L0 := [some (aI (x)), some (aI 0), some (aI 999999)]) rfl rfl rfl ?_
    refine m_in (fun hr1 hr2 => ?_) (fun hr0 => ?_)
    · refine E_go (p' := 16) (L' := [some (aA 124), some (aI ((i : Nat) : Int)), some (aI ((ci : Nat) : Int)), some (aI (x)), none, none, none, none]) (st' := [aI 1]) rfl rfl rfl ?_
      refine E_s (p' := 22) rfl rfl ?_
      obtain ⟨xn, ex⟩ : ∃ y : Nat, x = (y : Int) := ⟨x.toNat, by omega⟩
      subst ex
      have hctz := Ctz_c (S i) ci
      have hn60 := hV.1
      have hk30 := (hV.2.2.1 ci hcc).2.2.2.2.2
      refine E_s (p' := 24) (st' := aI 60 :: _) rfl rfl ?_
      refine E_s (p' := 25) (st' := aI ((i : Nat) : Int) :: _) rfl rfl ?_
      refine E_mul (v := ((60 * i : Nat) : Int)) rfl (by omega) (by omega) ?_
      refine E_s (p' := 27) (st' := aI ((ci : Nat) : Int) :: _) rfl rfl ?_
      refine E_add (v := ((60 * i + ci : Nat) : Int)) rfl (by omega) (by omega) ?_
      refine E_s (p' := 30) (L' := [some (aA 124), some (aI ((i : Nat) : Int)), some (aI ((ci : Nat) : Int)), some (aI ((xn : Nat) : Int)), some (aI ((60 * i + ci : Nat) : Int)), none, none, none]) rfl rfl ?_
      refine E_s (p' := 31) (st' := aA 124 :: _) rfl rfl ?_
      refine E_gA (b := 131) rfl rfl rfl rfl rfl rfl ?_
      refine E_s (p' := 36) (st' := aI ((60 * i + ci : Nat) : Int) :: _) rfl rfl ?_
      refine E_ald (e := 60 * i + ci) (N := 240) (v := (((Ctz (S i) ci)))) rfl rfl (rfl) (by omega) (MR_131 hM (by omega) (by omega)) ?_
      refine E_s (p' := 38) (st' := aI (-1) :: _) rfl rfl ?_
      refine E_icmp_ne (x := (((Ctz (S i) ci)))) (y := (-1)) rfl (by decide) (fun h_1 => ?_) (fun h_1 => ?_)
      · refine E_go (p' := 49) (L' := [some (aA 124), some (aI ((i : Nat) : Int)), some (aI ((ci : Nat) : Int)), some (aI ((xn : Nat) : Int)), some (aI ((60 * i + ci : Nat) : Int)), none, none, none]) (st' := []) rfl rfl rfl ?_
        refine E_s (p' := 50) (st' := aI (-1) :: _) rfl rfl ?_
        refine E_ret rfl rfl ?_
        exact finM_same hS hi rfl q (by unfold oTie; (try simp only [Int.toNat_natCast]); rw [cif_pos (by unfold inC; omega), cif_neg (by omega)]) hS (fun _ _ _ => rfl)
      · refine E_go (p' := 41) (L' := [some (aA 124), some (aI ((i : Nat) : Int)), some (aI ((ci : Nat) : Int)), some (aI ((xn : Nat) : Int)), some (aI ((60 * i + ci : Nat) : Int)), none, none, none]) (st' := []) rfl rfl rfl ?_
        refine E_s (p' := 42) (st' := aA 124 :: _) rfl rfl ?_
        refine E_s (p' := 43) (st' := aI ((i : Nat) : Int) :: _) rfl rfl ?_
        refine E_callV (k' := 147) (a := 124) (r := []) (L0 := [some (aA 124), some (aI ((i : Nat) : Int)), none, none]) rfl rfl rfl rfl rfl rfl rfl rfl rfl rfl ?_
        refine m_read hi hM hV (fun m1 K1 hd1 => ?_)
        refine E_go (p' := 46) (L' := [some (aA 124), some (aI ((i : Nat) : Int)), some (aI ((ci : Nat) : Int)), some (aI ((xn : Nat) : Int)), some (aI ((60 * i + ci : Nat) : Int)), none, none, none]) (st' := [aI (bi (decide (0 < RL (S i))))]) rfl rfl rfl ?_
        have hM1 := K1.MR hM
        have X1 : Mx i m m1 := fun b j hb => K1 b j (by unfold blk at hb; omega) (by unfold blk at hb; omega)
        have Y1 : Co1 m m1 := K1.Co1
        refine E_b_ne0 (b := (decide (0 < RL (S i)))) rfl (by decide) (fun h_2 => ?_) (fun h_2 => ?_)
        · refine E_go (p' := 51) (L' := [some (aA 124), some (aI ((i : Nat) : Int)), some (aI ((ci : Nat) : Int)), some (aI ((xn : Nat) : Int)), some (aI ((60 * i + ci : Nat) : Int)), none, none, none]) (st' := []) rfl rfl rfl ?_
          refine E_s (p' := 52) (st' := aA 124 :: _) rfl rfl ?_
          refine E_s (p' := 53) (st' := aI ((i : Nat) : Int) :: _) rfl rfl ?_
          refine E_s (p' := 54) (st' := aA 124 :: _) rfl rfl ?_
          refine E_gA (b := 149) rfl rfl rfl rfl rfl rfl ?_
          refine E_callV (k' := 157) (a := 124) (r := []) (L0 := [some (aA 124), some (aI ((i : Nat) : Int)), some (aA 149), none]) rfl rfl rfl rfl rfl rfl rfl rfl rfl rfl ?_
          refine m_readAll hi (Or.inr rfl) hM1 hV (fun m2 K2 hd2 hn2 => ?_)
          refine E_go (p' := 60) (L' := [some (aA 124), some (aI ((i : Nat) : Int)), some (aI ((ci : Nat) : Int)), some (aI ((xn : Nat) : Int)), some (aI ((60 * i + ci : Nat) : Int)), none, none, none]) (st' := []) rfl rfl rfl ?_
          have hM2 : MR (S i) i m2 := hM1.of (fun b j g1 g2 => K2 b j (by omega) (by omega) (by omega))
          refine E_s (p' := 61) (st' := aA 124 :: _) rfl rfl ?_
          refine E_gA (b := 132) rfl rfl rfl rfl rfl rfl ?_
          refine E_s (p' := 66) (st' := aI ((60 * i + ci : Nat) : Int) :: _) rfl rfl ?_
          refine E_ald (e := 60 * i + ci) (N := 240) (v := ((Ck (S i) ci : Nat) : Int)) rfl rfl (rfl) (by omega) (MR_132 hM2 hcc rfl) ?_
          refine E_s (p' := 69) (L' := [some (aA 124), some (aI ((i : Nat) : Int)), some (aI ((ci : Nat) : Int)), some (aI ((xn : Nat) : Int)), some (aI ((60 * i + ci : Nat) : Int)), some (aI ((Ck (S i) ci : Nat) : Int)), none, none]) rfl rfl ?_
          refine E_s (p' := 70) (st' := aI 0 :: _) rfl rfl ?_
          refine E_s (p' := 72) (L' := [some (aA 124), some (aI ((i : Nat) : Int)), some (aI ((ci : Nat) : Int)), some (aI ((xn : Nat) : Int)), some (aI ((60 * i + ci : Nat) : Int)), some (aI ((Ck (S i) ci : Nat) : Int)), some (aI 0), none]) rfl rfl ?_
          refine yl_ke (R := S i) (c := ci) (X := xn) (m0 := m2) hi hV hcc hM2 (fun m3 D1 D2 => ?_) (Ck (S i) ci + 1) 0 m2 (by omega) (by omega) (fun e he => absurd he (Nat.not_lt_zero _)) (fun _ _ _ _ _ => rfl)
          have hM3 : MR (S i) i m3 := hM2.of (fun b j g1 g2 => D2 b j (by omega) (by omega) (by omega))
          have X3 : Mx i m (up2 m3 132 (60 * i + ci) 0) := (fun b j hb => (up2_o (fun g => hb (by unfold blk; omega))).trans ((D2 b j (by unfold blk at hb; omega) (by unfold blk at hb; omega) (by unfold blk at hb; omega)).trans ((K2 b j (by unfold blk at hb; omega) (by unfold blk at hb; omega) (by unfold blk at hb; omega)).trans (X1 b j hb))))
          have Y3 : Co1 m (up2 m3 132 (60 * i + ci) 0) := (fun b j hb => (up2_ne (by omega)).trans ((D2 b j (by omega) (by omega) (by omega)).trans ((K2 b j (by omega) (by omega) (by omega)).trans (Y1 b j hb))))
          refine E_s (p' := 146) (st' := aA 124 :: _) rfl rfl ?_
          refine E_gA (b := 132) rfl rfl rfl rfl rfl rfl ?_
          refine E_s (p' := 151) (st' := aI ((60 * i + ci : Nat) : Int) :: _) rfl rfl ?_
          refine E_s (p' := 152) (st' := aI 0 :: _) rfl rfl ?_
          refine E_ast (e := 60 * i + ci) (N := 240) rfl rfl (rfl) (by omega) ?_
          refine E_s (p' := 154) (st' := aA 124 :: _) rfl rfl ?_
          refine E_s (p' := 156) (st' := aI ((60 * i + ci : Nat) : Int) :: _) rfl rfl ?_
          refine E_s (p' := 157) (st' := aI ((xn : Nat) : Int) :: _) rfl rfl ?_
          refine E_callV (k' := 160) (a := 124) (r := []) (L0 := [some (aA 124), some (aI ((60 * i + ci : Nat) : Int)), some (aI ((xn : Nat) : Int)), none, none, none, none, none, none, none, none, none]) rfl rfl rfl rfl rfl rfl rfl rfl rfl rfl ?_
          refine m_ties (R := S i) (c := ci) (X := xn) (m0 := (up2 m3 132 (60 * i + ci) 0)) hi hV hcc (by omega) (hd2.of (fun b j hb => (up2_ne (by omega)).trans (D2 b j (by omega) (by omega) (by omega)))) (of_decide_eq_true (by assumption)) (by omega) (MR.kn (m := m3) hM3 hV (by omega) up2_eq (fun e he => absurd he (Nat.not_lt_zero _)) (fun b j g1 g2 g3 g4 => up2_o g3)) (fun m4 y hpl hk9 => ?_) (fun m4 y hpl hk9 => ?_)
          · refine E_go (p' := 160) (L' := [some (aA 124), some (aI ((i : Nat) : Int)), some (aI ((ci : Nat) : Int)), some (aI ((xn : Nat) : Int)), some (aI ((60 * i + ci : Nat) : Int)), some (aI ((Ck (S i) ci : Nat) : Int)), some (aI ((Ck (S i) ci : Nat) : Int)), none]) (st' := [aI 1]) rfl rfl rfl ?_
            refine E_s (p' := 162) (L' := [some (aA 124), some (aI ((i : Nat) : Int)), some (aI ((ci : Nat) : Int)), some (aI ((xn : Nat) : Int)), some (aI ((60 * i + ci : Nat) : Int)), some (aI ((Ck (S i) ci : Nat) : Int)), some (aI 1), none]) rfl rfl ?_
            refine E_s (p' := 164) (st' := aI 1 :: _) rfl rfl ?_
            refine E_s (p' := 167) rfl rfl ?_
            refine E_s (p' := 168) (st' := aA 124 :: _) rfl rfl ?_
            refine E_s (p' := 169) (st' := aI ((i : Nat) : Int) :: _) rfl rfl ?_
            refine E_s (p' := 170) (st' := aA 124 :: _) rfl rfl ?_
            refine E_gA (b := 148) rfl rfl rfl rfl rfl rfl ?_
            refine E_callV (k' := 157) (a := 124) (r := []) (L0 := [some (aA 124), some (aI ((i : Nat) : Int)), some (aA 148), none]) rfl rfl rfl rfl rfl rfl rfl rfl rfl rfl ?_
            refine m_readAll (R := Rkn (S i) ci y.1 y.2) hi (Or.inl rfl) hk9.2.1 hk9.1 (fun m5 K5 hd5 hn5 => ?_)
            refine E_go (p' := 176) (L' := [some (aA 124), some (aI ((i : Nat) : Int)), some (aI ((ci : Nat) : Int)), some (aI ((xn : Nat) : Int)), some (aI ((60 * i + ci : Nat) : Int)), some (aI ((Ck (S i) ci : Nat) : Int)), some (aI 1), none]) (st' := []) rfl rfl rfl ?_
            have hM5 : MR (Rkn (S i) ci y.1 y.2) i m5 := hk9.2.1.of (fun b j g1 g2 => K5 b j (by omega) (by omega) (by omega))
            refine E_s (p' := 177) (st' := aI 0 :: _) rfl rfl ?_
            refine E_s (p' := 179) (L' := [some (aA 124), some (aI ((i : Nat) : Int)), some (aI ((ci : Nat) : Int)), some (aI ((xn : Nat) : Int)), some (aI ((60 * i + ci : Nat) : Int)), some (aI ((Ck (S i) ci : Nat) : Int)), some (aI 1), some (aI 0)]) rfl rfl ?_
            have X4 : Mx i m m4 := X3.tr hk9.2.2.1
            have Y4 : Co1 m m4 := fun b j hb => (hk9.2.2.2 b j (by omega)).trans (Y3 b j hb)
            have X5 : Mx i m m5 := X4.tr (fun b j hb => K5 b j (by unfold blk at hb; omega) (by unfold blk at hb; omega) (by unfold blk at hb; omega))
            have Y5 : Co1 m m5 := fun b j hb => (K5 b j (by omega) (by omega) (by omega)).trans (Y4 b j hb)
            refine yl_cm (R := S i) (c := ci) (X := xn) (y := y) hi hV hcc hM5 hn5 (fun d hd => (K5 _ _ (by omega) (by omega) (by omega)).trans ((hk9.2.2.2 _ _ (by omega)).trans ((up2_ne (by omega)).trans ((D2 _ _ (by omega) (by omega) (by omega)).trans (hn2 d hd))))) (fun o c1 c0 => ?_) (Cn (S i) + 1) 0 true (by omega) (by omega) (fun _ e he => absurd he (Nat.not_lt_zero _)) (fun g => absurd g (by decide))
            refine E_s (p' := 237) (st' := aI (bi o) :: _) rfl rfl ?_
            refine E_b_eq0 (b := o) rfl (by decide) (fun h_3 => ?_) (fun h_3 => ?_)
            · refine E_go (p' := 247) (L' := [some (aA 124), some (aI ((i : Nat) : Int)), some (aI ((ci : Nat) : Int)), some (aI ((xn : Nat) : Int)), some (aI ((60 * i + ci : Nat) : Int)), some (aI ((Ck (S i) ci : Nat) : Int)), some (aI (bi o)), some (aI ((Cn (S i) : Nat) : Int))]) (st' := []) rfl rfl rfl ?_
              refine m_back (R := S i) (c := ci) (X := xn) (y := y) (o := o) hi hV hcc hk9.1 hM5 (fun e he => ⟨((K5 _ _ (by omega) (by omega) (by omega)).trans ((hk9.2.2.2 _ _ (by omega)).trans (up2_ne (by omega)))).trans (D1 e he).1, ((K5 _ _ (by omega) (by omega) (by omega)).trans ((hk9.2.2.2 _ _ (by omega)).trans (up2_ne (by omega)))).trans (D1 e he).2.1, ((K5 _ _ (by omega) (by omega) (by omega)).trans ((hk9.2.2.2 _ _ (by omega)).trans (up2_ne (by omega)))).trans (D1 e he).2.2⟩) (fun m6 B1 B2 B3 => ?_)
              exact finMx hS hi rfl q (by unfold oTie; simp only [Int.toNat_natCast]; rw [cif_pos (by unfold inC; omega), cif_pos (by omega)]; unfold tieN; rw [hpl]; exact cif_neg (c0 (by assumption))) hV B1 (X5.tr B2) (fun b j hb => (B3 b j (by omega)).trans (Y5 b j hb))
            · refine E_go (p' := 240) (L' := [some (aA 124), some (aI ((i : Nat) : Int)), some (aI ((ci : Nat) : Int)), some (aI ((xn : Nat) : Int)), some (aI ((60 * i + ci : Nat) : Int)), some (aI ((Ck (S i) ci : Nat) : Int)), some (aI (bi o)), some (aI ((Cn (S i) : Nat) : Int))]) (st' := []) rfl rfl rfl ?_
              refine E_s (p' := 241) (st' := aA 124 :: _) rfl rfl ?_
              refine E_s (p' := 242) (st' := aI ((i : Nat) : Int) :: _) rfl rfl ?_
              refine E_callV (k' := 133) (a := 124) (r := []) (L0 := [some (aA 124), some (aI ((i : Nat) : Int))]) rfl rfl rfl rfl rfl rfl rfl rfl rfl rfl ?_
              refine m_changes (i := i) (by omega) ?_
              refine E_go (p' := 245) (L' := [some (aA 124), some (aI ((i : Nat) : Int)), some (aI ((ci : Nat) : Int)), some (aI ((xn : Nat) : Int)), some (aI ((60 * i + ci : Nat) : Int)), some (aI ((Ck (S i) ci : Nat) : Int)), some (aI (bi o)), some (aI ((Cn (S i) : Nat) : Int))]) (st' := []) rfl rfl rfl ?_
              refine E_s (p' := 246) (st' := aI ((xn : Nat) : Int) :: _) rfl rfl ?_
              refine E_ret rfl rfl ?_
              exact finMx hS hi rfl q (by unfold oTie; (try simp only [Int.toNat_natCast]); rw [cif_pos (by unfold inC; omega), cif_pos (by omega)]; unfold tieN; rw [hpl]; exact cif_pos (c1 (by assumption))) hk9.1 (hM5.of (fun b j g1 g2 => up2_ne (by omega))) (X5.up (by unfold blk; omega)) (fun b j hb => (up2_ne (by omega)).trans (Y5 b j hb))
          · refine E_go (p' := 160) (L' := [some (aA 124), some (aI ((i : Nat) : Int)), some (aI ((ci : Nat) : Int)), some (aI ((xn : Nat) : Int)), some (aI ((60 * i + ci : Nat) : Int)), some (aI ((Ck (S i) ci : Nat) : Int)), some (aI ((Ck (S i) ci : Nat) : Int)), none]) (st' := [aI 0]) rfl rfl rfl ?_
            refine E_s (p' := 162) (L' := [some (aA 124), some (aI ((i : Nat) : Int)), some (aI ((ci : Nat) : Int)), some (aI ((xn : Nat) : Int)), some (aI ((60 * i + ci : Nat) : Int)), some (aI ((Ck (S i) ci : Nat) : Int)), some (aI 0), none]) rfl rfl ?_
            refine E_s (p' := 164) (st' := aI 0 :: _) rfl rfl ?_
            refine E_s (p' := 235) rfl rfl ?_
            refine E_s (p' := 237) (st' := aI 0 :: _) rfl rfl ?_
            refine E_s (p' := 247) rfl rfl ?_
            have X4 : Mx i m m4 := X3.tr hk9.2.2.1
            have Y4 : Co1 m m4 := fun b j hb => (hk9.2.2.2 b j (by omega)).trans (Y3 b j hb)
            refine m_back (R := S i) (c := ci) (X := xn) (y := y) (o := false) hi hV hcc hk9.1 hk9.2.1 (fun e he => ⟨((hk9.2.2.2 _ _ (by omega)).trans (up2_ne (by omega))).trans (D1 e he).1, ((hk9.2.2.2 _ _ (by omega)).trans (up2_ne (by omega))).trans (D1 e he).2.1, ((hk9.2.2.2 _ _ (by omega)).trans (up2_ne (by omega))).trans (D1 e he).2.2⟩) (fun m6 B1 B2 B3 => ?_)
            exact finMx hS hi rfl q (by unfold oTie; simp only [Int.toNat_natCast]; rw [cif_pos (by unfold inC; omega), cif_pos (by omega)]; unfold tieN; rw [hpl]) hV B1 (X4.tr B2) (fun b j hb => (B3 b j (by omega)).trans (Y4 b j hb))
        · refine E_go (p' := 49) (L' := [some (aA 124), some (aI ((i : Nat) : Int)), some (aI ((ci : Nat) : Int)), some (aI ((xn : Nat) : Int)), some (aI ((60 * i + ci : Nat) : Int)), none, none, none]) (st' := []) rfl rfl rfl ?_
          refine E_s (p' := 50) (st' := aI (-1) :: _) rfl rfl ?_
          refine E_ret rfl rfl ?_
          exact finM_same hS hi rfl q (by unfold oTie; (try simp only [Int.toNat_natCast]); rw [cif_pos (by unfold inC; omega), cif_pos (by omega)]; unfold tieN; rw [show plN (S i) ci xn = none by unfold plN; exact cif_neg (fun g => absurd g.1 (of_decide_eq_false (by assumption)))]) (K1.MS hS) Y1
    · refine E_go (p' := 16) (L' := [some (aA 124), some (aI ((i : Nat) : Int)), some (aI ((ci : Nat) : Int)), some (aI (x)), none, none, none, none]) (st' := [aI 0]) rfl rfl rfl ?_
      refine E_s (p' := 19) rfl rfl ?_
      refine E_s (p' := 21) (st' := aI (-2) :: _) rfl rfl ?_
      refine E_ret rfl rfl ?_
      exact finM_same hS hi rfl q (by unfold oTie; (try simp only [Int.toNat_natCast]); rw [cif_neg (by first | (unfold inC; omega) | exact fun g9 => absurd g9.2 (by omega))]) hS (fun _ _ _ => rfl)
  · refine E_go (p' := 6) (L' := [some (aA 124), some (aI (r)), some (aI (c)), some (aI (x)), none, none, none, none]) (st' := [aI 0]) rfl rfl rfl ?_
    refine E_s (p' := 19) rfl rfl ?_
    refine E_s (p' := 21) (st' := aI (-2) :: _) rfl rfl ?_
    refine E_ret rfl rfl ?_
    rcases hno with hr | ⟨i, hi, hr, hno⟩
    · exact finM_out hS q hr
    · exact finM_same hS hi hr q (by unfold oTie; rw [cif_neg (fun g9 => hno g9.1)]) hS (fun _ _ _ => rfl)
end
