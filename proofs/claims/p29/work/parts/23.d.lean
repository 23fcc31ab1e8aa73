section
variable {len : Nat} {m : Mm} {Q : Option AV → Sx → Prop} {x y : Int}
theorem m_greater (q1 : y < x → Q (some (aI x)) (m, tl len)) (q0 : x ≤ y → Q (some (aI y)) (m, tl len)) : E 169 0 [some (aI (x)), some (aI (y))] [] (m, tl len) Q := by
  refine E_s (p' := 1) (st' := aI (x) :: _) rfl rfl ?_
  refine E_s (p' := 2) (st' := aI (y) :: _) rfl rfl ?_
  refine E_icmp_le (x := (x)) (y := (y)) rfl (by decide) (fun h_1 => ?_) (fun h_1 => ?_)
  · refine E_go (p' := 9) (L' := [some (aI (x)), some (aI (y))]) (st' := []) rfl rfl rfl ?_
    refine E_s (p' := 10) (st' := aI (y) :: _) rfl rfl ?_
    refine E_ret rfl rfl ?_
    first | exact q1 (by omega) | exact q0 (by omega)
  · refine E_go (p' := 5) (L' := [some (aI (x)), some (aI (y))]) (st' := []) rfl rfl rfl ?_
    refine E_s (p' := 6) (st' := aI (x) :: _) rfl rfl ?_
    refine E_s (p' := 10) rfl rfl ?_
    refine E_ret rfl rfl ?_
    first | exact q1 (by omega) | exact q0 (by omega)
theorem m_less (q1 : x < y → Q (some (aI x)) (m, tl len)) (q0 : y ≤ x → Q (some (aI y)) (m, tl len)) : E 170 0 [some (aI (x)), some (aI (y))] [] (m, tl len) Q := by
  refine E_s (p' := 1) (st' := aI (x) :: _) rfl rfl ?_
  refine E_s (p' := 2) (st' := aI (y) :: _) rfl rfl ?_
  refine E_icmp_ge (x := (x)) (y := (y)) rfl (by decide) (fun h_1 => ?_) (fun h_1 => ?_)
  · refine E_go (p' := 9) (L' := [some (aI (x)), some (aI (y))]) (st' := []) rfl rfl rfl ?_
    refine E_s (p' := 10) (st' := aI (y) :: _) rfl rfl ?_
    refine E_ret rfl rfl ?_
    first | exact q1 (by omega) | exact q0 (by omega)
  · refine E_go (p' := 5) (L' := [some (aI (x)), some (aI (y))]) (st' := []) rfl rfl rfl ?_
    refine E_s (p' := 6) (st' := aI (x) :: _) rfl rfl ?_
    refine E_s (p' := 10) rfl rfl ?_
    refine E_ret rfl rfl ?_
    first | exact q1 (by omega) | exact q0 (by omega)
end
theorem sdR_v {R : RD} {c : Nat} (h : sdR R c = true) : Rft R c = 0 ∧ Rtd R c = (Rvl R c : Int) := by
  unfold sdR at h
  rw [Bool.and_eq_true] at h
  have h2 := of_decide_eq_true h.2
  exact ⟨h2, by unfold Rtd; rw [if_pos h2]⟩
/-- nothing but the model's scratch has changed: reading, numbers, others, rows of likeness -/
def FrL (m m' : Mm) : Prop := ∀ b z, ¬ (b = 124 ∧ 19 ≤ z ∧ z ≤ 29) → ¬ (141 ≤ b ∧ b ≤ 149) → ¬ (167 ≤ b ∧ b ≤ 168) → m' b z = m b z
theorem FrL.rf {m : Mm} : FrL m m := fun _ _ _ _ _ => rfl
theorem FrL.tr {m m' m'' : Mm} (h : FrL m m') (h' : FrL m' m'') : FrL m m'' := fun b z g1 g2 g3 => (h' b z g1 g2 g3).trans (h b z g1 g2 g3)
theorem FrL.up {m m' : Mm} {a i : Nat} {x : Int} (h : FrL m m') (ha : (141 ≤ a ∧ a ≤ 149) ∨ (167 ≤ a ∧ a ≤ 168)) : FrL m (up2 m' a i x) := fun b z g1 g2 g3 => (up2_ne (by omega)).trans (h b z g1 g2 g3)
theorem FrL.MS {S : Nat → RD} {m m' : Mm} (h : FrL m m') (hS : MS S m) : MS S m' := hS.of (fun b j g1 g2 => h b j (by omega) (by omega) (by omega))
theorem FrL.MR {R : RD} {i : Nat} {m m' : Mm} (h : FrL m m') (hM : MR R i m) : MR R i m' := hM.of (fun b j g1 g2 => h b j (by omega) (by omega) (by omega))
theorem FrL.Co1 {m m' : Mm} (h : FrL m m') : Co1 m m' := fun b j hb => h b j (by omega) (by omega) (by omega)
section
variable {len : Nat} {m0 : Mm} {Q : Option AV → Sx → Prop} {R O : RD} {i k : Nat}
theorem yl_lA (hi : i < 4) (hM : MR R i m0) (hV : VR R) (hnm : ∀ d, d < Cn R → m0 148 d = Rtd R d) (hk : ∀ m1 : Mm, (∀ b z, b ≠ 168 → m1 b z = m0 b z) → (∀ d, d < Cn R → m1 168 d = bi (sdR R d)) → E 181 56 [some (aA 124), some (aI (i : Int)), some (aI (k : Int)), some (aI (Cn R : Int)), none, none, none, none] [] (m1, tl len) Q) : ∀ (d : Nat) (c : Nat) (m : Mm), (Cn R < c + d) → (c ≤ Cn R) → (∀ b z, b ≠ 168 → m b z = m0 b z) → (∀ d, d < c → m 168 d = bi (sdR R d)) → E 181 28 [some (aA 124), some (aI ((i : Nat) : Int)), some (aI ((k : Nat) : Int)), some (aI ((c : Nat) : Int)), none, none, none, none] [] (m, tl len) Q := by
  intro d
  induction d with
  | zero => intro c m hd hc I0 I1; omega
  | succ d ih =>
    intro c m hd hc I0 I1
    have hn60 := hV.1
    have hMm : MR R i m := hM.of (fun b j g1 g2 => I0 b j (by omega))
    refine E_s (p' := 29) (st' := aI ((c : Nat) : Int) :: _) rfl rfl ?_
    refine E_s (p' := 30) (st' := aA 124 :: _) rfl rfl ?_
    refine E_gA (b := 125) rfl rfl rfl rfl rfl rfl ?_
    refine E_s (p' := 34) (st' := aI ((i : Nat) : Int) :: _) rfl rfl ?_
    refine E_ald (e := i) (N := 4) (v := ((Cn R : Nat) : Int)) rfl rfl (rfl) (by omega) (MR_125 hMm) ?_
    refine E_icmp_ge (x := ((c : Nat) : Int)) (y := ((Cn R : Nat) : Int)) rfl (by decide) (fun h_1 => ?_) (fun h_1 => ?_)
    · refine E_go (p' := 56) (L' := [some (aA 124), some (aI ((i : Nat) : Int)), some (aI ((k : Nat) : Int)), some (aI ((c : Nat) : Int)), none, none, none, none]) (st' := []) rfl rfl rfl ?_
      have e9 : c = Cn R := by omega
      subst e9
      exact hk m I0 I1
    · refine E_go (p' := 38) (L' := [some (aA 124), some (aI ((i : Nat) : Int)), some (aI ((k : Nat) : Int)), some (aI ((c : Nat) : Int)), none, none, none, none]) (st' := []) rfl rfl rfl ?_
      refine E_s (p' := 39) (st' := aA 124 :: _) rfl rfl ?_
      refine E_gA (b := 168) rfl rfl rfl rfl rfl rfl ?_
      refine E_s (p' := 43) (st' := aI ((c : Nat) : Int) :: _) rfl rfl ?_
      refine E_s (p' := 44) (st' := aA 124 :: _) rfl rfl ?_
      refine E_s (p' := 45) (st' := aI ((i : Nat) : Int) :: _) rfl rfl ?_
      refine E_s (p' := 46) (st' := aI ((c : Nat) : Int) :: _) rfl rfl ?_
      refine E_callV (k' := 158) (a := 124) (r := [aI ((c : Nat) : Int), aA 168]) (L0 := [some (aA 124), some (aI ((i : Nat) : Int)), some (aI ((c : Nat) : Int))]) rfl rfl rfl rfl rfl rfl rfl rfl rfl rfl ?_
      refine m_isSure hi hMm hV (c := c) (by omega) ((I0 _ _ (by omega)).trans (hnm _ (by omega))) (fun hs1 hs2 => ?_) (fun hs0 => ?_)
      · refine E_go (p' := 49) (L' := [some (aA 124), some (aI ((i : Nat) : Int)), some (aI ((k : Nat) : Int)), some (aI ((c : Nat) : Int)), none, none, none, none]) (st' := [aI 1, aI ((c : Nat) : Int), aA 168]) rfl rfl rfl ?_
        refine E_zst (e := c) (N := 60) rfl rfl (rfl) (by omega) (by decide) ?_
        refine E_inc (x := ((c : Nat) : Int)) (w := ((c + 1 : Nat) : Int)) (L' := [some (aA 124), some (aI ((i : Nat) : Int)), some (aI ((k : Nat) : Int)), some (aI ((c + 1 : Nat) : Int)), none, none, none, none]) rfl rfl rfl (by omega) (by omega) rfl ?_
        refine E_s (p' := 28) rfl rfl ?_
        refine ih (c + 1) _ (by omega) (by omega) (fun b z g1 => (up2_ne g1).trans (I0 b z g1)) (fun d hd9 => ?_)
        by_cases g9 : d = c
        · rw [g9]; exact up2_eq.trans (by rw [sdR_t hs1 hs2]; rfl)
        · exact (up2_sl g9).trans (I1 d (by omega))
      · refine E_go (p' := 49) (L' := [some (aA 124), some (aI ((i : Nat) : Int)), some (aI ((k : Nat) : Int)), some (aI ((c : Nat) : Int)), none, none, none, none]) (st' := [aI 0, aI ((c : Nat) : Int), aA 168]) rfl rfl rfl ?_
        refine E_zst (e := c) (N := 60) rfl rfl (rfl) (by omega) (by decide) ?_
        refine E_inc (x := ((c : Nat) : Int)) (w := ((c + 1 : Nat) : Int)) (L' := [some (aA 124), some (aI ((i : Nat) : Int)), some (aI ((k : Nat) : Int)), some (aI ((c + 1 : Nat) : Int)), none, none, none, none]) rfl rfl rfl (by omega) (by omega) rfl ?_
        refine E_s (p' := 28) rfl rfl ?_
        refine ih (c + 1) _ (by omega) (by omega) (fun b z g1 => (up2_ne g1).trans (I0 b z g1)) (fun d hd9 => ?_)
        by_cases g9 : d = c
        · rw [g9]; exact up2_eq.trans (by rw [sdR_f hs0]; rfl)
        · exact (up2_sl g9).trans (I1 d (by omega))
theorem yl_lB (hi : i < 4) (hM : MR R i m0) (hV : VR R) (hnm : ∀ d, d < Cn R → m0 148 d = Rtd R d) (hk : ∀ m1 : Mm, (∀ b z, b ≠ 149 → m1 b z = m0 b z) → (∀ d, d < Cn R → m1 149 d = Rtd R d) → E 181 86 [some (aA 124), some (aI (i : Int)), some (aI (k : Int)), some (aI (Cn R : Int)), none, none, none, none] [] (m1, tl len) Q) : ∀ (d : Nat) (c : Nat) (m : Mm), (Cn R < c + d) → (c ≤ Cn R) → (∀ b z, b ≠ 149 → m b z = m0 b z) → (∀ d, d < c → m 149 d = Rtd R d) → E 181 58 [some (aA 124), some (aI ((i : Nat) : Int)), some (aI ((k : Nat) : Int)), some (aI ((c : Nat) : Int)), none, none, none, none] [] (m, tl len) Q := by
  intro d
  induction d with
  | zero => intro c m hd hc I0 I1; omega
  | succ d ih =>
    intro c m hd hc I0 I1
    have hn60 := hV.1
    have hMm : MR R i m := hM.of (fun b j g1 g2 => I0 b j (by omega))
    refine E_s (p' := 59) (st' := aI ((c : Nat) : Int) :: _) rfl rfl ?_
    refine E_s (p' := 60) (st' := aA 124 :: _) rfl rfl ?_
    refine E_gA (b := 125) rfl rfl rfl rfl rfl rfl ?_
    refine E_s (p' := 64) (st' := aI ((i : Nat) : Int) :: _) rfl rfl ?_
    refine E_ald (e := i) (N := 4) (v := ((Cn R : Nat) : Int)) rfl rfl (rfl) (by omega) (MR_125 hMm) ?_
    refine E_icmp_ge (x := ((c : Nat) : Int)) (y := ((Cn R : Nat) : Int)) rfl (by decide) (fun h_1 => ?_) (fun h_1 => ?_)
    · refine E_go (p' := 86) (L' := [some (aA 124), some (aI ((i : Nat) : Int)), some (aI ((k : Nat) : Int)), some (aI ((c : Nat) : Int)), none, none, none, none]) (st' := []) rfl rfl rfl ?_
      have e9 : c = Cn R := by omega
      subst e9
      exact hk m I0 I1
    · refine E_go (p' := 68) (L' := [some (aA 124), some (aI ((i : Nat) : Int)), some (aI ((k : Nat) : Int)), some (aI ((c : Nat) : Int)), none, none, none, none]) (st' := []) rfl rfl rfl ?_
      refine E_s (p' := 69) (st' := aA 124 :: _) rfl rfl ?_
      refine E_gA (b := 149) rfl rfl rfl rfl rfl rfl ?_
      refine E_s (p' := 73) (st' := aI ((c : Nat) : Int) :: _) rfl rfl ?_
      refine E_s (p' := 74) (st' := aA 124 :: _) rfl rfl ?_
      refine E_gA (b := 148) rfl rfl rfl rfl rfl rfl ?_
      refine E_s (p' := 78) (st' := aI ((c : Nat) : Int) :: _) rfl rfl ?_
      refine E_ald (e := c) (N := 60) (v := (((Rtd R c)))) rfl rfl (rfl) (by omega) ((I0 _ _ (by omega)).trans (hnm _ (by omega))) ?_
      refine E_ast (e := c) (N := 60) rfl rfl (rfl) (by omega) ?_
      refine E_inc (x := ((c : Nat) : Int)) (w := ((c + 1 : Nat) : Int)) (L' := [some (aA 124), some (aI ((i : Nat) : Int)), some (aI ((k : Nat) : Int)), some (aI ((c + 1 : Nat) : Int)), none, none, none, none]) rfl rfl rfl (by omega) (by omega) rfl ?_
      refine E_s (p' := 58) rfl rfl ?_
      refine ih (c + 1) _ (by omega) (by omega) (fun b z g1 => (up2_ne g1).trans (I0 b z g1)) (fun d hd9 => ?_)
      by_cases g9 : d = c
      · rw [g9]; exact up2_eq
      · exact (up2_sl g9).trans (I1 d (by omega))
theorem yl_lC (hk : ∀ m1 : Mm, (∀ b z, b ≠ 167 → m1 b z = m0 b z) → (∀ d, d < 61 → m1 167 d = 0) → E 181 116 [some (aA 124), some (aI (i : Int)), some (aI (k : Int)), some (aI 61), none, none, none, none] [] (m1, tl len) Q) : ∀ (d : Nat) (c : Nat) (m : Mm), (61 < c + d) → (c ≤ 61) → (∀ b z, b ≠ 167 → m b z = m0 b z) → (∀ d, d < c → m 167 d = 0) → E 181 97 [some (aA 124), some (aI ((i : Nat) : Int)), some (aI ((k : Nat) : Int)), some (aI ((c : Nat) : Int)), none, none, none, none] [] (m, tl len) Q := by
  intro d
  induction d with
  | zero => intro c m hd hc I0 I1; omega
  | succ d ih =>
    intro c m hd hc I0 I1
    refine E_s (p' := 98) (st' := aI ((c : Nat) : Int) :: _) rfl rfl ?_
    refine E_s (p' := 100) (st' := aI 61 :: _) rfl rfl ?_
    refine E_icmp_ge (x := ((c : Nat) : Int)) (y := 61) rfl (by decide) (fun h_1 => ?_) (fun h_1 => ?_)
    · refine E_go (p' := 116) (L' := [some (aA 124), some (aI ((i : Nat) : Int)), some (aI ((k : Nat) : Int)), some (aI ((c : Nat) : Int)), none, none, none, none]) (st' := []) rfl rfl rfl ?_
      have e9 : c = 61 := by omega
      subst e9
      exact hk m I0 I1
    · refine E_go (p' := 103) (L' := [some (aA 124), some (aI ((i : Nat) : Int)), some (aI ((k : Nat) : Int)), some (aI ((c : Nat) : Int)), none, none, none, none]) (st' := []) rfl rfl rfl ?_
      refine E_s (p' := 104) (st' := aA 124 :: _) rfl rfl ?_
      refine E_gA (b := 167) rfl rfl rfl rfl rfl rfl ?_
      refine E_s (p' := 108) (st' := aI ((c : Nat) : Int) :: _) rfl rfl ?_
      refine E_s (p' := 109) (st' := aI 0 :: _) rfl rfl ?_
      refine E_ast (e := c) (N := 61) rfl rfl (rfl) (by omega) ?_
      refine E_inc (x := ((c : Nat) : Int)) (w := ((c + 1 : Nat) : Int)) (L' := [some (aA 124), some (aI ((i : Nat) : Int)), some (aI ((k : Nat) : Int)), some (aI ((c + 1 : Nat) : Int)), none, none, none, none]) rfl rfl rfl (by omega) (by omega) rfl ?_
      refine E_s (p' := 97) rfl rfl ?_
      refine ih (c + 1) _ (by omega) (by omega) (fun b z g1 => (up2_ne g1).trans (I0 b z g1)) (fun d hd9 => ?_)
      by_cases g9 : d = c
      · rw [g9]; exact up2_eq
      · exact (up2_sl g9).trans (I1 d (by omega))
theorem yl_lE (hi : i < 4) (hk4 : k < 4) (hM : MR R i m0) (hMo : MR O k m0) (hV : VR R) (hVo : VR O) (hsu : ∀ d, d < Cn R → m0 168 d = bi (sdR R d)) (hot : ∀ d, d < Cn R → m0 149 d = Rtd R d) (hnm : ∀ d, d < Cn O → m0 148 d = Rtd O d) {x : Nat} (hx : x < Cn R) (hk : ∀ (m1 : Mm) (x4 x5 x6 x7 : Option AV), (∀ b z, b ≠ 167 → m1 b z = m0 b z) → (∀ t, t ≤ Cn O → m1 167 t = (lkR R O (x + 1) t : Int)) → E 181 283 [some (aA 124), some (aI (i : Int)), some (aI (k : Int)), some (aI (x : Int)), x4, x5, x6, x7] [] (m1, tl len) Q) : ∀ (d : Nat) (j : Nat) (m : Mm) (x6 x7 : Option AV), (Cn O < j + d) → (j ≤ Cn O) → (∀ b z, b ≠ 167 → m b z = m0 b z) → (∀ t, t ≤ j → m 167 t = (lkR R O (x + 1) t : Int)) → (∀ t, j < t → t ≤ Cn O → m 167 t = (lkR R O x t : Int)) → E 181 134 [some (aA 124), some (aI ((i : Nat) : Int)), some (aI ((k : Nat) : Int)), some (aI ((x : Nat) : Int)), some (aI ((lkR R O x j : Nat) : Int)), some (aI ((j : Nat) : Int)), x6, x7] [] (m, tl len) Q := by
  intro d
  induction d with
  | zero => intro j m x6 x7 hd hj I0 J1 J2; omega
  | succ d ih =>
    intro j m x6 x7 hd hj I0 J1 J2
    have hn60 := hV.1
    have hn6o := hVo.1
    have hb1 := lkR_b R O x j
    have hb2 := lkR_b R O x (j + 1)
    have hb3 := lkR_b R O (x + 1) j
    have htj := Rtd_n (R := O) (c := j)
    refine E_s (p' := 136) (st' := aI ((j : Nat) : Int) :: _) rfl rfl ?_
    refine E_s (p' := 137) (st' := aA 124 :: _) rfl rfl ?_
    refine E_gA (b := 125) rfl rfl rfl rfl rfl rfl ?_
    refine E_s (p' := 141) (st' := aI ((k : Nat) : Int) :: _) rfl rfl ?_
    refine E_ald (e := k) (N := 4) (v := ((Cn O : Nat) : Int)) rfl rfl (rfl) (by omega) ((I0 _ _ (by omega)).trans (MR_125 hMo)) ?_
    refine E_icmp_ge (x := ((j : Nat) : Int)) (y := ((Cn O : Nat) : Int)) rfl (by decide) (fun h_1 => ?_) (fun h_1 => ?_)
    · refine E_go (p' := 283) (L' := [some (aA 124), some (aI ((i : Nat) : Int)), some (aI ((k : Nat) : Int)), some (aI ((x : Nat) : Int)), some (aI ((lkR R O x j : Nat) : Int)), some (aI ((j : Nat) : Int)), x6, x7]) (st' := []) rfl rfl rfl ?_
      have e9 : j = Cn O := by omega
      subst e9
      exact hk m _ _ x6 x7 I0 J1
    · refine E_go (p' := 145) (L' := [some (aA 124), some (aI ((i : Nat) : Int)), some (aI ((k : Nat) : Int)), some (aI ((x : Nat) : Int)), some (aI ((lkR R O x j : Nat) : Int)), some (aI ((j : Nat) : Int)), x6, x7]) (st' := []) rfl rfl rfl ?_
      refine E_s (p' := 146) (st' := aA 124 :: _) rfl rfl ?_
      refine E_gA (b := 167) rfl rfl rfl rfl rfl rfl ?_
      refine E_s (p' := 151) (st' := aI ((j : Nat) : Int) :: _) rfl rfl ?_
      refine E_s (p' := 152) (st' := aI 1 :: _) rfl rfl ?_
      refine E_add (v := ((j + 1 : Nat) : Int)) rfl (by omega) (by omega) ?_
      refine E_ald (e := j + 1) (N := 61) (v := ((lkR R O x (j + 1) : Nat) : Int)) rfl rfl (rfl) (by omega) (J2 _ (by omega) (by omega)) ?_
      refine E_s (p' := 156) (L' := [some (aA 124), some (aI ((i : Nat) : Int)), some (aI ((k : Nat) : Int)), some (aI ((x : Nat) : Int)), some (aI ((lkR R O x j : Nat) : Int)), some (aI ((j : Nat) : Int)), some (aI ((lkR R O x (j + 1) : Nat) : Int)), x7]) rfl rfl ?_
      refine E_s (p' := 157) (st' := aA 124 :: _) rfl rfl ?_
      refine E_gA (b := 168) rfl rfl rfl rfl rfl rfl ?_
      refine E_s (p' := 161) (st' := aI ((x : Nat) : Int) :: _) rfl rfl ?_
      refine E_zld (e := x) (N := 60) (v := (bi (sdR R x))) rfl rfl (rfl) (by omega) ((I0 _ _ (by omega)).trans (hsu _ (by omega))) ?_
      refine E_b_eq0 (b := (sdR R x)) rfl (by decide) (fun h_2 => ?_) (fun h_2 => ?_)
      · refine E_go (p' := 221) (L' := [some (aA 124), some (aI ((i : Nat) : Int)), some (aI ((k : Nat) : Int)), some (aI ((x : Nat) : Int)), some (aI ((lkR R O x j : Nat) : Int)), some (aI ((j : Nat) : Int)), some (aI ((lkR R O x (j + 1) : Nat) : Int)), x7]) (st' := []) rfl rfl rfl ?_
        refine E_s (p' := 222) (st' := aI 0 :: _) rfl rfl ?_
        refine E_s (p' := 224) (L' := [some (aA 124), some (aI ((i : Nat) : Int)), some (aI ((k : Nat) : Int)), some (aI ((x : Nat) : Int)), some (aI ((lkR R O x j : Nat) : Int)), some (aI ((j : Nat) : Int)), some (aI ((lkR R O x (j + 1) : Nat) : Int)), some (aI 0)]) rfl rfl ?_
        refine E_s (p' := 226) (st' := aI 0 :: _) rfl rfl ?_
        refine E_s (p' := 245) rfl rfl ?_
        refine E_s (p' := 246) (st' := aA 124 :: _) rfl rfl ?_
        refine E_gA (b := 167) rfl rfl rfl rfl rfl rfl ?_
        refine E_s (p' := 251) (st' := aI ((j : Nat) : Int) :: _) rfl rfl ?_
        refine E_s (p' := 252) (st' := aI 1 :: _) rfl rfl ?_
        refine E_add (v := ((j + 1 : Nat) : Int)) rfl (by omega) (by omega) ?_
        refine E_s (p' := 254) (st' := aA 124 :: _) rfl rfl ?_
        refine E_gA (b := 167) rfl rfl rfl rfl rfl rfl ?_
        refine E_s (p' := 259) (st' := aI ((j : Nat) : Int) :: _) rfl rfl ?_
        refine E_s (p' := 260) (st' := aI 1 :: _) rfl rfl ?_
        refine E_add (v := ((j + 1 : Nat) : Int)) rfl (by omega) (by omega) ?_
        refine E_ald (e := j + 1) (N := 61) (v := ((lkR R O x (j + 1) : Nat) : Int)) rfl rfl (rfl) (by omega) (J2 _ (by omega) (by omega)) ?_
        refine E_s (p' := 263) (st' := aA 124 :: _) rfl rfl ?_
        refine E_gA (b := 167) rfl rfl rfl rfl rfl rfl ?_
        refine E_s (p' := 268) (st' := aI ((j : Nat) : Int) :: _) rfl rfl ?_
        refine E_ald (e := j) (N := 61) (v := ((lkR R O (x + 1) j : Nat) : Int)) rfl rfl (rfl) (by omega) (J1 _ (by omega)) ?_
        refine E_callL (p' := 272) (L0 := [some (aI ((lkR R O x (j + 1) : Nat) : Int)), some (aI ((lkR R O (x + 1) j : Nat) : Int))]) rfl rfl rfl ?_
        refine m_greater (fun h_3 => ?_) (fun h_4 => ?_)
        · refine E_go (p' := 272) (L' := [some (aA 124), some (aI ((i : Nat) : Int)), some (aI ((k : Nat) : Int)), some (aI ((x : Nat) : Int)), some (aI ((lkR R O x j : Nat) : Int)), some (aI ((j : Nat) : Int)), some (aI ((lkR R O x (j + 1) : Nat) : Int)), some (aI 0)]) (st' := [aI ((lkR R O x (j + 1) : Nat) : Int), aI ((j + 1 : Nat) : Int), aA 167]) rfl rfl rfl ?_
          refine E_ast (e := j + 1) (N := 61) rfl rfl (rfl) (by omega) ?_
          refine E_s (p' := 275) (st' := aI ((lkR R O x (j + 1) : Nat) : Int) :: _) rfl rfl ?_
          refine E_s (p' := 277) (L' := [some (aA 124), some (aI ((i : Nat) : Int)), some (aI ((k : Nat) : Int)), some (aI ((x : Nat) : Int)), some (aI ((lkR R O x (j + 1) : Nat) : Int)), some (aI ((j : Nat) : Int)), some (aI ((lkR R O x (j + 1) : Nat) : Int)), some (aI 0)]) rfl rfl ?_
          refine E_inc (x := ((j : Nat) : Int)) (w := ((j + 1 : Nat) : Int)) (L' := [some (aA 124), some (aI ((i : Nat) : Int)), some (aI ((k : Nat) : Int)), some (aI ((x : Nat) : Int)), some (aI ((lkR R O x (j + 1) : Nat) : Int)), some (aI ((j + 1 : Nat) : Int)), some (aI ((lkR R O x (j + 1) : Nat) : Int)), some (aI 0)]) rfl rfl rfl (by omega) (by omega) rfl ?_
          refine E_s (p' := 134) rfl rfl ?_
          have ha9 : alk R O x j = false := by
            unfold alk
            first
              | (rw [show sdR R x = false by assumption]; rfl)
              | (rw [sdR_f hs0]; simp)
              | (rw [decide_eq_false (p := Cc R x = Cc O j) (by omega)]; simp)
              | (rw [decide_eq_false (p := Rvl R x = Rvl O j) (by have := sdR_v (show sdR R x = true by assumption); omega)]; simp)
          refine ih (j + 1) _ _ _ (by omega) (by omega) (fun b z g1 => (up2_ne g1).trans (I0 b z g1)) (fun t ht9 => ?_) (fun t h1 h2 => (up2_sl (by omega)).trans (J2 t (by omega) h2))
          by_cases g9 : t = j + 1
          · rw [g9]
            refine up2_eq.trans ?_
            show _ = ((bif alk R O x j then lkR R O x j + 1 else max (lkR R O x (j + 1)) (lkR R O (x + 1) j) : Nat) : Int)
            rw [ha9]
            show _ = ((max (lkR R O x (j + 1)) (lkR R O (x + 1) j) : Nat) : Int)
            omega
          · exact (up2_sl g9).trans (J1 t (by omega))
        · refine E_go (p' := 272) (L' := [some (aA 124), some (aI ((i : Nat) : Int)), some (aI ((k : Nat) : Int)), some (aI ((x : Nat) : Int)), some (aI ((lkR R O x j : Nat) : Int)), some (aI ((j : Nat) : Int)), some (aI ((lkR R O x (j + 1) : Nat) : Int)), some (aI 0)]) (st' := [aI ((lkR R O (x + 1) j : Nat) : Int), aI ((j + 1 : Nat) : Int), aA 167]) rfl rfl rfl ?_
          refine E_ast (e := j + 1) (N := 61) rfl rfl (rfl) (by omega) ?_
          refine E_s (p' := 275) (st' := aI ((lkR R O x (j + 1) : Nat) : Int) :: _) rfl rfl ?_
          refine E_s (p' := 277) (L' := [some (aA 124), some (aI ((i : Nat) : Int)), some (aI ((k : Nat) : Int)), some (aI ((x : Nat) : Int)), some (aI ((lkR R O x (j + 1) : Nat) : Int)), some (aI ((j : Nat) : Int)), some (aI ((lkR R O x (j + 1) : Nat) : Int)), some (aI 0)]) rfl rfl ?_
          refine E_inc (x := ((j : Nat) : Int)) (w := ((j + 1 : Nat) : Int)) (L' := [some (aA 124), some (aI ((i : Nat) : Int)), some (aI ((k : Nat) : Int)), some (aI ((x : Nat) : Int)), some (aI ((lkR R O x (j + 1) : Nat) : Int)), some (aI ((j + 1 : Nat) : Int)), some (aI ((lkR R O x (j + 1) : Nat) : Int)), some (aI 0)]) rfl rfl rfl (by omega) (by omega) rfl ?_
          refine E_s (p' := 134) rfl rfl ?_
          have ha9 : alk R O x j = false := by
            unfold alk
            first
              | (rw [show sdR R x = false by assumption]; rfl)
              | (rw [sdR_f hs0]; simp)
              | (rw [decide_eq_false (p := Cc R x = Cc O j) (by omega)]; simp)
              | (rw [decide_eq_false (p := Rvl R x = Rvl O j) (by have := sdR_v (show sdR R x = true by assumption); omega)]; simp)
          refine ih (j + 1) _ _ _ (by omega) (by omega) (fun b z g1 => (up2_ne g1).trans (I0 b z g1)) (fun t ht9 => ?_) (fun t h1 h2 => (up2_sl (by omega)).trans (J2 t (by omega) h2))
          by_cases g9 : t = j + 1
          · rw [g9]
            refine up2_eq.trans ?_
            show _ = ((bif alk R O x j then lkR R O x j + 1 else max (lkR R O x (j + 1)) (lkR R O (x + 1) j) : Nat) : Int)
            rw [ha9]
            show _ = ((max (lkR R O x (j + 1)) (lkR R O (x + 1) j) : Nat) : Int)
            omega
          · exact (up2_sl g9).trans (J1 t (by omega))
      · refine E_go (p' := 165) (L' := [some (aA 124), some (aI ((i : Nat) : Int)), some (aI ((k : Nat) : Int)), some (aI ((x : Nat) : Int)), some (aI ((lkR R O x j : Nat) : Int)), some (aI ((j : Nat) : Int)), some (aI ((lkR R O x (j + 1) : Nat) : Int)), x7]) (st' := []) rfl rfl rfl ?_
        refine E_s (p' := 166) (st' := aA 124 :: _) rfl rfl ?_
        refine E_s (p' := 167) (st' := aI ((k : Nat) : Int) :: _) rfl rfl ?_
        refine E_s (p' := 169) (st' := aI ((j : Nat) : Int) :: _) rfl rfl ?_
        refine E_callV (k' := 158) (a := 124) (r := []) (L0 := [some (aA 124), some (aI ((k : Nat) : Int)), some (aI ((j : Nat) : Int))]) rfl rfl rfl rfl rfl rfl rfl rfl rfl rfl ?_
        refine m_isSure hk4 (hMo.of (fun b z g1 g2 => I0 b z (by omega))) hVo (c := j) (by omega) ((I0 _ _ (by omega)).trans (hnm _ (by omega))) (fun hs1 hs2 => ?_) (fun hs0 => ?_)
        · refine E_go (p' := 172) (L' := [some (aA 124), some (aI ((i : Nat) : Int)), some (aI ((k : Nat) : Int)), some (aI ((x : Nat) : Int)), some (aI ((lkR R O x j : Nat) : Int)), some (aI ((j : Nat) : Int)), some (aI ((lkR R O x (j + 1) : Nat) : Int)), x7]) (st' := [aI 1]) rfl rfl rfl ?_
          refine E_s (p' := 175) rfl rfl ?_
          refine E_s (p' := 176) (st' := aA 124 :: _) rfl rfl ?_
          refine E_gA (b := 149) rfl rfl rfl rfl rfl rfl ?_
          refine E_s (p' := 180) (st' := aI ((x : Nat) : Int) :: _) rfl rfl ?_
          refine E_ald (e := x) (N := 60) (v := (((Rtd R x)))) rfl rfl (rfl) (by omega) ((I0 _ _ (by omega)).trans (hot _ (by omega))) ?_
          refine E_s (p' := 182) (st' := aA 124 :: _) rfl rfl ?_
          refine E_gA (b := 148) rfl rfl rfl rfl rfl rfl ?_
          refine E_s (p' := 187) (st' := aI ((j : Nat) : Int) :: _) rfl rfl ?_
          refine E_ald (e := j) (N := 60) (v := (((Rtd O j)))) rfl rfl (rfl) (by omega) ((I0 _ _ (by omega)).trans (hnm _ (by omega))) ?_
          refine E_icmp_ne (x := (((Rtd R x)))) (y := (((Rtd O j)))) rfl (by decide) (fun h_5 => ?_) (fun h_5 => ?_)
          · refine E_go (p' := 221) (L' := [some (aA 124), some (aI ((i : Nat) : Int)), some (aI ((k : Nat) : Int)), some (aI ((x : Nat) : Int)), some (aI ((lkR R O x j : Nat) : Int)), some (aI ((j : Nat) : Int)), some (aI ((lkR R O x (j + 1) : Nat) : Int)), x7]) (st' := []) rfl rfl rfl ?_
            refine E_s (p' := 222) (st' := aI 0 :: _) rfl rfl ?_
            refine E_s (p' := 224) (L' := [some (aA 124), some (aI ((i : Nat) : Int)), some (aI ((k : Nat) : Int)), some (aI ((x : Nat) : Int)), some (aI ((lkR R O x j : Nat) : Int)), some (aI ((j : Nat) : Int)), some (aI ((lkR R O x (j + 1) : Nat) : Int)), some (aI 0)]) rfl rfl ?_
            refine E_s (p' := 226) (st' := aI 0 :: _) rfl rfl ?_
            refine E_s (p' := 245) rfl rfl ?_
            refine E_s (p' := 246) (st' := aA 124 :: _) rfl rfl ?_
            refine E_gA (b := 167) rfl rfl rfl rfl rfl rfl ?_
            refine E_s (p' := 251) (st' := aI ((j : Nat) : Int) :: _) rfl rfl ?_
            refine E_s (p' := 252) (st' := aI 1 :: _) rfl rfl ?_
            refine E_add (v := ((j + 1 : Nat) : Int)) rfl (by omega) (by omega) ?_
            refine E_s (p' := 254) (st' := aA 124 :: _) rfl rfl ?_
            refine E_gA (b := 167) rfl rfl rfl rfl rfl rfl ?_
            refine E_s (p' := 259) (st' := aI ((j : Nat) : Int) :: _) rfl rfl ?_
            refine E_s (p' := 260) (st' := aI 1 :: _) rfl rfl ?_
            refine E_add (v := ((j + 1 : Nat) : Int)) rfl (by omega) (by omega) ?_
            refine E_ald (e := j + 1) (N := 61) (v := ((lkR R O x (j + 1) : Nat) : Int)) rfl rfl (rfl) (by omega) (J2 _ (by omega) (by omega)) ?_
            refine E_s (p' := 263) (st' := aA 124 :: _) rfl rfl ?_
            refine E_gA (b := 167) rfl rfl rfl rfl rfl rfl ?_
            refine E_s (p' := 268) (st' := aI ((j : Nat) : Int) :: _) rfl rfl ?_
            refine E_ald (e := j) (N := 61) (v := ((lkR R O (x + 1) j : Nat) : Int)) rfl rfl (rfl) (by omega) (J1 _ (by omega)) ?_
            refine E_callL (p' := 272) (L0 := [some (aI ((lkR R O x (j + 1) : Nat) : Int)), some (aI ((lkR R O (x + 1) j : Nat) : Int))]) rfl rfl rfl ?_
            refine m_greater (fun h_6 => ?_) (fun h_7 => ?_)
            · refine E_go (p' := 272) (L' := [some (aA 124), some (aI ((i : Nat) : Int)), some (aI ((k : Nat) : Int)), some (aI ((x : Nat) : Int)), some (aI ((lkR R O x j : Nat) : Int)), some (aI ((j : Nat) : Int)), some (aI ((lkR R O x (j + 1) : Nat) : Int)), some (aI 0)]) (st' := [aI ((lkR R O x (j + 1) : Nat) : Int), aI ((j + 1 : Nat) : Int), aA 167]) rfl rfl rfl ?_
              refine E_ast (e := j + 1) (N := 61) rfl rfl (rfl) (by omega) ?_
              refine E_s (p' := 275) (st' := aI ((lkR R O x (j + 1) : Nat) : Int) :: _) rfl rfl ?_
              refine E_s (p' := 277) (L' := [some (aA 124), some (aI ((i : Nat) : Int)), some (aI ((k : Nat) : Int)), some (aI ((x : Nat) : Int)), some (aI ((lkR R O x (j + 1) : Nat) : Int)), some (aI ((j : Nat) : Int)), some (aI ((lkR R O x (j + 1) : Nat) : Int)), some (aI 0)]) rfl rfl ?_
              refine E_inc (x := ((j : Nat) : Int)) (w := ((j + 1 : Nat) : Int)) (L' := [some (aA 124), some (aI ((i : Nat) : Int)), some (aI ((k : Nat) : Int)), some (aI ((x : Nat) : Int)), some (aI ((lkR R O x (j + 1) : Nat) : Int)), some (aI ((j + 1 : Nat) : Int)), some (aI ((lkR R O x (j + 1) : Nat) : Int)), some (aI 0)]) rfl rfl rfl (by omega) (by omega) rfl ?_
              refine E_s (p' := 134) rfl rfl ?_
              have ha9 : alk R O x j = false := by
                unfold alk
                first
                  | (rw [show sdR R x = false by assumption]; rfl)
                  | (rw [sdR_f hs0]; simp)
                  | (rw [decide_eq_false (p := Cc R x = Cc O j) (by omega)]; simp)
                  | (rw [decide_eq_false (p := Rvl R x = Rvl O j) (by have := sdR_v (show sdR R x = true by assumption); omega)]; simp)
              refine ih (j + 1) _ _ _ (by omega) (by omega) (fun b z g1 => (up2_ne g1).trans (I0 b z g1)) (fun t ht9 => ?_) (fun t h1 h2 => (up2_sl (by omega)).trans (J2 t (by omega) h2))
              by_cases g9 : t = j + 1
              · rw [g9]
                refine up2_eq.trans ?_
                show _ = ((bif alk R O x j then lkR R O x j + 1 else max (lkR R O x (j + 1)) (lkR R O (x + 1) j) : Nat) : Int)
                rw [ha9]
                show _ = ((max (lkR R O x (j + 1)) (lkR R O (x + 1) j) : Nat) : Int)
                omega
              · exact (up2_sl g9).trans (J1 t (by omega))
            · refine E_go (p' := 272) (L' := [some (aA 124), some (aI ((i : Nat) : Int)), some (aI ((k : Nat) : Int)), some (aI ((x : Nat) : Int)), some (aI ((lkR R O x j : Nat) : Int)), some (aI ((j : Nat) : Int)), some (aI ((lkR R O x (j + 1) : Nat) : Int)), some (aI 0)]) (st' := [aI ((lkR R O (x + 1) j : Nat) : Int), aI ((j + 1 : Nat) : Int), aA 167]) rfl rfl rfl ?_
              refine E_ast (e := j + 1) (N := 61) rfl rfl (rfl) (by omega) ?_
              refine E_s (p' := 275) (st' := aI ((lkR R O x (j + 1) : Nat) : Int) :: _) rfl rfl ?_
              refine E_s (p' := 277) (L' := [some (aA 124), some (aI ((i : Nat) : Int)), some (aI ((k : Nat) : Int)), some (aI ((x : Nat) : Int)), some (aI ((lkR R O x (j + 1) : Nat) : Int)), some (aI ((j : Nat) : Int)), some (aI ((lkR R O x (j + 1) : Nat) : Int)), some (aI 0)]) rfl rfl ?_
              refine E_inc (x := ((j : Nat) : Int)) (w := ((j + 1 : Nat) : Int)) (L' := [some (aA 124), some (aI ((i : Nat) : Int)), some (aI ((k : Nat) : Int)), some (aI ((x : Nat) : Int)), some (aI ((lkR R O x (j + 1) : Nat) : Int)), some (aI ((j + 1 : Nat) : Int)), some (aI ((lkR R O x (j + 1) : Nat) : Int)), some (aI 0)]) rfl rfl rfl (by omega) (by omega) rfl ?_
              refine E_s (p' := 134) rfl rfl ?_
              have ha9 : alk R O x j = false := by
                unfold alk
                first
                  | (rw [show sdR R x = false by assumption]; rfl)
                  | (rw [sdR_f hs0]; simp)
                  | (rw [decide_eq_false (p := Cc R x = Cc O j) (by omega)]; simp)
                  | (rw [decide_eq_false (p := Rvl R x = Rvl O j) (by have := sdR_v (show sdR R x = true by assumption); omega)]; simp)
              refine ih (j + 1) _ _ _ (by omega) (by omega) (fun b z g1 => (up2_ne g1).trans (I0 b z g1)) (fun t ht9 => ?_) (fun t h1 h2 => (up2_sl (by omega)).trans (J2 t (by omega) h2))
              by_cases g9 : t = j + 1
              · rw [g9]
                refine up2_eq.trans ?_
                show _ = ((bif alk R O x j then lkR R O x j + 1 else max (lkR R O x (j + 1)) (lkR R O (x + 1) j) : Nat) : Int)
                rw [ha9]
                show _ = ((max (lkR R O x (j + 1)) (lkR R O (x + 1) j) : Nat) : Int)
                omega
              · exact (up2_sl g9).trans (J1 t (by omega))
          · refine E_go (p' := 191) (L' := [some (aA 124), some (aI ((i : Nat) : Int)), some (aI ((k : Nat) : Int)), some (aI ((x : Nat) : Int)), some (aI ((lkR R O x j : Nat) : Int)), some (aI ((j : Nat) : Int)), some (aI ((lkR R O x (j + 1) : Nat) : Int)), x7]) (st' := []) rfl rfl rfl ?_
            refine E_s (p' := 192) (st' := aA 124 :: _) rfl rfl ?_
            refine E_gA (b := 129) rfl rfl rfl rfl rfl rfl ?_
            refine E_s (p' := 197) (st' := aI 60 :: _) rfl rfl ?_
            refine E_s (p' := 198) (st' := aI ((i : Nat) : Int) :: _) rfl rfl ?_
            refine E_mul (v := ((60 * i : Nat) : Int)) rfl (by omega) (by omega) ?_
            refine E_s (p' := 200) (st' := aI ((x : Nat) : Int) :: _) rfl rfl ?_
            refine E_add (v := ((60 * i + x : Nat) : Int)) rfl (by omega) (by omega) ?_
            refine E_ald (e := 60 * i + x) (N := 240) (v := ((Cc R x : Nat) : Int)) rfl rfl (rfl) (by omega) ((I0 _ _ (by omega)).trans (MR_129 hM (by omega) rfl)) ?_
            refine E_s (p' := 203) (st' := aA 124 :: _) rfl rfl ?_
            refine E_gA (b := 129) rfl rfl rfl rfl rfl rfl ?_
            refine E_s (p' := 208) (st' := aI 60 :: _) rfl rfl ?_
            refine E_s (p' := 209) (st' := aI ((k : Nat) : Int) :: _) rfl rfl ?_
            refine E_mul (v := ((60 * k : Nat) : Int)) rfl (by omega) (by omega) ?_
            refine E_s (p' := 212) (st' := aI ((j : Nat) : Int) :: _) rfl rfl ?_
            refine E_add (v := ((60 * k + j : Nat) : Int)) rfl (by omega) (by omega) ?_
            refine E_ald (e := 60 * k + j) (N := 240) (v := ((Cc O j : Nat) : Int)) rfl rfl (rfl) (by omega) ((I0 _ _ (by omega)).trans (MR_129 hMo (by omega) rfl)) ?_
            refine E_icmp_ne (x := ((Cc R x : Nat) : Int)) (y := ((Cc O j : Nat) : Int)) rfl (by decide) (fun h_8 => ?_) (fun h_8 => ?_)
            · refine E_go (p' := 221) (L' := [some (aA 124), some (aI ((i : Nat) : Int)), some (aI ((k : Nat) : Int)), some (aI ((x : Nat) : Int)), some (aI ((lkR R O x j : Nat) : Int)), some (aI ((j : Nat) : Int)), some (aI ((lkR R O x (j + 1) : Nat) : Int)), x7]) (st' := []) rfl rfl rfl ?_
              refine E_s (p' := 222) (st' := aI 0 :: _) rfl rfl ?_
              refine E_s (p' := 224) (L' := [some (aA 124), some (aI ((i : Nat) : Int)), some (aI ((k : Nat) : Int)), some (aI ((x : Nat) : Int)), some (aI ((lkR R O x j : Nat) : Int)), some (aI ((j : Nat) : Int)), some (aI ((lkR R O x (j + 1) : Nat) : Int)), some (aI 0)]) rfl rfl ?_
              refine E_s (p' := 226) (st' := aI 0 :: _) rfl rfl ?_
              refine E_s (p' := 245) rfl rfl ?_
              refine E_s (p' := 246) (st' := aA 124 :: _) rfl rfl ?_
              refine E_gA (b := 167) rfl rfl rfl rfl rfl rfl ?_
              refine E_s (p' := 251) (st' := aI ((j : Nat) : Int) :: _) rfl rfl ?_
              refine E_s (p' := 252) (st' := aI 1 :: _) rfl rfl ?_
              refine E_add (v := ((j + 1 : Nat) : Int)) rfl (by omega) (by omega) ?_
              refine E_s (p' := 254) (st' := aA 124 :: _) rfl rfl ?_
              refine E_gA (b := 167) rfl rfl rfl rfl rfl rfl ?_
              refine E_s (p' := 259) (st' := aI ((j : Nat) : Int) :: _) rfl rfl ?_
              refine E_s (p' := 260) (st' := aI 1 :: _) rfl rfl ?_
              refine E_add (v := ((j + 1 : Nat) : Int)) rfl (by omega) (by omega) ?_
              refine E_ald (e := j + 1) (N := 61) (v := ((lkR R O x (j + 1) : Nat) : Int)) rfl rfl (rfl) (by omega) (J2 _ (by omega) (by omega)) ?_
              refine E_s (p' := 263) (st' := aA 124 :: _) rfl rfl ?_
              refine E_gA (b := 167) rfl rfl rfl rfl rfl rfl ?_
              refine E_s (p' := 268) (st' := aI ((j : Nat) : Int) :: _) rfl rfl ?_
              refine E_ald (e := j) (N := 61) (v := ((lkR R O (x + 1) j : Nat) : Int)) rfl rfl (rfl) (by omega) (J1 _ (by omega)) ?_
              refine E_callL (p' := 272) (L0 := [some (aI ((lkR R O x (j + 1) : Nat) : Int)), some (aI ((lkR R O (x + 1) j : Nat) : Int))]) rfl rfl rfl ?_
              refine m_greater (fun h_9 => ?_) (fun h_10 => ?_)
              · refine E_go (p' := 272) (L' := [some (aA 124), some (aI ((i : Nat) : Int)), some (aI ((k : Nat) : Int)), some (aI ((x : Nat) : Int)), some (aI ((lkR R O x j : Nat) : Int)), some (aI ((j : Nat) : Int)), some (aI ((lkR R O x (j + 1) : Nat) : Int)), some (aI 0)]) (st' := [aI ((lkR R O x (j + 1) : Nat) : Int), aI ((j + 1 : Nat) : Int), aA 167]) rfl rfl rfl ?_
                refine E_ast (e := j + 1) (N := 61) rfl rfl (rfl) (by omega) ?_
                refine E_s (p' := 275) (st' := aI ((lkR R O x (j + 1) : Nat) : Int) :: _) rfl rfl ?_
                refine E_s (p' := 277) (L' := [some (aA 124), some (aI ((i : Nat) : Int)), some (aI ((k : Nat) : Int)), some (aI ((x : Nat) : Int)), some (aI ((lkR R O x (j + 1) : Nat) : Int)), some (aI ((j : Nat) : Int)), some (aI ((lkR R O x (j + 1) : Nat) : Int)), some (aI 0)]) rfl rfl ?_
                refine E_inc (x := ((j : Nat) : Int)) (w := ((j + 1 : Nat) : Int)) (L' := [some (aA 124), some (aI ((i : Nat) : Int)), some (aI ((k : Nat) : Int)), some (aI ((x : Nat) : Int)), some (aI ((lkR R O x (j + 1) : Nat) : Int)), some (aI ((j + 1 : Nat) : Int)), some (aI ((lkR R O x (j + 1) : Nat) : Int)), some (aI 0)]) rfl rfl rfl (by omega) (by omega) rfl ?_
                refine E_s (p' := 134) rfl rfl ?_
                have ha9 : alk R O x j = false := by
                  unfold alk
                  first
                    | (rw [show sdR R x = false by assumption]; rfl)
                    | (rw [sdR_f hs0]; simp)
                    | (rw [decide_eq_false (p := Cc R x = Cc O j) (by omega)]; simp)
                    | (rw [decide_eq_false (p := Rvl R x = Rvl O j) (by have := sdR_v (show sdR R x = true by assumption); omega)]; simp)
                refine ih (j + 1) _ _ _ (by omega) (by omega) (fun b z g1 => (up2_ne g1).trans (I0 b z g1)) (fun t ht9 => ?_) (fun t h1 h2 => (up2_sl (by omega)).trans (J2 t (by omega) h2))
                by_cases g9 : t = j + 1
                · rw [g9]
                  refine up2_eq.trans ?_
                  show _ = ((bif alk R O x j then lkR R O x j + 1 else max (lkR R O x (j + 1)) (lkR R O (x + 1) j) : Nat) : Int)
                  rw [ha9]
                  show _ = ((max (lkR R O x (j + 1)) (lkR R O (x + 1) j) : Nat) : Int)
                  omega
                · exact (up2_sl g9).trans (J1 t (by omega))
              · refine E_go (p' := 272) (L' := [some (aA 124), some (aI ((i : Nat) : Int)), some (aI ((k : Nat) : Int)), some (aI ((x : Nat) : Int)), some (aI ((lkR R O x j : Nat) : Int)), some (aI ((j : Nat) : Int)), some (aI ((lkR R O x (j + 1) : Nat) : Int)), some (aI 0)]) (st' := [aI ((lkR R O (x + 1) j : Nat) : Int), aI ((j + 1 : Nat) : Int), aA 167]) rfl rfl rfl ?_
                refine E_ast (e := j + 1) (N := 61) rfl rfl (rfl) (by omega) ?_
                refine E_s (p' := 275) (st' := aI ((lkR R O x (j + 1) : Nat) : Int) :: _) rfl rfl ?_
                refine E_s (p' := 277) (L' := [some (aA 124), some (aI ((i : Nat) : Int)), some (aI ((k : Nat) : Int)), some (aI ((x : Nat) : Int)), some (aI ((lkR R O x (j + 1) : Nat) : Int)), some (aI ((j : Nat) : Int)), some (aI ((lkR R O x (j + 1) : Nat) : Int)), some (aI 0)]) rfl rfl ?_
                refine E_inc (x := ((j : Nat) : Int)) (w := ((j + 1 : Nat) : Int)) (L' := [some (aA 124), some (aI ((i : Nat) : Int)), some (aI ((k : Nat) : Int)), some (aI ((x : Nat) : Int)), some (aI ((lkR R O x (j + 1) : Nat) : Int)), some (aI ((j + 1 : Nat) : Int)), some (aI ((lkR R O x (j + 1) : Nat) : Int)), some (aI 0)]) rfl rfl rfl (by omega) (by omega) rfl ?_
                refine E_s (p' := 134) rfl rfl ?_
                have ha9 : alk R O x j = false := by
                  unfold alk
                  first
                    | (rw [show sdR R x = false by assumption]; rfl)
                    | (rw [sdR_f hs0]; simp)
                    | (rw [decide_eq_false (p := Cc R x = Cc O j) (by omega)]; simp)
                    | (rw [decide_eq_false (p := Rvl R x = Rvl O j) (by have := sdR_v (show sdR R x = true by assumption); omega)]; simp)
                refine ih (j + 1) _ _ _ (by omega) (by omega) (fun b z g1 => (up2_ne g1).trans (I0 b z g1)) (fun t ht9 => ?_) (fun t h1 h2 => (up2_sl (by omega)).trans (J2 t (by omega) h2))
                by_cases g9 : t = j + 1
                · rw [g9]
                  refine up2_eq.trans ?_
                  show _ = ((bif alk R O x j then lkR R O x j + 1 else max (lkR R O x (j + 1)) (lkR R O (x + 1) j) : Nat) : Int)
                  rw [ha9]
                  show _ = ((max (lkR R O x (j + 1)) (lkR R O (x + 1) j) : Nat) : Int)
                  omega
                · exact (up2_sl g9).trans (J1 t (by omega))
            · refine E_go (p' := 217) (L' := [some (aA 124), some (aI ((i : Nat) : Int)), some (aI ((k : Nat) : Int)), some (aI ((x : Nat) : Int)), some (aI ((lkR R O x j : Nat) : Int)), some (aI ((j : Nat) : Int)), some (aI ((lkR R O x (j + 1) : Nat) : Int)), x7]) (st' := []) rfl rfl rfl ?_
              refine E_s (p' := 218) (st' := aI 1 :: _) rfl rfl ?_
              refine E_s (p' := 222) rfl rfl ?_
              refine E_s (p' := 224) (L' := [some (aA 124), some (aI ((i : Nat) : Int)), some (aI ((k : Nat) : Int)), some (aI ((x : Nat) : Int)), some (aI ((lkR R O x j : Nat) : Int)), some (aI ((j : Nat) : Int)), some (aI ((lkR R O x (j + 1) : Nat) : Int)), some (aI 1)]) rfl rfl ?_
              refine E_s (p' := 226) (st' := aI 1 :: _) rfl rfl ?_
              refine E_s (p' := 229) rfl rfl ?_
              refine E_s (p' := 230) (st' := aA 124 :: _) rfl rfl ?_
              refine E_gA (b := 167) rfl rfl rfl rfl rfl rfl ?_
              refine E_s (p' := 235) (st' := aI ((j : Nat) : Int) :: _) rfl rfl ?_
              refine E_s (p' := 236) (st' := aI 1 :: _) rfl rfl ?_
              refine E_add (v := ((j + 1 : Nat) : Int)) rfl (by omega) (by omega) ?_
              refine E_s (p' := 239) (st' := aI ((lkR R O x j : Nat) : Int) :: _) rfl rfl ?_
              refine E_s (p' := 240) (st' := aI 1 :: _) rfl rfl ?_
              refine E_add (v := ((lkR R O x j + 1 : Nat) : Int)) rfl (by omega) (by omega) ?_
              refine E_ast (e := j + 1) (N := 61) rfl rfl (rfl) (by omega) ?_
              refine E_s (p' := 273) rfl rfl ?_
              refine E_s (p' := 275) (st' := aI ((lkR R O x (j + 1) : Nat) : Int) :: _) rfl rfl ?_
              refine E_s (p' := 277) (L' := [some (aA 124), some (aI ((i : Nat) : Int)), some (aI ((k : Nat) : Int)), some (aI ((x : Nat) : Int)), some (aI ((lkR R O x (j + 1) : Nat) : Int)), some (aI ((j : Nat) : Int)), some (aI ((lkR R O x (j + 1) : Nat) : Int)), some (aI 1)]) rfl rfl ?_
              refine E_inc (x := ((j : Nat) : Int)) (w := ((j + 1 : Nat) : Int)) (L' := [some (aA 124), some (aI ((i : Nat) : Int)), some (aI ((k : Nat) : Int)), some (aI ((x : Nat) : Int)), some (aI ((lkR R O x (j + 1) : Nat) : Int)), some (aI ((j + 1 : Nat) : Int)), some (aI ((lkR R O x (j + 1) : Nat) : Int)), some (aI 1)]) rfl rfl rfl (by omega) (by omega) rfl ?_
              refine E_s (p' := 134) rfl rfl ?_
              have ha9 : alk R O x j = true := by
                unfold alk
                rw [show sdR R x = true by assumption, sdR_t hs1 hs2, decide_eq_true (p := Rvl R x = Rvl O j) (by have := sdR_v (show sdR R x = true by assumption); omega), decide_eq_true (p := Cc R x = Cc O j) (by omega)]; rfl
              refine ih (j + 1) _ _ _ (by omega) (by omega) (fun b z g1 => (up2_ne g1).trans (I0 b z g1)) (fun t ht9 => ?_) (fun t h1 h2 => (up2_sl (by omega)).trans (J2 t (by omega) h2))
              by_cases g9 : t = j + 1
              · rw [g9]
                refine up2_eq.trans ?_
                show _ = ((bif alk R O x j then lkR R O x j + 1 else max (lkR R O x (j + 1)) (lkR R O (x + 1) j) : Nat) : Int)
                rw [ha9]
                rfl
              · exact (up2_sl g9).trans (J1 t (by omega))
        · refine E_go (p' := 172) (L' := [some (aA 124), some (aI ((i : Nat) : Int)), some (aI ((k : Nat) : Int)), some (aI ((x : Nat) : Int)), some (aI ((lkR R O x j : Nat) : Int)), some (aI ((j : Nat) : Int)), some (aI ((lkR R O x (j + 1) : Nat) : Int)), x7]) (st' := [aI 0]) rfl rfl rfl ?_
          refine E_s (p' := 221) rfl rfl ?_
          refine E_s (p' := 222) (st' := aI 0 :: _) rfl rfl ?_
          refine E_s (p' := 224) (L' := [some (aA 124), some (aI ((i : Nat) : Int)), some (aI ((k : Nat) : Int)), some (aI ((x : Nat) : Int)), some (aI ((lkR R O x j : Nat) : Int)), some (aI ((j : Nat) : Int)), some (aI ((lkR R O x (j + 1) : Nat) : Int)), some (aI 0)]) rfl rfl ?_
          refine E_s (p' := 226) (st' := aI 0 :: _) rfl rfl ?_
          refine E_s (p' := 245) rfl rfl ?_
          refine E_s (p' := 246) (st' := aA 124 :: _) rfl rfl ?_
          refine E_gA (b := 167) rfl rfl rfl rfl rfl rfl ?_
          refine E_s (p' := 251) (st' := aI ((j : Nat) : Int) :: _) rfl rfl ?_
          refine E_s (p' := 252) (st' := aI 1 :: _) rfl rfl ?_
          refine E_add (v := ((j + 1 : Nat) : Int)) rfl (by omega) (by omega) ?_
          refine E_s (p' := 254) (st' := aA 124 :: _) rfl rfl ?_
          refine E_gA (b := 167) rfl rfl rfl rfl rfl rfl ?_
          refine E_s (p' := 259) (st' := aI ((j : Nat) : Int) :: _) rfl rfl ?_
          refine E_s (p' := 260) (st' := aI 1 :: _) rfl rfl ?_
          refine E_add (v := ((j + 1 : Nat) : Int)) rfl (by omega) (by omega) ?_
          refine E_ald (e := j + 1) (N := 61) (v := ((lkR R O x (j + 1) : Nat) : Int)) rfl rfl (rfl) (by omega) (J2 _ (by omega) (by omega)) ?_
          refine E_s (p' := 263) (st' := aA 124 :: _) rfl rfl ?_
          refine E_gA (b := 167) rfl rfl rfl rfl rfl rfl ?_
          refine E_s (p' := 268) (st' := aI ((j : Nat) : Int) :: _) rfl rfl ?_
          refine E_ald (e := j) (N := 61) (v := ((lkR R O (x + 1) j : Nat) : Int)) rfl rfl (rfl) (by omega) (J1 _ (by omega)) ?_
          refine E_callL (p' := 272) (L0 := [some (aI ((lkR R O x (j + 1) : Nat) : Int)), some (aI ((lkR R O (x + 1) j : Nat) : Int))]) rfl rfl rfl ?_
          refine m_greater (fun h_11 => ?_) (fun h_12 => ?_)
          · refine E_go (p' := 272) (L' := [some (aA 124), some (aI ((i : Nat) : Int)), some (aI ((k : Nat) : Int)), some (aI ((x : Nat) : Int)), some (aI ((lkR R O x j : Nat) : Int)), some (aI ((j : Nat) : Int)), some (aI ((lkR R O x (j + 1) : Nat) : Int)), some (aI 0)]) (st' := [aI ((lkR R O x (j + 1) : Nat) : Int), aI ((j + 1 : Nat) : Int), aA 167]) rfl rfl rfl ?_
            refine E_ast (e := j + 1) (N := 61) rfl rfl (rfl) (by omega) ?_
            refine E_s (p' := 275) (st' := aI ((lkR R O x (j + 1) : Nat) : Int) :: _) rfl rfl ?_
            refine E_s (p' := 277) (L' := [some (aA 124), some (aI ((i : Nat) : Int)), some (aI ((k : Nat) : Int)), some (aI ((x : Nat) : Int)), some (aI ((lkR R O x (j + 1) : Nat) : Int)), some (aI ((j : Nat) : Int)), some (aI ((lkR R O x (j + 1) : Nat) : Int)), some (aI 0)]) rfl rfl ?_
            refine E_inc (x := ((j : Nat) : Int)) (w := ((j + 1 : Nat) : Int)) (L' := [some (aA 124), some (aI ((i : Nat) : Int)), some (aI ((k : Nat) : Int)), some (aI ((x : Nat) : Int)), some (aI ((lkR R O x (j + 1) : Nat) : Int)), some (aI ((j + 1 : Nat) : Int)), some (aI ((lkR R O x (j + 1) : Nat) : Int)), some (aI 0)]) rfl rfl rfl (by omega) (by omega) rfl ?_
            refine E_s (p' := 134) rfl rfl ?_
            have ha9 : alk R O x j = false := by
              unfold alk
              first
                | (rw [show sdR R x = false by assumption]; rfl)
                | (rw [sdR_f hs0]; simp)
                | (rw [decide_eq_false (p := Cc R x = Cc O j) (by omega)]; simp)
                | (rw [decide_eq_false (p := Rvl R x = Rvl O j) (by have := sdR_v (show sdR R x = true by assumption); omega)]; simp)
            refine ih (j + 1) _ _ _ (by omega) (by omega) (fun b z g1 => (up2_ne g1).trans (I0 b z g1)) (fun t ht9 => ?_) (fun t h1 h2 => (up2_sl (by omega)).trans (J2 t (by omega) h2))
            by_cases g9 : t = j + 1
            · rw [g9]
              refine up2_eq.trans ?_
              show _ = ((bif alk R O x j then lkR R O x j + 1 else max (lkR R O x (j + 1)) (lkR R O (x + 1) j) : Nat) : Int)
              rw [ha9]
              show _ = ((max (lkR R O x (j + 1)) (lkR R O (x + 1) j) : Nat) : Int)
              omega
            · exact (up2_sl g9).trans (J1 t (by omega))
          · refine E_go (p' := 272) (L' := [some (aA 124), some (aI ((i : Nat) : Int)), some (aI ((k : Nat) : Int)), some (aI ((x : Nat) : Int)), some (aI ((lkR R O x j : Nat) : Int)), some (aI ((j : Nat) : Int)), some (aI ((lkR R O x (j + 1) : Nat) : Int)), some (aI 0)]) (st' := [aI ((lkR R O (x + 1) j : Nat) : Int), aI ((j + 1 : Nat) : Int), aA 167]) rfl rfl rfl ?_
            refine E_ast (e := j + 1) (N := 61) rfl rfl (rfl) (by omega) ?_
            refine E_s (p' := 275) (st' := aI ((lkR R O x (j + 1) : Nat) : Int) :: _) rfl rfl ?_
            refine E_s (p' := 277) (L' := [some (aA 124), some (aI ((i : Nat) : Int)), some (aI ((k : Nat) : Int)), some (aI ((x : Nat) : Int)), some (aI ((lkR R O x (j + 1) : Nat) : Int)), some (aI ((j : Nat) : Int)), some (aI ((lkR R O x (j + 1) : Nat) : Int)), some (aI 0)]) rfl rfl ?_
            refine E_inc (x := ((j : Nat) : Int)) (w := ((j + 1 : Nat) : Int)) (L' := [some (aA 124), some (aI ((i : Nat) : Int)), some (aI ((k : Nat) : Int)), some (aI ((x : Nat) : Int)), some (aI ((lkR R O x (j + 1) : Nat) : Int)), some (aI ((j + 1 : Nat) : Int)), some (aI ((lkR R O x (j + 1) : Nat) : Int)), some (aI 0)]) rfl rfl rfl (by omega) (by omega) rfl ?_
            refine E_s (p' := 134) rfl rfl ?_
            have ha9 : alk R O x j = false := by
              unfold alk
              first
                | (rw [show sdR R x = false by assumption]; rfl)
                | (rw [sdR_f hs0]; simp)
                | (rw [decide_eq_false (p := Cc R x = Cc O j) (by omega)]; simp)
                | (rw [decide_eq_false (p := Rvl R x = Rvl O j) (by have := sdR_v (show sdR R x = true by assumption); omega)]; simp)
            refine ih (j + 1) _ _ _ (by omega) (by omega) (fun b z g1 => (up2_ne g1).trans (I0 b z g1)) (fun t ht9 => ?_) (fun t h1 h2 => (up2_sl (by omega)).trans (J2 t (by omega) h2))
            by_cases g9 : t = j + 1
            · rw [g9]
              refine up2_eq.trans ?_
              show _ = ((bif alk R O x j then lkR R O x j + 1 else max (lkR R O x (j + 1)) (lkR R O (x + 1) j) : Nat) : Int)
              rw [ha9]
              show _ = ((max (lkR R O x (j + 1)) (lkR R O (x + 1) j) : Nat) : Int)
              omega
            · exact (up2_sl g9).trans (J1 t (by omega))
theorem yl_lD (hi : i < 4) (hk4 : k < 4) (hM : MR R i m0) (hMo : MR O k m0) (hV : VR R) (hVo : VR O) (hsu : ∀ d, d < Cn R → m0 168 d = bi (sdR R d)) (hot : ∀ d, d < Cn R → m0 149 d = Rtd R d) (hnm : ∀ d, d < Cn O → m0 148 d = Rtd O d) (q : ∀ m1 : Mm, (∀ b z, b ≠ 167 → m1 b z = m0 b z) → Q (some (aI (lkR R O (Cn R) (Cn O) : Int))) (m1, tl len)) : ∀ (d : Nat) (x : Nat) (m : Mm) (x4 x5 x6 x7 : Option AV), (Cn R < x + d) → (x ≤ Cn R) → (∀ b z, b ≠ 167 → m b z = m0 b z) → (∀ t, t ≤ Cn O → m 167 t = (lkR R O x t : Int)) → E 181 118 [some (aA 124), some (aI ((i : Nat) : Int)), some (aI ((k : Nat) : Int)), some (aI ((x : Nat) : Int)), x4, x5, x6, x7] [] (m, tl len) Q := by
  intro d
  induction d with
  | zero => intro x m x4 x5 x6 x7 hd hx I0 J1; omega
  | succ d ih =>
    intro x m x4 x5 x6 x7 hd hx I0 J1
    have hn60 := hV.1
    have hn6o := hVo.1
    refine E_s (p' := 119) (st' := aI ((x : Nat) : Int) :: _) rfl rfl ?_
    refine E_s (p' := 120) (st' := aA 124 :: _) rfl rfl ?_
    refine E_gA (b := 125) rfl rfl rfl rfl rfl rfl ?_
    refine E_s (p' := 124) (st' := aI ((i : Nat) : Int) :: _) rfl rfl ?_
    refine E_ald (e := i) (N := 4) (v := ((Cn R : Nat) : Int)) rfl rfl (rfl) (by omega) ((I0 _ _ (by omega)).trans (MR_125 hM)) ?_
    refine E_icmp_ge (x := ((x : Nat) : Int)) (y := ((Cn R : Nat) : Int)) rfl (by decide) (fun h_1 => ?_) (fun h_1 => ?_)
    · refine E_go (p' := 289) (L' := [some (aA 124), some (aI ((i : Nat) : Int)), some (aI ((k : Nat) : Int)), some (aI ((x : Nat) : Int)), x4, x5, x6, x7]) (st' := []) rfl rfl rfl ?_
      refine E_s (p' := 290) (st' := aA 124 :: _) rfl rfl ?_
      refine E_gA (b := 167) rfl rfl rfl rfl rfl rfl ?_
      refine E_s (p' := 294) (st' := aA 124 :: _) rfl rfl ?_
      refine E_gA (b := 125) rfl rfl rfl rfl rfl rfl ?_
      refine E_s (p' := 298) (st' := aI ((k : Nat) : Int) :: _) rfl rfl ?_
      refine E_ald (e := k) (N := 4) (v := ((Cn O : Nat) : Int)) rfl rfl (rfl) (by omega) ((I0 _ _ (by omega)).trans (MR_125 hMo)) ?_
      refine E_ald (e := Cn O) (N := 61) (v := ((lkR R O (Cn R) (Cn O) : Nat) : Int)) rfl rfl (rfl) (by omega) (by rw [show Cn R = x by omega]; exact J1 _ (Nat.le_refl _)) ?_
      refine E_ret rfl rfl ?_
      exact q m I0
    · refine E_go (p' := 128) (L' := [some (aA 124), some (aI ((i : Nat) : Int)), some (aI ((k : Nat) : Int)), some (aI ((x : Nat) : Int)), x4, x5, x6, x7]) (st' := []) rfl rfl rfl ?_
      refine E_s (p' := 129) (st' := aI 0 :: _) rfl rfl ?_
      refine E_s (p' := 131) (L' := [some (aA 124), some (aI ((i : Nat) : Int)), some (aI ((k : Nat) : Int)), some (aI ((x : Nat) : Int)), some (aI 0), x5, x6, x7]) rfl rfl ?_
      refine E_s (p' := 132) (st' := aI 0 :: _) rfl rfl ?_
      refine E_s (p' := 134) (L' := [some (aA 124), some (aI ((i : Nat) : Int)), some (aI ((k : Nat) : Int)), some (aI ((x : Nat) : Int)), some (aI 0), some (aI 0), x6, x7]) rfl rfl ?_
      have e0 := lkR_z R O x
      have hE := yl_lE (Q := Q) (len := len) hi hk4 (hM.of (fun b z g1 g2 => I0 b z (by omega))) (hMo.of (fun b z g1 g2 => I0 b z (by omega))) hV hVo (fun d hd9 => (I0 _ _ (by omega)).trans (hsu d hd9)) (fun d hd9 => (I0 _ _ (by omega)).trans (hot d hd9)) (fun d hd9 => (I0 _ _ (by omega)).trans (hnm d hd9)) (x := x) (by omega) (fun m1 y4 y5 y6 y7 E1 E2 => ?_) (Cn O + 1) 0 m x6 x7 (by omega) (by omega) (fun b z _ => rfl) (fun t ht9 => by rw [show t = 0 by omega, J1 0 (by omega), lkR_z, lkR_z]) (fun t h1 h2 => J1 t h2)
      · rw [e0] at hE; exact hE
      refine E_inc (x := ((x : Nat) : Int)) (w := ((x + 1 : Nat) : Int)) (L' := [some (aA 124), some (aI ((i : Nat) : Int)), some (aI ((k : Nat) : Int)), some (aI ((x + 1 : Nat) : Int)), y4, y5, y6, y7]) rfl rfl rfl (by omega) (by omega) rfl ?_
      refine E_s (p' := 118) rfl rfl ?_
      exact ih (x + 1) m1 _ _ _ _ (by omega) (by omega) (fun b z g1 => (E1 b z g1).trans (I0 b z g1)) E2
end
