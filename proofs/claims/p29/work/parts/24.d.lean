/-- nothing but the model's scratch of SPANS and of the reading has changed -/
def FrS (m m' : Mm) : Prop := ∀ b z, ¬ (b = 124 ∧ 19 ≤ z ∧ z ≤ 29) → ¬ (141 ≤ b ∧ b ≤ 147) → ¬ (153 ≤ b ∧ b ≤ 158) → m' b z = m b z
theorem FrS.rf {m : Mm} : FrS m m := fun _ _ _ _ _ => rfl
theorem FrS.tr {m m' m'' : Mm} (h : FrS m m') (h' : FrS m' m'') : FrS m m'' := fun b z g1 g2 g3 => (h' b z g1 g2 g3).trans (h b z g1 g2 g3)
theorem FrS.MS {S : Nat → RD} {m m' : Mm} (h : FrS m m') (hS : MS S m) : MS S m' := hS.of (fun b j g1 g2 => h b j (by omega) (by omega) (by omega))
theorem FrS.MR {R : RD} {i : Nat} {m m' : Mm} (h : FrS m m') (hM : MR R i m) : MR R i m' := hM.of (fun b j g1 g2 => h b j (by omega) (by omega) (by omega))
theorem FrS.Co1 {m m' : Mm} (h : FrS m m') : Co1 m m' := fun b j hb => h b j (by omega) (by omega) (by omega)
def RWm (n : Nat) (lo hi : Nat → Int) (p : Sp2) (m : Mm) : Prop := ∀ c, c < n → m 155 c = lo c ∧ m 156 c = hi c ∧ m 157 c = p.1 c ∧ m 158 c = p.2 c
theorem kw_1 {p : Sp2} {c : Nat} {l g : Int} {x : Nat} (h : x ≠ c) : (kw p c l g).1 x = p.1 x ∧ (kw p c l g).2 x = p.2 x := ⟨upf_ne h, upf_ne h⟩
theorem kw_0 {p : Sp2} {c : Nat} {l g : Int} : (kw p c l g).1 c = max (p.1 c) l ∧ (kw p c l g).2 c = min (p.2 c) g := ⟨upf_eq, upf_eq⟩
theorem RWm.kw {n : Nat} {lo hi : Nat → Int} {p : Sp2} {m : Mm} {c : Nat} {l g x y : Int} (h : RWm n lo hi p m) (hx : x = max (p.1 c) l) (hy : y = min (p.2 c) g) : RWm n lo hi (kw p c l g) (up2 (up2 m 157 c x) 158 c y) := by
  intro d hd
  obtain ⟨k1, k2, k3, k4⟩ := h d hd
  refine ⟨(up2_ne (by omega)).trans ((up2_ne (by omega)).trans k1), (up2_ne (by omega)).trans ((up2_ne (by omega)).trans k2), ?_, ?_⟩
  · by_cases g9 : d = c
    · rw [g9, kw_0.1]; exact (up2_ne (by omega)).trans (up2_eq.trans hx)
    · rw [(kw_1 g9).1]; exact (up2_ne (by omega)).trans ((up2_sl g9).trans k3)
  · by_cases g9 : d = c
    · rw [g9, kw_0.2]; exact up2_eq.trans hy
    · rw [(kw_1 g9).2]; exact (up2_sl g9).trans ((up2_ne (by omega)).trans k4)
section
variable {len : Nat} {m m0 : Mm} {Q : Option AV → Sx → Prop} {R : RD} {i : Nat} {lo hi : Nat → Int} {p : Sp2}
theorem yl_ow (hi9 : i < 4) (hM : MR R i m0) (hV : VR R) (q : ∀ m1 : Mm, FrS m0 m1 → (∀ d, d < Cn R → m1 153 d = oL R d ∧ m1 154 d = oH R d) → Q none (m1, tl len)) : ∀ (d : Nat) (c : Nat) (m : Mm), (Cn R < c + d) → (c ≤ Cn R) → (FrS m0 m) → (RdM R m) → (∀ d, d < c → m 153 d = oL R d ∧ m 154 d = oH R d) → E 166 8 [some (aA 124), some (aI ((i : Nat) : Int)), some (aI ((c : Nat) : Int))] [] (m, tl len) Q := by
  intro d
  induction d with
  | zero => intro c m hd hcn I1 I2 I3; omega
  | succ d ih =>
    intro c m hd hcn I1 I2 I3
    have hn60 := hV.1
    have hMm : MR R i m := I1.MR hM
    refine E_s (p' := 9) (st' := aI ((c : Nat) : Int) :: _) rfl rfl ?_
    refine E_s (p' := 10) (st' := aA 124 :: _) rfl rfl ?_
    refine E_gA (b := 125) rfl rfl rfl rfl rfl rfl ?_
    refine E_s (p' := 14) (st' := aI ((i : Nat) : Int) :: _) rfl rfl ?_
    refine E_ald (e := i) (N := 4) (v := ((Cn R : Nat) : Int)) rfl rfl (rfl) (by omega) (MR_125 hMm) ?_
    refine E_icmp_ge (x := ((c : Nat) : Int)) (y := ((Cn R : Nat) : Int)) rfl (by decide) (fun h_1 => ?_) (fun h_1 => ?_)
    · refine E_go (p' := 82) (L' := [some (aA 124), some (aI ((i : Nat) : Int)), some (aI ((c : Nat) : Int))]) (st' := []) rfl rfl rfl ?_
      refine E_ret rfl rfl ?_
      have ec : c = Cn R := by omega
      subst ec
      exact q m I1 I3
    · refine E_go (p' := 18) (L' := [some (aA 124), some (aI ((i : Nat) : Int)), some (aI ((c : Nat) : Int))]) (st' := []) rfl rfl rfl ?_
      refine E_s (p' := 19) (st' := aA 124 :: _) rfl rfl ?_
      refine E_s (p' := 21) (st' := aI 60 :: _) rfl rfl ?_
      refine E_s (p' := 22) (st' := aI ((i : Nat) : Int) :: _) rfl rfl ?_
      refine E_mul (v := ((60 * i : Nat) : Int)) rfl (by omega) (by omega) ?_
      refine E_s (p' := 24) (st' := aI ((c : Nat) : Int) :: _) rfl rfl ?_
      refine E_add (v := ((60 * i + c : Nat) : Int)) rfl (by omega) (by omega) ?_
      refine E_callV (k' := 148) (a := 124) (r := []) (L0 := [some (aA 124), some (aI ((60 * i + c : Nat) : Int)), none, none]) rfl rfl rfl rfl rfl rfl rfl rfl rfl rfl ?_
      refine m_readCord hi9 hMm hV (c := c) (by omega) I2 (fun m1 K1 K2 K3 K4 K5 => ?_)
      refine E_go (p' := 28) (L' := [some (aA 124), some (aI ((i : Nat) : Int)), some (aI ((c : Nat) : Int))]) (st' := []) rfl rfl rfl ?_
      have hfb := Rft_b R c
      have hvb := Rvl_c hV (show c < Cn R by omega)
      have hlb := Rls_b (R := R) c
      refine E_s (p' := 29) (st' := aA 124 :: _) rfl rfl ?_
      refine E_gA (b := 153) rfl rfl rfl rfl rfl rfl ?_
      refine E_s (p' := 33) (st' := aI ((c : Nat) : Int) :: _) rfl rfl ?_
      refine E_s (p' := 34) (st' := aA 124 :: _) rfl rfl ?_
      refine E_gI (v := ((Rft R c : Nat) : Int)) rfl rfl rfl rfl K3 ?_
      refine E_if_le (x := ((Rft R c : Nat) : Int)) rfl (by decide) (fun h_2 => ?_) (fun h_2 => ?_)
      · refine E_go (p' := 44) (L' := [some (aA 124), some (aI ((i : Nat) : Int)), some (aI ((c : Nat) : Int))]) (st' := [aI ((c : Nat) : Int), aA 153]) rfl rfl rfl ?_
        refine E_s (p' := 45) (st' := aA 124 :: _) rfl rfl ?_
        refine E_gI (v := ((Rvl R c : Nat) : Int)) rfl rfl rfl rfl K4 ?_
        refine E_ast (e := c) (N := 60) rfl rfl (rfl) (by omega) ?_
        refine E_s (p' := 50) (st' := aA 124 :: _) rfl rfl ?_
        refine E_gA (b := 154) rfl rfl rfl rfl rfl rfl ?_
        refine E_s (p' := 54) (st' := aI ((c : Nat) : Int) :: _) rfl rfl ?_
        refine E_s (p' := 55) (st' := aA 124 :: _) rfl rfl ?_
        refine E_gI (v := ((Rft R c : Nat) : Int)) rfl rfl rfl rfl ((up2_ne (by omega)).trans (K3)) ?_
        refine E_if_le (x := ((Rft R c : Nat) : Int)) rfl (by decide) (fun h_3 => ?_) (fun h_3 => ?_)
        · refine E_go (p' := 66) (L' := [some (aA 124), some (aI ((i : Nat) : Int)), some (aI ((c : Nat) : Int))]) (st' := [aI ((c : Nat) : Int), aA 154]) rfl rfl rfl ?_
          refine E_s (p' := 67) (st' := aA 124 :: _) rfl rfl ?_
          refine E_gI (v := ((Rvl R c : Nat) : Int)) rfl rfl rfl rfl ((up2_ne (by omega)).trans (K4)) ?_
          refine E_s (p' := 71) (st' := aA 124 :: _) rfl rfl ?_
          refine E_gI (v := ((Rls R c : Nat) : Int)) rfl rfl rfl rfl ((up2_ne (by omega)).trans (K5)) ?_
          refine E_add (v := ((Rvl R c + Rls R c : Nat) : Int)) rfl (by omega) (by omega) ?_
          refine E_ast (e := c) (N := 60) rfl rfl (rfl) (by omega) ?_
          refine E_inc (x := ((c : Nat) : Int)) (w := ((c + 1 : Nat) : Int)) (L' := [some (aA 124), some (aI ((i : Nat) : Int)), some (aI ((c + 1 : Nat) : Int))]) rfl rfl rfl (by omega) (by omega) rfl ?_
          refine E_s (p' := 8) rfl rfl ?_
          refine ih (c + 1) _ (by omega) (by omega) (fun b z g1 g2 g3 => (up2_ne (by omega)).trans ((up2_ne (by omega)).trans ((K1 b z g1 g2).trans (I1 b z g1 g2 g3)))) (K2.of (fun b j hb => (up2_ne (by omega)).trans (up2_ne (by omega)))) (fun d hd9 => ?_)
          by_cases g9 : d = c
          · rw [g9]
            refine ⟨((up2_ne (by omega)).trans up2_eq).trans ?_, up2_eq.trans ?_⟩
            · unfold oL; split <;> omega
            · unfold oH; split <;> omega
          · exact ⟨(up2_ne (by omega)).trans ((up2_sl g9).trans ((K1 _ _ (by omega) (by omega)).trans (I3 d (by omega)).1)), (up2_sl g9).trans ((up2_ne (by omega)).trans ((K1 _ _ (by omega) (by omega)).trans (I3 d (by omega)).2))⟩
        · refine E_go (p' := 61) (L' := [some (aA 124), some (aI ((i : Nat) : Int)), some (aI ((c : Nat) : Int))]) (st' := [aI ((c : Nat) : Int), aA 154]) rfl rfl rfl ?_
          refine E_s (p' := 63) (st' := aI 999999 :: _) rfl rfl ?_
          refine E_s (p' := 75) rfl rfl ?_
          refine E_ast (e := c) (N := 60) rfl rfl (rfl) (by omega) ?_
          refine E_inc (x := ((c : Nat) : Int)) (w := ((c + 1 : Nat) : Int)) (L' := [some (aA 124), some (aI ((i : Nat) : Int)), some (aI ((c + 1 : Nat) : Int))]) rfl rfl rfl (by omega) (by omega) rfl ?_
          refine E_s (p' := 8) rfl rfl ?_
          refine ih (c + 1) _ (by omega) (by omega) (fun b z g1 g2 g3 => (up2_ne (by omega)).trans ((up2_ne (by omega)).trans ((K1 b z g1 g2).trans (I1 b z g1 g2 g3)))) (K2.of (fun b j hb => (up2_ne (by omega)).trans (up2_ne (by omega)))) (fun d hd9 => ?_)
          by_cases g9 : d = c
          · rw [g9]
            refine ⟨((up2_ne (by omega)).trans up2_eq).trans ?_, up2_eq.trans ?_⟩
            · unfold oL; split <;> omega
            · unfold oH; split <;> omega
          · exact ⟨(up2_ne (by omega)).trans ((up2_sl g9).trans ((K1 _ _ (by omega) (by omega)).trans (I3 d (by omega)).1)), (up2_sl g9).trans ((up2_ne (by omega)).trans ((K1 _ _ (by omega) (by omega)).trans (I3 d (by omega)).2))⟩
      · refine E_go (p' := 40) (L' := [some (aA 124), some (aI ((i : Nat) : Int)), some (aI ((c : Nat) : Int))]) (st' := [aI ((c : Nat) : Int), aA 153]) rfl rfl rfl ?_
        refine E_s (p' := 41) (st' := aI 0 :: _) rfl rfl ?_
        refine E_s (p' := 48) rfl rfl ?_
        refine E_ast (e := c) (N := 60) rfl rfl (rfl) (by omega) ?_
        refine E_s (p' := 50) (st' := aA 124 :: _) rfl rfl ?_
        refine E_gA (b := 154) rfl rfl rfl rfl rfl rfl ?_
        refine E_s (p' := 54) (st' := aI ((c : Nat) : Int) :: _) rfl rfl ?_
        refine E_s (p' := 55) (st' := aA 124 :: _) rfl rfl ?_
        refine E_gI (v := ((Rft R c : Nat) : Int)) rfl rfl rfl rfl ((up2_ne (by omega)).trans (K3)) ?_
        refine E_if_le (x := ((Rft R c : Nat) : Int)) rfl (by decide) (fun h_4 => ?_) (fun h_4 => ?_)
        · refine E_go (p' := 66) (L' := [some (aA 124), some (aI ((i : Nat) : Int)), some (aI ((c : Nat) : Int))]) (st' := [aI ((c : Nat) : Int), aA 154]) rfl rfl rfl ?_
          refine E_s (p' := 67) (st' := aA 124 :: _) rfl rfl ?_
          refine E_gI (v := ((Rvl R c : Nat) : Int)) rfl rfl rfl rfl ((up2_ne (by omega)).trans (K4)) ?_
          refine E_s (p' := 71) (st' := aA 124 :: _) rfl rfl ?_
          refine E_gI (v := ((Rls R c : Nat) : Int)) rfl rfl rfl rfl ((up2_ne (by omega)).trans (K5)) ?_
          refine E_add (v := ((Rvl R c + Rls R c : Nat) : Int)) rfl (by omega) (by omega) ?_
          refine E_ast (e := c) (N := 60) rfl rfl (rfl) (by omega) ?_
          refine E_inc (x := ((c : Nat) : Int)) (w := ((c + 1 : Nat) : Int)) (L' := [some (aA 124), some (aI ((i : Nat) : Int)), some (aI ((c + 1 : Nat) : Int))]) rfl rfl rfl (by omega) (by omega) rfl ?_
          refine E_s (p' := 8) rfl rfl ?_
          refine ih (c + 1) _ (by omega) (by omega) (fun b z g1 g2 g3 => (up2_ne (by omega)).trans ((up2_ne (by omega)).trans ((K1 b z g1 g2).trans (I1 b z g1 g2 g3)))) (K2.of (fun b j hb => (up2_ne (by omega)).trans (up2_ne (by omega)))) (fun d hd9 => ?_)
          by_cases g9 : d = c
          · rw [g9]
            refine ⟨((up2_ne (by omega)).trans up2_eq).trans ?_, up2_eq.trans ?_⟩
            · unfold oL; split <;> omega
            · unfold oH; split <;> omega
          · exact ⟨(up2_ne (by omega)).trans ((up2_sl g9).trans ((K1 _ _ (by omega) (by omega)).trans (I3 d (by omega)).1)), (up2_sl g9).trans ((up2_ne (by omega)).trans ((K1 _ _ (by omega) (by omega)).trans (I3 d (by omega)).2))⟩
        · refine E_go (p' := 61) (L' := [some (aA 124), some (aI ((i : Nat) : Int)), some (aI ((c : Nat) : Int))]) (st' := [aI ((c : Nat) : Int), aA 154]) rfl rfl rfl ?_
          refine E_s (p' := 63) (st' := aI 999999 :: _) rfl rfl ?_
          refine E_s (p' := 75) rfl rfl ?_
          refine E_ast (e := c) (N := 60) rfl rfl (rfl) (by omega) ?_
          refine E_inc (x := ((c : Nat) : Int)) (w := ((c + 1 : Nat) : Int)) (L' := [some (aA 124), some (aI ((i : Nat) : Int)), some (aI ((c + 1 : Nat) : Int))]) rfl rfl rfl (by omega) (by omega) rfl ?_
          refine E_s (p' := 8) rfl rfl ?_
          refine ih (c + 1) _ (by omega) (by omega) (fun b z g1 g2 g3 => (up2_ne (by omega)).trans ((up2_ne (by omega)).trans ((K1 b z g1 g2).trans (I1 b z g1 g2 g3)))) (K2.of (fun b j hb => (up2_ne (by omega)).trans (up2_ne (by omega)))) (fun d hd9 => ?_)
          by_cases g9 : d = c
          · rw [g9]
            refine ⟨((up2_ne (by omega)).trans up2_eq).trans ?_, up2_eq.trans ?_⟩
            · unfold oL; split <;> omega
            · unfold oH; split <;> omega
          · exact ⟨(up2_ne (by omega)).trans ((up2_sl g9).trans ((K1 _ _ (by omega) (by omega)).trans (I3 d (by omega)).1)), (up2_sl g9).trans ((up2_ne (by omega)).trans ((K1 _ _ (by omega) (by omega)).trans (I3 d (by omega)).2))⟩
theorem m_own (hi9 : i < 4) (hM : MR R i m0) (hV : VR R) (q : ∀ m1 : Mm, FrS m0 m1 → (∀ d, d < Cn R → m1 153 d = oL R d ∧ m1 154 d = oH R d) → Q none (m1, tl len)) : E 166 0 [some (aA 124), some (aI ((i : Nat) : Int)), none] [] (m0, tl len) Q := by
  refine E_s (p' := 1) (st' := aA 124 :: _) rfl rfl ?_
  refine E_s (p' := 2) (st' := aI ((i : Nat) : Int) :: _) rfl rfl ?_
  refine E_callV (k' := 147) (a := 124) (r := []) (L0 := [some (aA 124), some (aI ((i : Nat) : Int)), none, none]) rfl rfl rfl rfl rfl rfl rfl rfl rfl rfl ?_
  refine m_read hi9 hM hV (fun m1 K1 K2 => ?_)
  refine E_go (p' := 5) (L' := [some (aA 124), some (aI ((i : Nat) : Int)), none]) (st' := [aI (bi (decide (0 < RL R)))]) rfl rfl rfl ?_
  refine E_s (p' := 6) rfl rfl ?_
  refine E_s (p' := 7) (st' := aI 0 :: _) rfl rfl ?_
  refine E_s (p' := 8) (L' := [some (aA 124), some (aI ((i : Nat) : Int)), some (aI 0)]) rfl rfl ?_
  exact yl_ow hi9 hM hV q (Cn R + 1) 0 m1 (by omega) (by omega) (fun b z g1 g2 _ => K1 b z g1 g2) K2 (fun d hd9 => absurd hd9 (by omega))
theorem yl_roA (hi9 : i < 4) (hM : MR R i m0) (hV : VR R) (hb : bnd (Cn R) lo hi) (hlo : ∀ c, c < Cn R → m0 155 c = lo c ∧ m0 156 c = hi c) (hk : ∀ m1 : Mm, (∀ b z, b ≠ 157 → b ≠ 158 → m1 b z = m0 b z) → RWm (Cn R) lo hi (lo, hi) m1 → E 168 42 [some (aA 124), some (aI (i : Int)), some (aI (Cn R : Int)), none, none, none, none, none] [] (m1, tl len) Q) : ∀ (d : Nat) (c : Nat) (m : Mm), (Cn R < c + d) → (c ≤ Cn R) → (∀ b z, b ≠ 157 → b ≠ 158 → m b z = m0 b z) → (∀ x, x < c → m 157 x = lo x ∧ m 158 x = hi x) → E 168 2 [some (aA 124), some (aI ((i : Nat) : Int)), some (aI ((c : Nat) : Int)), none, none, none, none, none] [] (m, tl len) Q := by
  intro d
  induction d with
  | zero => intro c m hd hc I0 I1; omega
  | succ d ih =>
    intro c m hd hc I0 I1
    have hn60 := hV.1
    have hMm : MR R i m := hM.of (fun b j g1 g2 => I0 b j (by omega) (by omega))
    refine E_s (p' := 3) (st' := aI ((c : Nat) : Int) :: _) rfl rfl ?_
    refine E_s (p' := 4) (st' := aA 124 :: _) rfl rfl ?_
    refine E_gA (b := 125) rfl rfl rfl rfl rfl rfl ?_
    refine E_s (p' := 8) (st' := aI ((i : Nat) : Int) :: _) rfl rfl ?_
    refine E_ald (e := i) (N := 4) (v := ((Cn R : Nat) : Int)) rfl rfl (rfl) (by omega) (MR_125 hMm) ?_
    refine E_icmp_ge (x := ((c : Nat) : Int)) (y := ((Cn R : Nat) : Int)) rfl (by decide) (fun h_1 => ?_) (fun h_1 => ?_)
    · refine E_go (p' := 42) (L' := [some (aA 124), some (aI ((i : Nat) : Int)), some (aI ((c : Nat) : Int)), none, none, none, none, none]) (st' := []) rfl rfl rfl ?_
      have e9 : c = Cn R := by omega
      subst e9
      exact hk m I0 (fun x hx => ⟨(I0 _ _ (by omega) (by omega)).trans (hlo x hx).1, (I0 _ _ (by omega) (by omega)).trans (hlo x hx).2, (I1 x hx).1, (I1 x hx).2⟩)
    · refine E_go (p' := 12) (L' := [some (aA 124), some (aI ((i : Nat) : Int)), some (aI ((c : Nat) : Int)), none, none, none, none, none]) (st' := []) rfl rfl rfl ?_
      refine E_s (p' := 13) (st' := aA 124 :: _) rfl rfl ?_
      refine E_gA (b := 157) rfl rfl rfl rfl rfl rfl ?_
      refine E_s (p' := 17) (st' := aI ((c : Nat) : Int) :: _) rfl rfl ?_
      refine E_s (p' := 18) (st' := aA 124 :: _) rfl rfl ?_
      refine E_gA (b := 155) rfl rfl rfl rfl rfl rfl ?_
      refine E_s (p' := 22) (st' := aI ((c : Nat) : Int) :: _) rfl rfl ?_
      refine E_ald (e := c) (N := 60) (v := (((lo c)))) rfl rfl (rfl) (by omega) ((I0 _ _ (by omega) (by omega)).trans (hlo c (by omega)).1) ?_
      refine E_ast (e := c) (N := 60) rfl rfl (rfl) (by omega) ?_
      refine E_s (p' := 25) (st' := aA 124 :: _) rfl rfl ?_
      refine E_gA (b := 158) rfl rfl rfl rfl rfl rfl ?_
      refine E_s (p' := 29) (st' := aI ((c : Nat) : Int) :: _) rfl rfl ?_
      refine E_s (p' := 30) (st' := aA 124 :: _) rfl rfl ?_
      refine E_gA (b := 156) rfl rfl rfl rfl rfl rfl ?_
      refine E_s (p' := 34) (st' := aI ((c : Nat) : Int) :: _) rfl rfl ?_
      refine E_ald (e := c) (N := 60) (v := (((hi c)))) rfl rfl (rfl) (by omega) ((up2_ne (by omega)).trans (((I0 _ _ (by omega) (by omega)).trans (hlo c (by omega)).2))) ?_
      refine E_ast (e := c) (N := 60) rfl rfl (rfl) (by omega) ?_
      refine E_inc (x := ((c : Nat) : Int)) (w := ((c + 1 : Nat) : Int)) (L' := [some (aA 124), some (aI ((i : Nat) : Int)), some (aI ((c + 1 : Nat) : Int)), none, none, none, none, none]) rfl rfl rfl (by omega) (by omega) rfl ?_
      refine E_s (p' := 2) rfl rfl ?_
      refine ih (c + 1) _ (by omega) (by omega) (fun b z g1 g2 => (up2_ne g2).trans ((up2_ne g1).trans (I0 b z g1 g2))) (fun x hx => ?_)
      by_cases g9 : x = c
      · rw [g9]; exact ⟨(up2_ne (by omega)).trans up2_eq, up2_eq⟩
      · exact ⟨(up2_ne (by omega)).trans ((up2_sl g9).trans (I1 x (by omega)).1), (up2_sl g9).trans ((up2_ne (by omega)).trans (I1 x (by omega)).2)⟩
theorem yl_roC (hi9 : i < 4) (hM : MR R i m) (hV : VR R) (hb : bnd (Cn R) lo hi) {s : Nat} (hs : s < Sn R) (hW : RWm (Cn R) lo hi p m) {x7 : Option AV} (hk : E 168 150 [some (aA 124), some (aI (i : Int)), some (aI ((40 * i + s : Nat) : Int)), some (aI (Sw R s : Int)), some (aI (lsS R lo s (Sp R s))), some (aI (lsS R hi s (Sp R s))), some (aI ((480 * i + 12 * s + Sp R s : Nat) : Int)), x7] [] (m, tl len) Q) : ∀ (d : Nat) (k : Nat), (Sp R s < k + d) → (k ≤ Sp R s) → E 168 94 [some (aA 124), some (aI ((i : Nat) : Int)), some (aI ((40 * i + s : Nat) : Int)), some (aI ((Sw R s : Nat) : Int)), some (aI (((lsS R lo s k)))), some (aI (((lsS R hi s k)))), some (aI ((480 * i + 12 * s + k : Nat) : Int)), x7] [] (m, tl len) Q := by
  intro d
  induction d with
  | zero => intro k hd hk9; omega
  | succ d ih =>
    intro k hd hk9
    have hn60 := hV.1
    have hs40 := hV.2.2.2.2.1
    have hp12 := (hV.2.2.2.2.2.1 s hs).2
    have hwn := (hV.2.2.2.2.2.1 s hs).1
    have hsb := lsS_b hV hb hs k hk9
    refine E_s (p' := 96) (st' := aI ((480 * i + 12 * s + k : Nat) : Int) :: _) rfl rfl ?_
    refine E_s (p' := 98) (st' := aI 12 :: _) rfl rfl ?_
    refine E_s (p' := 99) (st' := aI ((40 * i + s : Nat) : Int) :: _) rfl rfl ?_
    refine E_mul (v := ((480 * i + 12 * s : Nat) : Int)) rfl (by omega) (by omega) ?_
    refine E_s (p' := 101) (st' := aA 124 :: _) rfl rfl ?_
    refine E_gA (b := 138) rfl rfl rfl rfl rfl rfl ?_
    refine E_s (p' := 105) (st' := aI ((40 * i + s : Nat) : Int) :: _) rfl rfl ?_
    refine E_ald (e := 40 * i + s) (N := 160) (v := ((Sp R s : Nat) : Int)) rfl rfl (rfl) (by omega) (MR_138 hM (by omega) (by omega)) ?_
    refine E_add (v := ((480 * i + 12 * s + Sp R s : Nat) : Int)) rfl (by omega) (by omega) ?_
    refine E_icmp_ge (x := ((480 * i + 12 * s + k : Nat) : Int)) (y := ((480 * i + 12 * s + Sp R s : Nat) : Int)) rfl (by decide) (fun h_1 => ?_) (fun h_1 => ?_)
    · refine E_go (p' := 150) (L' := [some (aA 124), some (aI ((i : Nat) : Int)), some (aI ((40 * i + s : Nat) : Int)), some (aI ((Sw R s : Nat) : Int)), some (aI (((lsS R lo s k)))), some (aI (((lsS R hi s k)))), some (aI ((480 * i + 12 * s + k : Nat) : Int)), x7]) (st' := []) rfl rfl rfl ?_
      have e9 : k = Sp R s := by omega
      rw [e9]
      exact hk
    · refine E_go (p' := 110) (L' := [some (aA 124), some (aI ((i : Nat) : Int)), some (aI ((40 * i + s : Nat) : Int)), some (aI ((Sw R s : Nat) : Int)), some (aI (((lsS R lo s k)))), some (aI (((lsS R hi s k)))), some (aI ((480 * i + 12 * s + k : Nat) : Int)), x7]) (st' := []) rfl rfl rfl ?_
      have hsq := hV.2.2.2.2.2.2 s k hs (show k < Sp R s by omega)
      have hbq := hb _ hsq
      refine E_s (p' := 112) (st' := aI (((lsS R lo s k))) :: _) rfl rfl ?_
      refine E_s (p' := 113) (st' := aA 124 :: _) rfl rfl ?_
      refine E_gA (b := 155) rfl rfl rfl rfl rfl rfl ?_
      refine E_s (p' := 117) (st' := aA 124 :: _) rfl rfl ?_
      refine E_gA (b := 139) rfl rfl rfl rfl rfl rfl ?_
      refine E_s (p' := 122) (st' := aI ((480 * i + 12 * s + k : Nat) : Int) :: _) rfl rfl ?_
      refine E_ald (e := 480 * i + 12 * s + k) (N := 1920) (v := ((Sq R s k : Nat) : Int)) rfl rfl (rfl) (by omega) (MR_139 hM (by omega) (by omega) (by omega)) ?_
      refine E_ald (e := Sq R s k) (N := 60) (v := (((lo (Sq R s k))))) rfl rfl (rfl) (by omega) (hW _ (by omega)).1 ?_
      refine E_add (v := (((lsS R lo s k)) + ((lo (Sq R s k))))) rfl (by omega) (by omega) ?_
      refine E_s (p' := 127) (L' := [some (aA 124), some (aI ((i : Nat) : Int)), some (aI ((40 * i + s : Nat) : Int)), some (aI ((Sw R s : Nat) : Int)), some (aI (((lsS R lo s k)) + ((lo (Sq R s k))))), some (aI (((lsS R hi s k)))), some (aI ((480 * i + 12 * s + k : Nat) : Int)), x7]) rfl rfl ?_
      refine E_s (p' := 129) (st' := aI (((lsS R hi s k))) :: _) rfl rfl ?_
      refine E_s (p' := 130) (st' := aA 124 :: _) rfl rfl ?_
      refine E_gA (b := 156) rfl rfl rfl rfl rfl rfl ?_
      refine E_s (p' := 134) (st' := aA 124 :: _) rfl rfl ?_
      refine E_gA (b := 139) rfl rfl rfl rfl rfl rfl ?_
      refine E_s (p' := 139) (st' := aI ((480 * i + 12 * s + k : Nat) : Int) :: _) rfl rfl ?_
      refine E_ald (e := 480 * i + 12 * s + k) (N := 1920) (v := ((Sq R s k : Nat) : Int)) rfl rfl (rfl) (by omega) (MR_139 hM (by omega) (by omega) (by omega)) ?_
      refine E_ald (e := Sq R s k) (N := 60) (v := (((hi (Sq R s k))))) rfl rfl (rfl) (by omega) (hW _ (by omega)).2.1 ?_
      refine E_add (v := (((lsS R hi s k)) + ((hi (Sq R s k))))) rfl (by omega) (by omega) ?_
      refine E_s (p' := 144) (L' := [some (aA 124), some (aI ((i : Nat) : Int)), some (aI ((40 * i + s : Nat) : Int)), some (aI ((Sw R s : Nat) : Int)), some (aI (((lsS R lo s k)) + ((lo (Sq R s k))))), some (aI (((lsS R hi s k)) + ((hi (Sq R s k))))), some (aI ((480 * i + 12 * s + k : Nat) : Int)), x7]) rfl rfl ?_
      refine E_inc (x := ((480 * i + 12 * s + k : Nat) : Int)) (w := ((480 * i + 12 * s + k + 1 : Nat) : Int)) (L' := [some (aA 124), some (aI ((i : Nat) : Int)), some (aI ((40 * i + s : Nat) : Int)), some (aI ((Sw R s : Nat) : Int)), some (aI (((lsS R lo s k)) + ((lo (Sq R s k))))), some (aI (((lsS R hi s k)) + ((hi (Sq R s k))))), some (aI ((480 * i + 12 * s + k + 1 : Nat) : Int)), x7]) rfl rfl rfl (by omega) (by omega) rfl ?_
      refine E_s (p' := 94) rfl rfl ?_
      exact ih (k + 1) (by omega) (by omega)
theorem yl_roD (hi9 : i < 4) (hM : MR R i m0) (hV : VR R) (hb : bnd (Cn R) lo hi) {s : Nat} (hs : s < Sn R) (hk : ∀ (m1 : Mm) (x6 x7 : Option AV), (∀ b z, b ≠ 157 → b ≠ 158 → m1 b z = m0 b z) → RWm (Cn R) lo hi (nrP R lo hi s p (Sp R s)) m1 → E 168 289 [some (aA 124), some (aI (i : Int)), some (aI ((40 * i + s : Nat) : Int)), some (aI (Sw R s : Int)), some (aI (lsS R lo s (Sp R s))), some (aI (lsS R hi s (Sp R s))), x6, x7] [] (m1, tl len) Q) : ∀ (d : Nat) (k : Nat) (m : Mm) (x7 : Option AV), (Sp R s < k + d) → (k ≤ Sp R s) → (∀ b z, b ≠ 157 → b ≠ 158 → m b z = m0 b z) → (RWm (Cn R) lo hi (nrP R lo hi s p k) m) → E 168 190 [some (aA 124), some (aI ((i : Nat) : Int)), some (aI ((40 * i + s : Nat) : Int)), some (aI ((Sw R s : Nat) : Int)), some (aI (((lsS R lo s (Sp R s))))), some (aI (((lsS R hi s (Sp R s))))), some (aI ((480 * i + 12 * s + k : Nat) : Int)), x7] [] (m, tl len) Q := by
  intro d
  induction d with
  | zero => intro k m x7 hd hk9 I0 W1; omega
  | succ d ih =>
    intro k m x7 hd hk9 I0 W1
    have hn60 := hV.1
    have hs40 := hV.2.2.2.2.1
    have hp12 := (hV.2.2.2.2.2.1 s hs).2
    have hwn := (hV.2.2.2.2.2.1 s hs).1
    have hMm : MR R i m := hM.of (fun b j g1 g2 => I0 b j (by omega) (by omega))
    have hsb := lsS_b hV hb hs (Sp R s) (Nat.le_refl _)
    have hbw := hb _ hwn
    refine E_s (p' := 192) (st' := aI ((480 * i + 12 * s + k : Nat) : Int) :: _) rfl rfl ?_
    refine E_s (p' := 194) (st' := aI 12 :: _) rfl rfl ?_
    refine E_s (p' := 195) (st' := aI ((40 * i + s : Nat) : Int) :: _) rfl rfl ?_
    refine E_mul (v := ((480 * i + 12 * s : Nat) : Int)) rfl (by omega) (by omega) ?_
    refine E_s (p' := 197) (st' := aA 124 :: _) rfl rfl ?_
    refine E_gA (b := 138) rfl rfl rfl rfl rfl rfl ?_
    refine E_s (p' := 201) (st' := aI ((40 * i + s : Nat) : Int) :: _) rfl rfl ?_
    refine E_ald (e := 40 * i + s) (N := 160) (v := ((Sp R s : Nat) : Int)) rfl rfl (rfl) (by omega) (MR_138 hMm (by omega) (by omega)) ?_
    refine E_add (v := ((480 * i + 12 * s + Sp R s : Nat) : Int)) rfl (by omega) (by omega) ?_
    refine E_icmp_ge (x := ((480 * i + 12 * s + k : Nat) : Int)) (y := ((480 * i + 12 * s + Sp R s : Nat) : Int)) rfl (by decide) (fun h_1 => ?_) (fun h_1 => ?_)
    · refine E_go (p' := 289) (L' := [some (aA 124), some (aI ((i : Nat) : Int)), some (aI ((40 * i + s : Nat) : Int)), some (aI ((Sw R s : Nat) : Int)), some (aI (((lsS R lo s (Sp R s))))), some (aI (((lsS R hi s (Sp R s))))), some (aI ((480 * i + 12 * s + k : Nat) : Int)), x7]) (st' := []) rfl rfl rfl ?_
      have e9 : k = Sp R s := by omega
      subst e9
      exact hk m _ x7 I0 W1
    · refine E_go (p' := 206) (L' := [some (aA 124), some (aI ((i : Nat) : Int)), some (aI ((40 * i + s : Nat) : Int)), some (aI ((Sw R s : Nat) : Int)), some (aI (((lsS R lo s (Sp R s))))), some (aI (((lsS R hi s (Sp R s))))), some (aI ((480 * i + 12 * s + k : Nat) : Int)), x7]) (st' := []) rfl rfl rfl ?_
      have hsq := hV.2.2.2.2.2.2 s k hs (show k < Sp R s by omega)
      have hbq := hb _ hsq
      refine E_s (p' := 207) (st' := aA 124 :: _) rfl rfl ?_
      refine E_gA (b := 139) rfl rfl rfl rfl rfl rfl ?_
      refine E_s (p' := 212) (st' := aI ((480 * i + 12 * s + k : Nat) : Int) :: _) rfl rfl ?_
      refine E_ald (e := 480 * i + 12 * s + k) (N := 1920) (v := ((Sq R s k : Nat) : Int)) rfl rfl (rfl) (by omega) (MR_139 hMm (by omega) (by omega) (by omega)) ?_
      refine E_s (p' := 215) (L' := [some (aA 124), some (aI ((i : Nat) : Int)), some (aI ((40 * i + s : Nat) : Int)), some (aI ((Sw R s : Nat) : Int)), some (aI (((lsS R lo s (Sp R s))))), some (aI (((lsS R hi s (Sp R s))))), some (aI ((480 * i + 12 * s + k : Nat) : Int)), some (aI ((Sq R s k : Nat) : Int))]) rfl rfl ?_
      refine E_s (p' := 216) (st' := aA 124 :: _) rfl rfl ?_
      refine E_gA (b := 157) rfl rfl rfl rfl rfl rfl ?_
      refine E_s (p' := 221) (st' := aI ((Sq R s k : Nat) : Int) :: _) rfl rfl ?_
      refine E_s (p' := 222) (st' := aA 124 :: _) rfl rfl ?_
      refine E_gA (b := 157) rfl rfl rfl rfl rfl rfl ?_
      refine E_s (p' := 227) (st' := aI ((Sq R s k : Nat) : Int) :: _) rfl rfl ?_
      refine E_ald (e := Sq R s k) (N := 60) (v := ((((nrP R lo hi s p k).1 (Sq R s k))))) rfl rfl (rfl) (by omega) (W1 _ (by omega)).2.2.1 ?_
      refine E_s (p' := 229) (st' := aA 124 :: _) rfl rfl ?_
      refine E_gA (b := 155) rfl rfl rfl rfl rfl rfl ?_
      refine E_s (p' := 233) (st' := aI ((Sw R s : Nat) : Int) :: _) rfl rfl ?_
      refine E_ald (e := Sw R s) (N := 60) (v := (((lo (Sw R s))))) rfl rfl (rfl) (by omega) (W1 _ (by omega)).1 ?_
      refine E_s (p' := 236) (st' := aI (((lsS R hi s (Sp R s)))) :: _) rfl rfl ?_
      refine E_s (p' := 237) (st' := aA 124 :: _) rfl rfl ?_
      refine E_gA (b := 156) rfl rfl rfl rfl rfl rfl ?_
      refine E_s (p' := 242) (st' := aI ((Sq R s k : Nat) : Int) :: _) rfl rfl ?_
      refine E_ald (e := Sq R s k) (N := 60) (v := (((hi (Sq R s k))))) rfl rfl (rfl) (by omega) (W1 _ (by omega)).2.1 ?_
      refine E_sub (v := (((lsS R hi s (Sp R s))) - ((hi (Sq R s k))))) rfl (by omega) (by omega) ?_
      refine E_sub (v := (((lo (Sw R s))) - ((lsS R hi s (Sp R s))) + ((hi (Sq R s k))))) rfl (by omega) (by omega) ?_
      refine E_callL (p' := 248) (L0 := [some (aI ((((nrP R lo hi s p k).1 (Sq R s k))))), some (aI (((lo (Sw R s))) - ((lsS R hi s (Sp R s))) + ((hi (Sq R s k)))))]) rfl rfl rfl ?_
      refine m_greater (fun h_2 => ?_) (fun h_3 => ?_)
      · refine E_go (p' := 248) (L' := [some (aA 124), some (aI ((i : Nat) : Int)), some (aI ((40 * i + s : Nat) : Int)), some (aI ((Sw R s : Nat) : Int)), some (aI (((lsS R lo s (Sp R s))))), some (aI (((lsS R hi s (Sp R s))))), some (aI ((480 * i + 12 * s + k : Nat) : Int)), some (aI ((Sq R s k : Nat) : Int))]) (st' := [aI ((((nrP R lo hi s p k).1 (Sq R s k)))), aI ((Sq R s k : Nat) : Int), aA 157]) rfl rfl rfl ?_
        refine E_ast (e := Sq R s k) (N := 60) rfl rfl (rfl) (by omega) ?_
        refine E_s (p' := 250) (st' := aA 124 :: _) rfl rfl ?_
        refine E_gA (b := 158) rfl rfl rfl rfl rfl rfl ?_
        refine E_s (p' := 255) (st' := aI ((Sq R s k : Nat) : Int) :: _) rfl rfl ?_
        refine E_s (p' := 256) (st' := aA 124 :: _) rfl rfl ?_
        refine E_gA (b := 158) rfl rfl rfl rfl rfl rfl ?_
        refine E_s (p' := 261) (st' := aI ((Sq R s k : Nat) : Int) :: _) rfl rfl ?_
        refine E_ald (e := Sq R s k) (N := 60) (v := ((((nrP R lo hi s p k).2 (Sq R s k))))) rfl rfl (rfl) (by omega) ((up2_ne (by omega)).trans ((W1 _ (by omega)).2.2.2)) ?_
        refine E_s (p' := 263) (st' := aA 124 :: _) rfl rfl ?_
        refine E_gA (b := 156) rfl rfl rfl rfl rfl rfl ?_
        refine E_s (p' := 267) (st' := aI ((Sw R s : Nat) : Int) :: _) rfl rfl ?_
        refine E_ald (e := Sw R s) (N := 60) (v := (((hi (Sw R s))))) rfl rfl (rfl) (by omega) ((up2_ne (by omega)).trans ((W1 _ (by omega)).2.1)) ?_
        refine E_s (p' := 270) (st' := aI (((lsS R lo s (Sp R s)))) :: _) rfl rfl ?_
        refine E_s (p' := 271) (st' := aA 124 :: _) rfl rfl ?_
        refine E_gA (b := 155) rfl rfl rfl rfl rfl rfl ?_
        refine E_s (p' := 276) (st' := aI ((Sq R s k : Nat) : Int) :: _) rfl rfl ?_
        refine E_ald (e := Sq R s k) (N := 60) (v := (((lo (Sq R s k))))) rfl rfl (rfl) (by omega) ((up2_ne (by omega)).trans ((W1 _ (by omega)).1)) ?_
        refine E_sub (v := (((lsS R lo s (Sp R s))) - ((lo (Sq R s k))))) rfl (by omega) (by omega) ?_
        refine E_sub (v := (((hi (Sw R s))) - ((lsS R lo s (Sp R s))) + ((lo (Sq R s k))))) rfl (by omega) (by omega) ?_
        refine E_callL (p' := 282) (L0 := [some (aI ((((nrP R lo hi s p k).2 (Sq R s k))))), some (aI (((hi (Sw R s))) - ((lsS R lo s (Sp R s))) + ((lo (Sq R s k)))))]) rfl rfl rfl ?_
        refine m_less (fun h_4 => ?_) (fun h_5 => ?_)
        · refine E_go (p' := 282) (L' := [some (aA 124), some (aI ((i : Nat) : Int)), some (aI ((40 * i + s : Nat) : Int)), some (aI ((Sw R s : Nat) : Int)), some (aI (((lsS R lo s (Sp R s))))), some (aI (((lsS R hi s (Sp R s))))), some (aI ((480 * i + 12 * s + k : Nat) : Int)), some (aI ((Sq R s k : Nat) : Int))]) (st' := [aI ((((nrP R lo hi s p k).2 (Sq R s k)))), aI ((Sq R s k : Nat) : Int), aA 158]) rfl rfl rfl ?_
          refine E_ast (e := Sq R s k) (N := 60) rfl rfl (rfl) (by omega) ?_
          refine E_inc (x := ((480 * i + 12 * s + k : Nat) : Int)) (w := ((480 * i + 12 * s + k + 1 : Nat) : Int)) (L' := [some (aA 124), some (aI ((i : Nat) : Int)), some (aI ((40 * i + s : Nat) : Int)), some (aI ((Sw R s : Nat) : Int)), some (aI (((lsS R lo s (Sp R s))))), some (aI (((lsS R hi s (Sp R s))))), some (aI ((480 * i + 12 * s + k + 1 : Nat) : Int)), some (aI ((Sq R s k : Nat) : Int))]) rfl rfl rfl (by omega) (by omega) rfl ?_
          refine E_s (p' := 190) rfl rfl ?_
          exact ih (k + 1) _ _ (by omega) (by omega) (fun b z g1 g2 => (up2_ne g2).trans ((up2_ne g1).trans (I0 b z g1 g2))) (W1.kw (by omega) (by omega))
        · refine E_go (p' := 282) (L' := [some (aA 124), some (aI ((i : Nat) : Int)), some (aI ((40 * i + s : Nat) : Int)), some (aI ((Sw R s : Nat) : Int)), some (aI (((lsS R lo s (Sp R s))))), some (aI (((lsS R hi s (Sp R s))))), some (aI ((480 * i + 12 * s + k : Nat) : Int)), some (aI ((Sq R s k : Nat) : Int))]) (st' := [aI (((hi (Sw R s))) - ((lsS R lo s (Sp R s))) + ((lo (Sq R s k)))), aI ((Sq R s k : Nat) : Int), aA 158]) rfl rfl rfl ?_
          refine E_ast (e := Sq R s k) (N := 60) rfl rfl (rfl) (by omega) ?_
          refine E_inc (x := ((480 * i + 12 * s + k : Nat) : Int)) (w := ((480 * i + 12 * s + k + 1 : Nat) : Int)) (L' := [some (aA 124), some (aI ((i : Nat) : Int)), some (aI ((40 * i + s : Nat) : Int)), some (aI ((Sw R s : Nat) : Int)), some (aI (((lsS R lo s (Sp R s))))), some (aI (((lsS R hi s (Sp R s))))), some (aI ((480 * i + 12 * s + k + 1 : Nat) : Int)), some (aI ((Sq R s k : Nat) : Int))]) rfl rfl rfl (by omega) (by omega) rfl ?_
          refine E_s (p' := 190) rfl rfl ?_
          exact ih (k + 1) _ _ (by omega) (by omega) (fun b z g1 g2 => (up2_ne g2).trans ((up2_ne g1).trans (I0 b z g1 g2))) (W1.kw (by omega) (by omega))
      · refine E_go (p' := 248) (L' := [some (aA 124), some (aI ((i : Nat) : Int)), some (aI ((40 * i + s : Nat) : Int)), some (aI ((Sw R s : Nat) : Int)), some (aI (((lsS R lo s (Sp R s))))), some (aI (((lsS R hi s (Sp R s))))), some (aI ((480 * i + 12 * s + k : Nat) : Int)), some (aI ((Sq R s k : Nat) : Int))]) (st' := [aI (((lo (Sw R s))) - ((lsS R hi s (Sp R s))) + ((hi (Sq R s k)))), aI ((Sq R s k : Nat) : Int), aA 157]) rfl rfl rfl ?_
        refine E_ast (e := Sq R s k) (N := 60) rfl rfl (rfl) (by omega) ?_
        refine E_s (p' := 250) (st' := aA 124 :: _) rfl rfl ?_
        refine E_gA (b := 158) rfl rfl rfl rfl rfl rfl ?_
        refine E_s (p' := 255) (st' := aI ((Sq R s k : Nat) : Int) :: _) rfl rfl ?_
        refine E_s (p' := 256) (st' := aA 124 :: _) rfl rfl ?_
        refine E_gA (b := 158) rfl rfl rfl rfl rfl rfl ?_
        refine E_s (p' := 261) (st' := aI ((Sq R s k : Nat) : Int) :: _) rfl rfl ?_
        refine E_ald (e := Sq R s k) (N := 60) (v := ((((nrP R lo hi s p k).2 (Sq R s k))))) rfl rfl (rfl) (by omega) ((up2_ne (by omega)).trans ((W1 _ (by omega)).2.2.2)) ?_
        refine E_s (p' := 263) (st' := aA 124 :: _) rfl rfl ?_
        refine E_gA (b := 156) rfl rfl rfl rfl rfl rfl ?_
        refine E_s (p' := 267) (st' := aI ((Sw R s : Nat) : Int) :: _) rfl rfl ?_
        refine E_ald (e := Sw R s) (N := 60) (v := (((hi (Sw R s))))) rfl rfl (rfl) (by omega) ((up2_ne (by omega)).trans ((W1 _ (by omega)).2.1)) ?_
        refine E_s (p' := 270) (st' := aI (((lsS R lo s (Sp R s)))) :: _) rfl rfl ?_
        refine E_s (p' := 271) (st' := aA 124 :: _) rfl rfl ?_
        refine E_gA (b := 155) rfl rfl rfl rfl rfl rfl ?_
        refine E_s (p' := 276) (st' := aI ((Sq R s k : Nat) : Int) :: _) rfl rfl ?_
        refine E_ald (e := Sq R s k) (N := 60) (v := (((lo (Sq R s k))))) rfl rfl (rfl) (by omega) ((up2_ne (by omega)).trans ((W1 _ (by omega)).1)) ?_
        refine E_sub (v := (((lsS R lo s (Sp R s))) - ((lo (Sq R s k))))) rfl (by omega) (by omega) ?_
        refine E_sub (v := (((hi (Sw R s))) - ((lsS R lo s (Sp R s))) + ((lo (Sq R s k))))) rfl (by omega) (by omega) ?_
        refine E_callL (p' := 282) (L0 := [some (aI ((((nrP R lo hi s p k).2 (Sq R s k))))), some (aI (((hi (Sw R s))) - ((lsS R lo s (Sp R s))) + ((lo (Sq R s k)))))]) rfl rfl rfl ?_
        refine m_less (fun h_6 => ?_) (fun h_7 => ?_)
        · refine E_go (p' := 282) (L' := [some (aA 124), some (aI ((i : Nat) : Int)), some (aI ((40 * i + s : Nat) : Int)), some (aI ((Sw R s : Nat) : Int)), some (aI (((lsS R lo s (Sp R s))))), some (aI (((lsS R hi s (Sp R s))))), some (aI ((480 * i + 12 * s + k : Nat) : Int)), some (aI ((Sq R s k : Nat) : Int))]) (st' := [aI ((((nrP R lo hi s p k).2 (Sq R s k)))), aI ((Sq R s k : Nat) : Int), aA 158]) rfl rfl rfl ?_
          refine E_ast (e := Sq R s k) (N := 60) rfl rfl (rfl) (by omega) ?_
          refine E_inc (x := ((480 * i + 12 * s + k : Nat) : Int)) (w := ((480 * i + 12 * s + k + 1 : Nat) : Int)) (L' := [some (aA 124), some (aI ((i : Nat) : Int)), some (aI ((40 * i + s : Nat) : Int)), some (aI ((Sw R s : Nat) : Int)), some (aI (((lsS R lo s (Sp R s))))), some (aI (((lsS R hi s (Sp R s))))), some (aI ((480 * i + 12 * s + k + 1 : Nat) : Int)), some (aI ((Sq R s k : Nat) : Int))]) rfl rfl rfl (by omega) (by omega) rfl ?_
          refine E_s (p' := 190) rfl rfl ?_
          exact ih (k + 1) _ _ (by omega) (by omega) (fun b z g1 g2 => (up2_ne g2).trans ((up2_ne g1).trans (I0 b z g1 g2))) (W1.kw (by omega) (by omega))
        · refine E_go (p' := 282) (L' := [some (aA 124), some (aI ((i : Nat) : Int)), some (aI ((40 * i + s : Nat) : Int)), some (aI ((Sw R s : Nat) : Int)), some (aI (((lsS R lo s (Sp R s))))), some (aI (((lsS R hi s (Sp R s))))), some (aI ((480 * i + 12 * s + k : Nat) : Int)), some (aI ((Sq R s k : Nat) : Int))]) (st' := [aI (((hi (Sw R s))) - ((lsS R lo s (Sp R s))) + ((lo (Sq R s k)))), aI ((Sq R s k : Nat) : Int), aA 158]) rfl rfl rfl ?_
          refine E_ast (e := Sq R s k) (N := 60) rfl rfl (rfl) (by omega) ?_
          refine E_inc (x := ((480 * i + 12 * s + k : Nat) : Int)) (w := ((480 * i + 12 * s + k + 1 : Nat) : Int)) (L' := [some (aA 124), some (aI ((i : Nat) : Int)), some (aI ((40 * i + s : Nat) : Int)), some (aI ((Sw R s : Nat) : Int)), some (aI (((lsS R lo s (Sp R s))))), some (aI (((lsS R hi s (Sp R s))))), some (aI ((480 * i + 12 * s + k + 1 : Nat) : Int)), some (aI ((Sq R s k : Nat) : Int))]) rfl rfl rfl (by omega) (by omega) rfl ?_
          refine E_s (p' := 190) rfl rfl ?_
          exact ih (k + 1) _ _ (by omega) (by omega) (fun b z g1 g2 => (up2_ne g2).trans ((up2_ne g1).trans (I0 b z g1 g2))) (W1.kw (by omega) (by omega))
end
