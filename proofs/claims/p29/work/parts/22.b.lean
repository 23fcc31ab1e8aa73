/-- nothing but the model's reading has changed -/
def FrM (m m' : Mm) : Prop := ∀ b z, ¬ (b = 124 ∧ 19 ≤ z ∧ z ≤ 29) → ¬ (141 ≤ b ∧ b ≤ 147) → m' b z = m b z
theorem FrM.rf {m : Mm} : FrM m m := fun _ _ _ _ => rfl
theorem FrM.tr {m m' m'' : Mm} (h : FrM m m') (h' : FrM m' m'') : FrM m m'' := fun b z g1 g2 => (h' b z g1 g2).trans (h b z g1 g2)
theorem FrM.up {m m' : Mm} {a i : Nat} {x : Int} (h : FrM m m') (ha : (a = 124 ∧ 19 ≤ i ∧ i ≤ 29) ∨ (141 ≤ a ∧ a ≤ 147)) : FrM m (up2 m' a i x) := fun b z g1 g2 => (up2_o (by omega)).trans (h b z g1 g2)
theorem FrM.MR {R : RD} {i : Nat} {m m' : Mm} (h : FrM m m') (hM : MR R i m) : MR R i m' := hM.of (fun b j g1 g2 => h b j (by omega) (by omega))
theorem FrM.MS {S : Nat → RD} {m m' : Mm} (h : FrM m m') (hS : MS S m) : MS S m' := hS.of (fun b j g1 g2 => h b j (by omega) (by omega))
theorem FrM.Co1 {m m' : Mm} (h : FrM m m') : Co1 m m' := fun b j hb => h b j (by omega) (by omega)
def RdM (R : RD) (m : Mm) : Prop := m 124 24 = (RL R : Int) ∧ m 124 25 = bi (Run R) ∧ m 124 26 = bi (Rkt R) ∧ ∀ l, l < RL R → m 145 l = (RF R l : Int) ∧ m 146 l = (Rla R l : Int) ∧ m 147 l = (Rme R l : Int)
theorem RdM.of {R : RD} {m m' : Mm} (h : RdM R m) (e : ∀ b j, (b = 124 ∧ 24 ≤ j ∧ j ≤ 26) ∨ (145 ≤ b ∧ b ≤ 147) → m' b j = m b j) : RdM R m' := by
  obtain ⟨h1, h2, h3, h4⟩ := h
  refine ⟨(e _ _ (by omega)).trans h1, (e _ _ (by omega)).trans h2, (e _ _ (by omega)).trans h3, fun l hl => ?_⟩
  obtain ⟨g1, g2, g3⟩ := h4 l hl
  exact ⟨(e _ _ (by omega)).trans g1, (e _ _ (by omega)).trans g2, (e _ _ (by omega)).trans g3⟩
/-- what the model has counted: the CLUSTERS l -/
def PBm (m0 m : Mm) (l : List Cl3) : Prop := FrM m0 m ∧ (∀ h, h < 601 → m 144 h = (atp l h : Int)) ∧ m 124 25 = bi (aun l) ∧ m 124 26 = bi (!l.isEmpty)
theorem take_g {l : List Cl3} {k : Nat} (h : k < l.length) : l.take (k + 1) = l.take k ++ [l.getD k (0, (0, 0))] := by
  rw [List.take_succ, List.getD_eq_getElem?_getD, List.getElem?_eq_getElem h]; rfl
theorem get_mem {l : List Cl3} {k : Nat} (h : k < l.length) : l.getD k (0, (0, 0)) ∈ l := by
  rw [List.getD_eq_getElem?_getD, List.getElem?_eq_getElem h]; exact List.getElem_mem h
theorem lvS_n {f : Nat → Nat} {g : Nat} : ∀ h, (lvS f g h).1 ≤ h := by
  intro h
  induction h with
  | zero => exact Nat.le_refl _
  | succ h ih =>
    obtain ⟨n, F, Lx, M, hq⟩ : ∃ n F Lx M, lvS f g h = (n, (F, (Lx, M))) := ⟨_, _, _, _, rfl⟩
    rw [hq] at ih
    have ih : n ≤ h := ih
    by_cases h0 : f h = 0
    · rw [lvS_0 h0, hq]; show n ≤ _; omega
    · by_cases h1 : n = 0 ∨ Lx (n - 1) + g < h
      · rw [lvS_new hq h0 h1]; show n + 1 ≤ _; omega
      · rw [lvS_old hq h0 h1]; show n ≤ _; omega
section
variable {len : Nat} {m0 : Mm} {Q : Option AV → Sx → Prop} {R : RD} {i : Nat}
theorem yl_rA (hi : i < 4) (hk : ∀ (m1 : Mm) (x3 : Option AV), FrM m0 m1 → (∀ h, h < 601 → m1 144 h = 0) → E 147 22 [some (aA 124), some (aI (i : Int)), some (aI 601), x3] [] (m1, tl len) Q) : ∀ (d : Nat) (h : Nat) (m : Mm) (x3 : Option AV), (601 < h + d) → (h ≤ 601) → (FrM m0 m) → (∀ j, j < h → m 144 j = 0) → E 147 2 [some (aA 124), some (aI ((i : Nat) : Int)), some (aI ((h : Nat) : Int)), x3] [] (m, tl len) Q := by
  intro d
  induction d with
  | zero => intro h m x3 hd hh I1 I2; omega
  | succ d ih =>
    intro h m x3 hd hh I1 I2
    refine E_s (p' := 3) (st' := aI ((h : Nat) : Int) :: _) rfl rfl ?_
    refine E_s (p' := 6) (st' := aI 601 :: _) rfl rfl ?_
    refine E_icmp_ge (x := ((h : Nat) : Int)) (y := 601) rfl (by decide) (fun h_1 => ?_) (fun h_1 => ?_)
    · refine E_go (p' := 22) (L' := [some (aA 124), some (aI ((i : Nat) : Int)), some (aI ((h : Nat) : Int)), x3]) (st' := []) rfl rfl rfl ?_
      have e9 : h = 601 := by omega
      subst e9
      exact hk m x3 I1 I2
    · refine E_go (p' := 9) (L' := [some (aA 124), some (aI ((i : Nat) : Int)), some (aI ((h : Nat) : Int)), x3]) (st' := []) rfl rfl rfl ?_
      refine E_s (p' := 10) (st' := aA 124 :: _) rfl rfl ?_
      refine E_gA (b := 144) rfl rfl rfl rfl rfl rfl ?_
      refine E_s (p' := 14) (st' := aI ((h : Nat) : Int) :: _) rfl rfl ?_
      refine E_s (p' := 15) (st' := aI 0 :: _) rfl rfl ?_
      refine E_ast (e := h) (N := 601) rfl rfl (rfl) (by omega) ?_
      refine E_inc (x := ((h : Nat) : Int)) (w := ((h + 1 : Nat) : Int)) (L' := [some (aA 124), some (aI ((i : Nat) : Int)), some (aI ((h + 1 : Nat) : Int)), x3]) rfl rfl rfl (by omega) (by omega) rfl ?_
      refine E_s (p' := 2) rfl rfl ?_
      exact ih (h + 1) _ x3 (by omega) (by omega) (I1.up (by omega)) (fun j hj => by by_cases g9 : j = h; subst g9; exact up2_eq; exact (up2_sl g9).trans (I2 j (by omega)))
theorem yl_rC (hi : i < 4) (hM : MR R i m0) (hV : VR R) {c : Nat} (hc : c < Cn R) (hk : ∀ m1 : Mm, PBm m0 m1 (acl R (c + 1)) → E 147 115 [some (aA 124), some (aI (i : Int)), some (aI (c : Int)), some (aI ((clsA R c).length : Int))] [] (m1, tl len) Q) : ∀ (d : Nat) (k : Nat) (m : Mm), ((clsA R c).length < k + d) → (k ≤ (clsA R c).length) → (PBm m0 m (acl R c ++ (clsA R c).take k)) → (CLm (clsA R c) m) → E 147 56 [some (aA 124), some (aI ((i : Nat) : Int)), some (aI ((c : Nat) : Int)), some (aI ((k : Nat) : Int))] [] (m, tl len) Q := by
  intro d
  induction d with
  | zero => intro k m hd hkk hI hC9; omega
  | succ d ih =>
    intro k m hd hkk hI hC9
    obtain ⟨i1, i2, i3, i4⟩ := id hI
    have hn60 := hV.1
    have hl1 : (clsA R c).length ≤ 30 := Nat.le_trans (cls_len R c (Ck R c)) (hV.2.2.1 c hc).2.2.2.2.2
    have hl2 := acl_len hV c (by omega)
    refine E_s (p' := 57) (st' := aI ((k : Nat) : Int) :: _) rfl rfl ?_
    refine E_s (p' := 58) (st' := aA 124 :: _) rfl rfl ?_
    refine E_gI (v := (((clsA R c).length : Nat) : Int)) rfl rfl rfl rfl hC9.1 ?_
    refine E_icmp_ge (x := ((k : Nat) : Int)) (y := (((clsA R c).length : Nat) : Int)) rfl (by decide) (fun h_1 => ?_) (fun h_1 => ?_)
    · refine E_go (p' := 115) (L' := [some (aA 124), some (aI ((i : Nat) : Int)), some (aI ((c : Nat) : Int)), some (aI ((k : Nat) : Int))]) (st' := []) rfl rfl rfl ?_
      have ek : k = (clsA R c).length := by omega
      subst ek
      rw [List.take_length] at hI
      exact hk m hI
    · refine E_go (p' := 64) (L' := [some (aA 124), some (aI ((i : Nat) : Int)), some (aI ((c : Nat) : Int)), some (aI ((k : Nat) : Int))]) (st' := []) rfl rfl rfl ?_
      have hpl := cls_pl hV hc _ (Nat.le_refl _) _ (get_mem (l := clsA R c) (k := k) (by omega))
      have hat := atp_le (acl R c ++ (clsA R c).take k) ((clsA R c).getD k (0, (0, 0))).1
      rw [List.length_append, List.length_take] at hat
      refine E_s (p' := 65) (st' := aA 124 :: _) rfl rfl ?_
      refine E_gA (b := 144) rfl rfl rfl rfl rfl rfl ?_
      refine E_s (p' := 69) (st' := aA 124 :: _) rfl rfl ?_
      refine E_gA (b := 141) rfl rfl rfl rfl rfl rfl ?_
      refine E_s (p' := 73) (st' := aI ((k : Nat) : Int) :: _) rfl rfl ?_
      refine E_ald (e := k) (N := 30) (v := ((((clsA R c).getD k (0, (0, 0))).1 : Nat) : Int)) rfl rfl (rfl) (by omega) (hC9.2 _ (by omega)).1 ?_
      refine E_s (p' := 75) rfl rfl ?_
      refine E_ald (e := ((clsA R c).getD k (0, (0, 0))).1) (N := 601) (v := ((atp (acl R c ++ (clsA R c).take k) (((clsA R c).getD k (0, (0, 0))).1) : Nat) : Int)) rfl rfl (rfl) (by omega) (i2 _ (by omega)) ?_
      refine E_s (p' := 77) (st' := aI 1 :: _) rfl rfl ?_
      refine E_add (v := ((atp (acl R c ++ (clsA R c).take k) (((clsA R c).getD k (0, (0, 0))).1) + 1 : Nat) : Int)) rfl (by omega) (by omega) ?_
      refine E_ast (e := ((clsA R c).getD k (0, (0, 0))).1) (N := 601) rfl rfl (rfl) (by omega) ?_
      refine E_s (p' := 80) (st' := aA 124 :: _) rfl rfl ?_
      refine E_s (p' := 81) (st' := aA 124 :: _) rfl rfl ?_
      refine E_gI (v := (bi (aun (acl R c ++ (clsA R c).take k)))) rfl rfl rfl rfl ((up2_ne (by omega)).trans (i3)) ?_
      suffices h_2 : E 147 101 [some (aA 124), some (aI ((i : Nat) : Int)), some (aI ((c : Nat) : Int)), some (aI ((k : Nat) : Int))] [aI (bi ((aun (acl R c ++ (clsA R c).take k)) || (!decide (((((clsA R c).getD k (0, (0, 0))).2.1 : Nat) : Int) ≤ 0)))), aA 124] (up2 m 144 (((clsA R c).getD k (0, (0, 0))).1) ((atp (acl R c ++ (clsA R c).take k) (((clsA R c).getD k (0, (0, 0))).1) + 1 : Nat) : Int), tl len) Q by
        refine E_b_ne0 (b := (aun (acl R c ++ (clsA R c).take k))) rfl (by decide) (fun h_3 => ?_) (fun h_3 => ?_)
        · refine E_go (p' := 96) (L' := [some (aA 124), some (aI ((i : Nat) : Int)), some (aI ((c : Nat) : Int)), some (aI ((k : Nat) : Int))]) (st' := [aA 124]) rfl rfl rfl ?_
          refine E_s (p' := 97) (st' := aI 1 :: _) rfl rfl ?_
          refine E_s (p' := 101) rfl rfl ?_
          rw [h_3] at h_2
          exact h_2
        · refine E_go (p' := 87) (L' := [some (aA 124), some (aI ((i : Nat) : Int)), some (aI ((c : Nat) : Int)), some (aI ((k : Nat) : Int))]) (st' := [aA 124]) rfl rfl rfl ?_
          refine E_s (p' := 88) (st' := aA 124 :: _) rfl rfl ?_
          refine E_gA (b := 142) rfl rfl rfl rfl rfl rfl ?_
          refine E_s (p' := 92) (st' := aI ((k : Nat) : Int) :: _) rfl rfl ?_
          refine E_ald (e := k) (N := 30) (v := ((((clsA R c).getD k (0, (0, 0))).2.1 : Nat) : Int)) rfl rfl (rfl) (by omega) ((up2_ne (by omega)).trans ((hC9.2 _ (by omega)).2.1)) ?_
          refine E_if_le (x := ((((clsA R c).getD k (0, (0, 0))).2.1 : Nat) : Int)) rfl (by decide) (fun h_4 => ?_) (fun h_4 => ?_)
          · refine E_go (p' := 100) (L' := [some (aA 124), some (aI ((i : Nat) : Int)), some (aI ((c : Nat) : Int)), some (aI ((k : Nat) : Int))]) (st' := [aA 124]) rfl rfl rfl ?_
            refine E_s (p' := 101) (st' := aI 0 :: _) rfl rfl ?_
            rw [h_3] at h_2
            rw [decide_eq_true (p := ((((clsA R c).getD k (0, (0, 0))).2.1 : Nat) : Int) ≤ 0) (by omega)] at h_2
            exact h_2
          · refine E_go (p' := 96) (L' := [some (aA 124), some (aI ((i : Nat) : Int)), some (aI ((c : Nat) : Int)), some (aI ((k : Nat) : Int))]) (st' := [aA 124]) rfl rfl rfl ?_
            refine E_s (p' := 97) (st' := aI 1 :: _) rfl rfl ?_
            refine E_s (p' := 101) rfl rfl ?_
            rw [h_3] at h_2
            rw [decide_eq_false (p := ((((clsA R c).getD k (0, (0, 0))).2.1 : Nat) : Int) ≤ 0) (by omega)] at h_2
            exact h_2
      refine E_pI rfl rfl rfl rfl (Or.inr (bi01 _)) ?_
      refine E_s (p' := 105) (st' := aA 124 :: _) rfl rfl ?_
      refine E_s (p' := 106) (st' := aI 1 :: _) rfl rfl ?_
      refine E_pI rfl rfl rfl rfl (Or.inr (by decide)) ?_
      refine E_inc (x := ((k : Nat) : Int)) (w := ((k + 1 : Nat) : Int)) (L' := [some (aA 124), some (aI ((i : Nat) : Int)), some (aI ((c : Nat) : Int)), some (aI ((k + 1 : Nat) : Int))]) rfl rfl rfl (by omega) (by omega) rfl ?_
      refine E_s (p' := 56) rfl rfl ?_
      refine ih (k + 1) _ (by omega) (by omega) ?_ (hC9.of (fun b j hb => ((up2_o (by omega)).trans ((up2_o (by omega)).trans (up2_o (by omega))))))
      rw [take_g (by omega), ← List.append_assoc]
      refine ⟨((i1.up (by omega)).up (by omega)).up (by omega), fun h hh => ?_, ?_, ?_⟩
      · rw [atp_app]
        refine (up2_ne (by omega)).trans ((up2_ne (by omega)).trans ?_)
        by_cases g9 : h = ((clsA R c).getD k (0, (0, 0))).1
        · rw [if_pos g9, g9]; exact up2_eq
        · rw [if_neg g9]; exact (up2_sl g9).trans (i2 h hh)
      · rw [aun_app]
        refine ((up2_sl (by decide)).trans up2_eq).trans ?_
        congr 2
        by_cases g9 : ((clsA R c).getD k (0, (0, 0))).2.1 = 0
        · rw [g9]; rfl
        · rw [decide_eq_false (by omega), bne_iff_ne.mpr g9]; rfl
      · rw [isE_app]; exact up2_eq
theorem yl_rB (hi : i < 4) (hM : MR R i m0) (hV : VR R) (hk : ∀ (m1 : Mm) (x3 : Option AV), PBm m0 m1 (RA R) → E 147 121 [some (aA 124), some (aI (i : Int)), some (aI (Cn R : Int)), x3] [] (m1, tl len) Q) : ∀ (d : Nat) (c : Nat) (m : Mm) (x3 : Option AV), (Cn R < c + d) → (c ≤ Cn R) → (PBm m0 m (acl R c)) → E 147 34 [some (aA 124), some (aI ((i : Nat) : Int)), some (aI ((c : Nat) : Int)), x3] [] (m, tl len) Q := by
  intro d
  induction d with
  | zero => intro c m x3 hd hcn hI; omega
  | succ d ih =>
    intro c m x3 hd hcn hI
    obtain ⟨i1, i2, i3, i4⟩ := id hI
    have hn60 := hV.1
    have hMm : MR R i m := i1.MR hM
    refine E_s (p' := 35) (st' := aI ((c : Nat) : Int) :: _) rfl rfl ?_
    refine E_s (p' := 36) (st' := aA 124 :: _) rfl rfl ?_
    refine E_gA (b := 125) rfl rfl rfl rfl rfl rfl ?_
    refine E_s (p' := 40) (st' := aI ((i : Nat) : Int) :: _) rfl rfl ?_
    refine E_ald (e := i) (N := 4) (v := ((Cn R : Nat) : Int)) rfl rfl (rfl) (by omega) (MR_125 hMm) ?_
    refine E_icmp_ge (x := ((c : Nat) : Int)) (y := ((Cn R : Nat) : Int)) rfl (by decide) (fun h_1 => ?_) (fun h_1 => ?_)
    · refine E_go (p' := 121) (L' := [some (aA 124), some (aI ((i : Nat) : Int)), some (aI ((c : Nat) : Int)), x3]) (st' := []) rfl rfl rfl ?_
      have e9 : c = Cn R := by omega
      subst e9
      exact hk m x3 hI
    · refine E_go (p' := 44) (L' := [some (aA 124), some (aI ((i : Nat) : Int)), some (aI ((c : Nat) : Int)), x3]) (st' := []) rfl rfl rfl ?_
      refine E_s (p' := 45) (st' := aA 124 :: _) rfl rfl ?_
      refine E_s (p' := 47) (st' := aI 60 :: _) rfl rfl ?_
      refine E_s (p' := 48) (st' := aI ((i : Nat) : Int) :: _) rfl rfl ?_
      refine E_mul (v := ((60 * i : Nat) : Int)) rfl (by omega) (by omega) ?_
      refine E_s (p' := 50) (st' := aI ((c : Nat) : Int) :: _) rfl rfl ?_
      refine E_add (v := ((60 * i + c : Nat) : Int)) rfl (by omega) (by omega) ?_
      refine E_callV (k' := 146) (a := 124) (r := []) (L0 := [some (aA 124), some (aI ((60 * i + c : Nat) : Int)), none, none, none]) rfl rfl rfl rfl rfl rfl rfl rfl rfl rfl ?_
      refine m_cluster hi hMm hV (c := c) (by omega) (fun m1 J1 J2 => ?_)
      refine E_go (p' := 54) (L' := [some (aA 124), some (aI ((i : Nat) : Int)), some (aI ((c : Nat) : Int)), x3]) (st' := []) rfl rfl rfl ?_
      refine E_s (p' := 55) (st' := aI 0 :: _) rfl rfl ?_
      refine E_s (p' := 56) (L' := [some (aA 124), some (aI ((i : Nat) : Int)), some (aI ((c : Nat) : Int)), some (aI 0)]) rfl rfl ?_
      refine yl_rC hi hM hV (by omega) (fun m2 hJ => ?_) ((clsA R c).length + 1) 0 m1 (by omega) (by omega) ?_ J1
      rotate_left
      · rw [List.take_zero, List.append_nil]
        exact ⟨i1.tr (fun b z g1 g2 => J2 b z (by omega) (by omega)), fun h hh => (J2 _ _ (by omega) (by omega)).trans (i2 h hh), (J2 _ _ (by omega) (by omega)).trans i3, (J2 _ _ (by omega) (by omega)).trans i4⟩
      refine E_inc (x := ((c : Nat) : Int)) (w := ((c + 1 : Nat) : Int)) (L' := [some (aA 124), some (aI ((i : Nat) : Int)), some (aI ((c + 1 : Nat) : Int)), some (aI (((clsA R c).length : Nat) : Int))]) rfl rfl rfl (by omega) (by omega) rfl ?_
      refine E_s (p' := 34) rfl rfl ?_
      exact ih (c + 1) m2 _ (by omega) (by omega) hJ
end
section
variable {len : Nat} {m0 : Mm} {Q : Option AV → Sx → Prop} {g i : Nat} {f : Nat → Nat}
theorem yl_rD (hi : i < 4) (hf : ∀ h, h < 601 → m0 144 h = (f h : Int)) (hg : m0 126 i = (g : Int)) (hg1 : g ≤ 100) (fb : ∀ h, f h ≤ 1800) (hk : ∀ (m1 : Mm) (x3 : Option AV), m1 124 24 = ((lvS f g 601).1 : Int) → (∀ l, l < (lvS f g 601).1 → m1 145 l = ((lvS f g 601).2.1 l : Int) ∧ m1 146 l = ((lvS f g 601).2.2.1 l : Int) ∧ m1 147 l = ((lvS f g 601).2.2.2 l : Int)) → (∀ b z, ¬ (b = 124 ∧ z = 24) → ¬ (145 ≤ b ∧ b ≤ 147) → m1 b z = m0 b z) → E 147 244 [some (aA 124), some (aI (i : Int)), some (aI 601), x3] [] (m1, tl len) Q) {x3 : Option AV} : ∀ (d : Nat) (h n : Nat) (F Lx M : Nat → Nat) (m : Mm), (601 < h + d) → (h ≤ 601) → (lvS f g h = (n, (F, (Lx, M)))) → (m 124 24 = (n : Int)) → (∀ l, l < n → m 145 l = (F l : Int) ∧ m 146 l = (Lx l : Int) ∧ m 147 l = (M l : Int)) → (∀ b z, ¬ (b = 124 ∧ z = 24) → ¬ (145 ≤ b ∧ b ≤ 147) → m b z = m0 b z) → E 147 128 [some (aA 124), some (aI ((i : Nat) : Int)), some (aI ((h : Nat) : Int)), x3] [] (m, tl len) Q := by
  intro d
  induction d with
  | zero => intro h n F Lx M m hd hh hq I0 I1 I2; omega
  | succ d ih =>
    intro h n F Lx M m hd hh hq I0 I1 I2
    have hme : ∀ l, M l ≤ 1800 * h := fun l => by have := lvS_me (g := g) fb h l; rw [hq] at this; exact this
    have hmn := hme (n - 1)
    have hlm : Lx (n - 1) ≤ h := by have := lvS_la (f := f) (g := g) h (n - 1); rw [hq] at this; exact this
    have hnh : n ≤ h := by have := lvS_n (f := f) (g := g) h; rw [hq] at this; exact this
    refine E_s (p' := 129) (st' := aI ((h : Nat) : Int) :: _) rfl rfl ?_
    refine E_s (p' := 132) (st' := aI 601 :: _) rfl rfl ?_
    refine E_icmp_ge (x := ((h : Nat) : Int)) (y := 601) rfl (by decide) (fun h_1 => ?_) (fun h_1 => ?_)
    · refine E_go (p' := 244) (L' := [some (aA 124), some (aI ((i : Nat) : Int)), some (aI ((h : Nat) : Int)), x3]) (st' := []) rfl rfl rfl ?_
      have e9 : h = 601 := by omega
      subst e9
      rw [hq] at hk
      exact hk m x3 I0 I1 I2
    · refine E_go (p' := 135) (L' := [some (aA 124), some (aI ((i : Nat) : Int)), some (aI ((h : Nat) : Int)), x3]) (st' := []) rfl rfl rfl ?_
      have hfh := fb h
      refine E_s (p' := 136) (st' := aA 124 :: _) rfl rfl ?_
      refine E_gA (b := 144) rfl rfl rfl rfl rfl rfl ?_
      refine E_s (p' := 140) (st' := aI ((h : Nat) : Int) :: _) rfl rfl ?_
      refine E_ald (e := h) (N := 601) (v := ((f h : Nat) : Int)) rfl rfl (rfl) (by omega) ((I2 _ _ (by omega) (by omega)).trans (hf _ (by omega))) ?_
      refine E_if_ne (x := ((f h : Nat) : Int)) rfl (by decide) (fun h_2 => ?_) (fun h_2 => ?_)
      · refine E_go (p' := 147) (L' := [some (aA 124), some (aI ((i : Nat) : Int)), some (aI ((h : Nat) : Int)), x3]) (st' := []) rfl rfl rfl ?_
        refine E_s (p' := 148) (st' := aA 124 :: _) rfl rfl ?_
        refine E_gI (v := ((n : Nat) : Int)) rfl rfl rfl rfl I0 ?_
        refine E_if_eq (x := ((n : Nat) : Int)) rfl (by decide) (fun h_3 => ?_) (fun h_3 => ?_)
        · refine E_go (p' := 176) (L' := [some (aA 124), some (aI ((i : Nat) : Int)), some (aI ((h : Nat) : Int)), x3]) (st' := []) rfl rfl rfl ?_
          refine E_s (p' := 177) (st' := aA 124 :: _) rfl rfl ?_
          refine E_gA (b := 145) rfl rfl rfl rfl rfl rfl ?_
          refine E_s (p' := 181) (st' := aA 124 :: _) rfl rfl ?_
          refine E_gI (v := ((n : Nat) : Int)) rfl rfl rfl rfl I0 ?_
          refine E_s (p' := 185) (st' := aI ((h : Nat) : Int) :: _) rfl rfl ?_
          refine E_ast (e := n) (N := 601) rfl rfl (rfl) (by omega) ?_
          refine E_s (p' := 187) (st' := aA 124 :: _) rfl rfl ?_
          refine E_gA (b := 147) rfl rfl rfl rfl rfl rfl ?_
          refine E_s (p' := 191) (st' := aA 124 :: _) rfl rfl ?_
          refine E_gI (v := ((n : Nat) : Int)) rfl rfl rfl rfl ((up2_ne (by omega)).trans (I0)) ?_
          refine E_s (p' := 195) (st' := aI 0 :: _) rfl rfl ?_
          refine E_ast (e := n) (N := 601) rfl rfl (rfl) (by omega) ?_
          refine E_s (p' := 197) (st' := aA 124 :: _) rfl rfl ?_
          refine E_s (p' := 198) (st' := aA 124 :: _) rfl rfl ?_
          refine E_gI (v := ((n : Nat) : Int)) rfl rfl rfl rfl ((up2_ne (by omega)).trans ((up2_ne (by omega)).trans (I0))) ?_
          refine E_s (p' := 202) (st' := aI 1 :: _) rfl rfl ?_
          refine E_add (v := ((n + 1 : Nat) : Int)) rfl (by omega) (by omega) ?_
          refine E_pI rfl rfl rfl rfl (Or.inl rfl) ?_
          refine E_s (p' := 207) (st' := aA 124 :: _) rfl rfl ?_
          refine E_gA (b := 146) rfl rfl rfl rfl rfl rfl ?_
          refine E_s (p' := 211) (st' := aA 124 :: _) rfl rfl ?_
          refine E_gI (v := ((n + 1 : Nat) : Int)) rfl rfl rfl rfl up2_eq ?_
          refine E_s (p' := 215) (st' := aI 1 :: _) rfl rfl ?_
          refine E_sub (v := ((n : Nat) : Int)) rfl (by omega) (by omega) ?_
          refine E_s (p' := 217) (st' := aI ((h : Nat) : Int) :: _) rfl rfl ?_
          refine E_ast (e := n) (N := 601) rfl rfl (rfl) (by omega) ?_
          refine E_s (p' := 219) (st' := aA 124 :: _) rfl rfl ?_
          refine E_gA (b := 147) rfl rfl rfl rfl rfl rfl ?_
          refine E_s (p' := 223) (st' := aA 124 :: _) rfl rfl ?_
          refine E_gI (v := ((n + 1 : Nat) : Int)) rfl rfl rfl rfl ((up2_ne (by omega)).trans (up2_eq)) ?_
          refine E_s (p' := 227) (st' := aI 1 :: _) rfl rfl ?_
          refine E_sub (v := ((n : Nat) : Int)) rfl (by omega) (by omega) ?_
          refine E_s (p' := 229) rfl rfl ?_
          refine E_ald (e := n) (N := 601) (v := 0) rfl rfl (rfl) (by omega) ((up2_ne (by omega)).trans ((up2_ne (by omega)).trans (up2_eq))) ?_
          refine E_s (p' := 231) (st' := aA 124 :: _) rfl rfl ?_
          refine E_gA (b := 144) rfl rfl rfl rfl rfl rfl ?_
          refine E_s (p' := 235) (st' := aI ((h : Nat) : Int) :: _) rfl rfl ?_
          refine E_ald (e := h) (N := 601) (v := ((f h : Nat) : Int)) rfl rfl (rfl) (by omega) ((up2_ne (by omega)).trans ((up2_ne (by omega)).trans ((up2_ne (by omega)).trans ((up2_ne (by omega)).trans (((I2 _ _ (by omega) (by omega)).trans (hf _ (by omega)))))))) ?_
          refine E_add (v := ((f h : Nat) : Int)) rfl (by omega) (by omega) ?_
          refine E_ast (e := n) (N := 601) rfl rfl (rfl) (by omega) ?_
          refine E_inc (x := ((h : Nat) : Int)) (w := ((h + 1 : Nat) : Int)) (L' := [some (aA 124), some (aI ((i : Nat) : Int)), some (aI ((h + 1 : Nat) : Int)), x3]) rfl rfl rfl (by omega) (by omega) rfl ?_
          refine E_s (p' := 128) rfl rfl ?_
          refine ih (h + 1) (n + 1) (upf F n h) (upf Lx n h) (upf M n (f h)) _ (by omega) (by omega) (lvS_new hq (by omega) (by omega)) ((up2_ne (by omega)).trans ((up2_ne (by omega)).trans (up2_eq))) (fun l hl => ?_) (fun b z g1 g2 => ((up2_o (by omega)).trans ((up2_o (by omega)).trans ((up2_o (by omega)).trans ((up2_o (by omega)).trans (up2_o (by omega)))))).trans (I2 b z g1 g2))
          by_cases g9 : l = n
          · subst g9
            rw [upf_eq, upf_eq, upf_eq]
            exact ⟨((up2_ne (by omega)).trans ((up2_ne (by omega)).trans ((up2_ne (by omega)).trans ((up2_ne (by omega)).trans (up2_eq))))), ((up2_ne (by omega)).trans (up2_eq)), (up2_eq)⟩
          · rw [upf_ne g9, upf_ne g9, upf_ne g9]
            obtain ⟨g1, g2, g3⟩ := I1 l (by omega)
            exact ⟨((up2_o (by omega)).trans ((up2_o (by omega)).trans ((up2_o (by omega)).trans ((up2_o (by omega)).trans (up2_o (by omega)))))).trans g1, ((up2_o (by omega)).trans ((up2_o (by omega)).trans ((up2_o (by omega)).trans ((up2_o (by omega)).trans (up2_o (by omega)))))).trans g2, ((up2_o (by omega)).trans ((up2_o (by omega)).trans ((up2_o (by omega)).trans ((up2_o (by omega)).trans (up2_o (by omega)))))).trans g3⟩
        · refine E_go (p' := 154) (L' := [some (aA 124), some (aI ((i : Nat) : Int)), some (aI ((h : Nat) : Int)), x3]) (st' := []) rfl rfl rfl ?_
          refine E_s (p' := 155) (st' := aI ((h : Nat) : Int) :: _) rfl rfl ?_
          refine E_s (p' := 156) (st' := aA 124 :: _) rfl rfl ?_
          refine E_gA (b := 146) rfl rfl rfl rfl rfl rfl ?_
          refine E_s (p' := 160) (st' := aA 124 :: _) rfl rfl ?_
          refine E_gI (v := ((n : Nat) : Int)) rfl rfl rfl rfl I0 ?_
          refine E_s (p' := 164) (st' := aI 1 :: _) rfl rfl ?_
          refine E_sub (v := ((n : Int) - 1)) rfl (by omega) (by omega) ?_
          refine E_ald (e := ((n : Int) - 1).toNat) (N := 601) (v := ((Lx (n - 1) : Nat) : Int)) rfl rfl (by omega) (by omega) (by rw [show ((n : Int) - 1).toNat = n - 1 by omega]; exact (I1 (n - 1) (by omega)).2.1) ?_
          refine E_sub (v := ((h : Int) - (Lx (n - 1) : Int))) rfl (by omega) (by omega) ?_
          refine E_s (p' := 168) (st' := aA 124 :: _) rfl rfl ?_
          refine E_gA (b := 126) rfl rfl rfl rfl rfl rfl ?_
          refine E_s (p' := 172) (st' := aI ((i : Nat) : Int) :: _) rfl rfl ?_
          refine E_ald (e := i) (N := 4) (v := ((g : Nat) : Int)) rfl rfl (rfl) (by omega) ((I2 _ _ (by omega) (by omega)).trans hg) ?_
          refine E_icmp_le (x := ((h : Int) - (Lx (n - 1) : Int))) (y := ((g : Nat) : Int)) rfl (by decide) (fun h_4 => ?_) (fun h_4 => ?_)
          · refine E_go (p' := 206) (L' := [some (aA 124), some (aI ((i : Nat) : Int)), some (aI ((h : Nat) : Int)), x3]) (st' := []) rfl rfl rfl ?_
            refine E_s (p' := 207) (st' := aA 124 :: _) rfl rfl ?_
            refine E_gA (b := 146) rfl rfl rfl rfl rfl rfl ?_
            refine E_s (p' := 211) (st' := aA 124 :: _) rfl rfl ?_
            refine E_gI (v := ((n : Nat) : Int)) rfl rfl rfl rfl I0 ?_
            refine E_s (p' := 215) (st' := aI 1 :: _) rfl rfl ?_
            refine E_sub (v := ((n : Int) - 1)) rfl (by omega) (by omega) ?_
            refine E_s (p' := 217) (st' := aI ((h : Nat) : Int) :: _) rfl rfl ?_
            refine E_ast (e := ((n : Int) - 1).toNat) (N := 601) rfl rfl (by omega) (by omega) ?_
            refine E_s (p' := 219) (st' := aA 124 :: _) rfl rfl ?_
            refine E_gA (b := 147) rfl rfl rfl rfl rfl rfl ?_
            refine E_s (p' := 223) (st' := aA 124 :: _) rfl rfl ?_
            refine E_gI (v := ((n : Nat) : Int)) rfl rfl rfl rfl ((up2_ne (by omega)).trans (I0)) ?_
            refine E_s (p' := 227) (st' := aI 1 :: _) rfl rfl ?_
            refine E_sub (v := ((n : Int) - 1)) rfl (by omega) (by omega) ?_
            refine E_s (p' := 229) rfl rfl ?_
            refine E_ald (e := ((n : Int) - 1).toNat) (N := 601) (v := ((M (n - 1) : Nat) : Int)) rfl rfl (by omega) (by omega) ((up2_ne (by omega)).trans ((by rw [show ((n : Int) - 1).toNat = n - 1 by omega]; exact (I1 (n - 1) (by omega)).2.2))) ?_
            refine E_s (p' := 231) (st' := aA 124 :: _) rfl rfl ?_
            refine E_gA (b := 144) rfl rfl rfl rfl rfl rfl ?_
            refine E_s (p' := 235) (st' := aI ((h : Nat) : Int) :: _) rfl rfl ?_
            refine E_ald (e := h) (N := 601) (v := ((f h : Nat) : Int)) rfl rfl (rfl) (by omega) ((up2_ne (by omega)).trans (((I2 _ _ (by omega) (by omega)).trans (hf _ (by omega))))) ?_
            refine E_add (v := ((M (n - 1) + f h : Nat) : Int)) rfl (by omega) (by omega) ?_
            refine E_ast (e := ((n : Int) - 1).toNat) (N := 601) rfl rfl (by omega) (by omega) ?_
            refine E_inc (x := ((h : Nat) : Int)) (w := ((h + 1 : Nat) : Int)) (L' := [some (aA 124), some (aI ((i : Nat) : Int)), some (aI ((h + 1 : Nat) : Int)), x3]) rfl rfl rfl (by omega) (by omega) rfl ?_
            refine E_s (p' := 128) rfl rfl ?_
            have en : ((n : Int) - 1).toNat = n - 1 := by omega
            rw [en]
            refine ih (h + 1) n F (upf Lx (n - 1) h) (upf M (n - 1) (M (n - 1) + f h)) _ (by omega) (by omega) (lvS_old hq (by omega) (by omega)) (((up2_ne (by omega)).trans (up2_ne (by omega))).trans I0) (fun l hl => ⟨((up2_ne (by omega)).trans (up2_ne (by omega))).trans (I1 l hl).1, ?_, ?_⟩) (fun b z g1 g2 => ((up2_o (by omega)).trans (up2_o (by omega))).trans (I2 b z g1 g2))
            · refine (up2_ne (by omega)).trans ?_
              by_cases g9 : l = n - 1
              · rw [g9, upf_eq]; exact up2_eq
              · rw [upf_ne g9]; exact (up2_sl g9).trans (I1 l hl).2.1
            · by_cases g9 : l = n - 1
              · rw [g9, upf_eq]; exact up2_eq
              · rw [upf_ne g9]; exact (up2_sl g9).trans ((up2_ne (by omega)).trans (I1 l hl).2.2)
          · refine E_go (p' := 176) (L' := [some (aA 124), some (aI ((i : Nat) : Int)), some (aI ((h : Nat) : Int)), x3]) (st' := []) rfl rfl rfl ?_
            refine E_s (p' := 177) (st' := aA 124 :: _) rfl rfl ?_
            refine E_gA (b := 145) rfl rfl rfl rfl rfl rfl ?_
            refine E_s (p' := 181) (st' := aA 124 :: _) rfl rfl ?_
            refine E_gI (v := ((n : Nat) : Int)) rfl rfl rfl rfl I0 ?_
            refine E_s (p' := 185) (st' := aI ((h : Nat) : Int) :: _) rfl rfl ?_
            refine E_ast (e := n) (N := 601) rfl rfl (rfl) (by omega) ?_
            refine E_s (p' := 187) (st' := aA 124 :: _) rfl rfl ?_
            refine E_gA (b := 147) rfl rfl rfl rfl rfl rfl ?_
            refine E_s (p' := 191) (st' := aA 124 :: _) rfl rfl ?_
            refine E_gI (v := ((n : Nat) : Int)) rfl rfl rfl rfl ((up2_ne (by omega)).trans (I0)) ?_
            refine E_s (p' := 195) (st' := aI 0 :: _) rfl rfl ?_
            refine E_ast (e := n) (N := 601) rfl rfl (rfl) (by omega) ?_
            refine E_s (p' := 197) (st' := aA 124 :: _) rfl rfl ?_
            refine E_s (p' := 198) (st' := aA 124 :: _) rfl rfl ?_
            refine E_gI (v := ((n : Nat) : Int)) rfl rfl rfl rfl ((up2_ne (by omega)).trans ((up2_ne (by omega)).trans (I0))) ?_
            refine E_s (p' := 202) (st' := aI 1 :: _) rfl rfl ?_
            refine E_add (v := ((n + 1 : Nat) : Int)) rfl (by omega) (by omega) ?_
            refine E_pI rfl rfl rfl rfl (Or.inl rfl) ?_
            refine E_s (p' := 207) (st' := aA 124 :: _) rfl rfl ?_
            refine E_gA (b := 146) rfl rfl rfl rfl rfl rfl ?_
            refine E_s (p' := 211) (st' := aA 124 :: _) rfl rfl ?_
            refine E_gI (v := ((n + 1 : Nat) : Int)) rfl rfl rfl rfl up2_eq ?_
            refine E_s (p' := 215) (st' := aI 1 :: _) rfl rfl ?_
            refine E_sub (v := ((n : Nat) : Int)) rfl (by omega) (by omega) ?_
            refine E_s (p' := 217) (st' := aI ((h : Nat) : Int) :: _) rfl rfl ?_
            refine E_ast (e := n) (N := 601) rfl rfl (rfl) (by omega) ?_
            refine E_s (p' := 219) (st' := aA 124 :: _) rfl rfl ?_
            refine E_gA (b := 147) rfl rfl rfl rfl rfl rfl ?_
            refine E_s (p' := 223) (st' := aA 124 :: _) rfl rfl ?_
            refine E_gI (v := ((n + 1 : Nat) : Int)) rfl rfl rfl rfl ((up2_ne (by omega)).trans (up2_eq)) ?_
            refine E_s (p' := 227) (st' := aI 1 :: _) rfl rfl ?_
            refine E_sub (v := ((n : Nat) : Int)) rfl (by omega) (by omega) ?_
            refine E_s (p' := 229) rfl rfl ?_
            refine E_ald (e := n) (N := 601) (v := 0) rfl rfl (rfl) (by omega) ((up2_ne (by omega)).trans ((up2_ne (by omega)).trans (up2_eq))) ?_
            refine E_s (p' := 231) (st' := aA 124 :: _) rfl rfl ?_
            refine E_gA (b := 144) rfl rfl rfl rfl rfl rfl ?_
            refine E_s (p' := 235) (st' := aI ((h : Nat) : Int) :: _) rfl rfl ?_
            refine E_ald (e := h) (N := 601) (v := ((f h : Nat) : Int)) rfl rfl (rfl) (by omega) ((up2_ne (by omega)).trans ((up2_ne (by omega)).trans ((up2_ne (by omega)).trans ((up2_ne (by omega)).trans (((I2 _ _ (by omega) (by omega)).trans (hf _ (by omega)))))))) ?_
            refine E_add (v := ((f h : Nat) : Int)) rfl (by omega) (by omega) ?_
            refine E_ast (e := n) (N := 601) rfl rfl (rfl) (by omega) ?_
            refine E_inc (x := ((h : Nat) : Int)) (w := ((h + 1 : Nat) : Int)) (L' := [some (aA 124), some (aI ((i : Nat) : Int)), some (aI ((h + 1 : Nat) : Int)), x3]) rfl rfl rfl (by omega) (by omega) rfl ?_
            refine E_s (p' := 128) rfl rfl ?_
            refine ih (h + 1) (n + 1) (upf F n h) (upf Lx n h) (upf M n (f h)) _ (by omega) (by omega) (lvS_new hq (by omega) (by omega)) ((up2_ne (by omega)).trans ((up2_ne (by omega)).trans (up2_eq))) (fun l hl => ?_) (fun b z g1 g2 => ((up2_o (by omega)).trans ((up2_o (by omega)).trans ((up2_o (by omega)).trans ((up2_o (by omega)).trans (up2_o (by omega)))))).trans (I2 b z g1 g2))
            by_cases g9 : l = n
            · subst g9
              rw [upf_eq, upf_eq, upf_eq]
              exact ⟨((up2_ne (by omega)).trans ((up2_ne (by omega)).trans ((up2_ne (by omega)).trans ((up2_ne (by omega)).trans (up2_eq))))), ((up2_ne (by omega)).trans (up2_eq)), (up2_eq)⟩
            · rw [upf_ne g9, upf_ne g9, upf_ne g9]
              obtain ⟨g1, g2, g3⟩ := I1 l (by omega)
              exact ⟨((up2_o (by omega)).trans ((up2_o (by omega)).trans ((up2_o (by omega)).trans ((up2_o (by omega)).trans (up2_o (by omega)))))).trans g1, ((up2_o (by omega)).trans ((up2_o (by omega)).trans ((up2_o (by omega)).trans ((up2_o (by omega)).trans (up2_o (by omega)))))).trans g2, ((up2_o (by omega)).trans ((up2_o (by omega)).trans ((up2_o (by omega)).trans ((up2_o (by omega)).trans (up2_o (by omega)))))).trans g3⟩
      · refine E_go (p' := 144) (L' := [some (aA 124), some (aI ((i : Nat) : Int)), some (aI ((h : Nat) : Int)), x3]) (st' := []) rfl rfl rfl ?_
        refine E_s (p' := 238) rfl rfl ?_
        refine E_inc (x := ((h : Nat) : Int)) (w := ((h + 1 : Nat) : Int)) (L' := [some (aA 124), some (aI ((i : Nat) : Int)), some (aI ((h + 1 : Nat) : Int)), x3]) rfl rfl rfl (by omega) (by omega) rfl ?_
        refine E_s (p' := 128) rfl rfl ?_
        exact ih (h + 1) n F Lx M m (by omega) (by omega) (by rw [lvS_0 (by omega)]; exact hq) I0 I1 I2
end
section
variable {len : Nat} {m0 : Mm} {Q : Option AV → Sx → Prop} {R : RD} {i : Nat}
theorem m_read (hi : i < 4) (hM : MR R i m0) (hV : VR R) (q : ∀ m1 : Mm, FrM m0 m1 → RdM R m1 → Q (some (aI (bi (decide (0 < RL R))))) (m1, tl len)) : E 147 0 [some (aA 124), some (aI ((i : Nat) : Int)), none, none] [] (m0, tl len) Q := by
  have hgp := hV.2.1
  have hn60 := hV.1
  refine E_s (p' := 1) (st' := aI 0 :: _) rfl rfl ?_
  refine E_s (p' := 2) (L' := [some (aA 124), some (aI ((i : Nat) : Int)), some (aI 0), none]) rfl rfl ?_
  refine yl_rA hi (fun m1 y3 a1 a2 => ?_) 602 0 m0 none (by omega) (by omega) FrM.rf (fun j hj => absurd hj (by omega))
  refine E_s (p' := 23) (st' := aA 124 :: _) rfl rfl ?_
  refine E_s (p' := 24) (st' := aI 0 :: _) rfl rfl ?_
  refine E_pI rfl rfl rfl rfl (Or.inr (by decide)) ?_
  refine E_s (p' := 28) (st' := aA 124 :: _) rfl rfl ?_
  refine E_s (p' := 29) (st' := aI 0 :: _) rfl rfl ?_
  refine E_pI rfl rfl rfl rfl (Or.inr (by decide)) ?_
  refine E_s (p' := 33) (st' := aI 0 :: _) rfl rfl ?_
  refine E_s (p' := 34) (L' := [some (aA 124), some (aI ((i : Nat) : Int)), some (aI 0), y3]) rfl rfl ?_
  refine yl_rB hi hM hV (fun m2 z3 hJ => ?_) (Cn R + 1) 0 _ y3 (by omega) (by omega) ⟨(a1.up (by omega)).up (by omega), fun h hh => (up2_ne (by omega)).trans ((up2_ne (by omega)).trans (a2 h hh)), (up2_sl (by decide)).trans up2_eq, up2_eq⟩
  obtain ⟨j1, j2, j3, j4⟩ := hJ
  refine E_s (p' := 122) (st' := aA 124 :: _) rfl rfl ?_
  refine E_s (p' := 123) (st' := aI 0 :: _) rfl rfl ?_
  refine E_pI rfl rfl rfl rfl (Or.inl rfl) ?_
  refine E_s (p' := 127) (st' := aI 0 :: _) rfl rfl ?_
  refine E_s (p' := 128) (L' := [some (aA 124), some (aI ((i : Nat) : Int)), some (aI 0), z3]) rfl rfl ?_
  refine yl_rD (f := atp (RA R)) (g := Cq R) hi (fun h hh => (up2_ne (by omega)).trans (j2 h hh)) ((up2_ne (by omega)).trans ((j1 _ _ (by omega) (by omega)).trans (MR_126 hM))) (by omega) (atp_b hV) (fun m3 y9 k1 k2 k3 => ?_) 602 0 0 (fun _ => 0) (fun _ => 0) (fun _ => 0) _ (by omega) (by omega) rfl up2_eq (fun l hl => absurd hl (by omega)) (fun b z g1 g2 => rfl)
  have hRn : (RLV R).1 ≤ 601 := lvS_n 601
  rw [show (lvS (atp (RA R)) (Cq R) 601).1 = (RLV R).1 from rfl] at k1
  refine E_s (p' := 245) (st' := aA 124 :: _) rfl rfl ?_
  refine E_gI (v := (((RLV R).1 : Nat) : Int)) rfl rfl rfl rfl k1 ?_
  refine E_s (p' := 249) (st' := aA 124 :: _) rfl rfl ?_
  refine E_gI (v := (bi (Run R))) rfl rfl rfl rfl ((k3 _ _ (by omega) (by omega)).trans ((up2_sl (by decide)).trans j3)) ?_
  suffices h_1 : E 147 260 [some (aA 124), some (aI ((i : Nat) : Int)), some (aI 601), y9] [aI (bi (!(Run R))), aI (((RLV R).1 : Nat) : Int)] (m3, tl len) Q by
    refine E_b_eq0 (b := (Run R)) rfl (by decide) (fun h_2 => ?_) (fun h_2 => ?_)
    · refine E_go (p' := 259) (L' := [some (aA 124), some (aI ((i : Nat) : Int)), some (aI 601), y9]) (st' := [aI (((RLV R).1 : Nat) : Int)]) rfl rfl rfl ?_
      refine E_s (p' := 260) (st' := aI 1 :: _) rfl rfl ?_
      rw [h_2] at h_1
      exact h_1
    · refine E_go (p' := 255) (L' := [some (aA 124), some (aI ((i : Nat) : Int)), some (aI 601), y9]) (st' := [aI (((RLV R).1 : Nat) : Int)]) rfl rfl rfl ?_
      refine E_s (p' := 256) (st' := aI 0 :: _) rfl rfl ?_
      refine E_s (p' := 260) rfl rfl ?_
      rw [h_2] at h_1
      exact h_1
  refine E_add (v := (((RLV R).1 + bn (!(Run R)) : Nat) : Int)) rfl add_bn (by have := bn_le (!(Run R)); omega) ?_
  refine E_s (p' := 263) (st' := aI 6 :: _) rfl rfl ?_
  refine E_icmp_le (x := (((RLV R).1 + bn (!(Run R)) : Nat) : Int)) (y := 6) rfl (by decide) (fun h_3 => ?_) (fun h_3 => ?_)
  · refine E_go (p' := 271) (L' := [some (aA 124), some (aI ((i : Nat) : Int)), some (aI 601), y9]) (st' := []) rfl rfl rfl ?_
    refine E_s (p' := 272) (st' := aA 124 :: _) rfl rfl ?_
    refine E_gI (v := (((RLV R).1 : Nat) : Int)) rfl rfl rfl rfl k1 ?_
    refine E_if_le (x := (((RLV R).1 : Nat) : Int)) rfl (by decide) (fun h_4 => ?_) (fun h_4 => ?_)
    · refine E_go (p' := 282) (L' := [some (aA 124), some (aI ((i : Nat) : Int)), some (aI 601), y9]) (st' := []) rfl rfl rfl ?_
      refine E_s (p' := 283) (st' := aI 0 :: _) rfl rfl ?_
      refine E_ret rfl rfl ?_
      have hmx : mxv (Run R) + bn (!Run R) = 6 := by cases Run R <;> rfl
      have hrl : RL R = (RLV R).1 := if_neg (show ¬ mxv (Run R) < (RLV R).1 by omega)
      rw [show decide (0 < RL R) = false by rw [hrl]; simp; omega] at q
      exact q _ (j1.tr (FrM.rf.up (by omega)) |>.tr (fun b z g1 g2 => k3 b z (by omega) (by omega))) ⟨by rw [hrl]; exact k1, (k3 _ _ (by omega) (by omega)).trans ((up2_sl (by decide)).trans j3), (k3 _ _ (by omega) (by omega)).trans ((up2_sl (by decide)).trans j4), by rw [hrl]; exact k2⟩
    · refine E_go (p' := 278) (L' := [some (aA 124), some (aI ((i : Nat) : Int)), some (aI 601), y9]) (st' := []) rfl rfl rfl ?_
      refine E_s (p' := 279) (st' := aI 1 :: _) rfl rfl ?_
      refine E_s (p' := 283) rfl rfl ?_
      refine E_ret rfl rfl ?_
      have hmx : mxv (Run R) + bn (!Run R) = 6 := by cases Run R <;> rfl
      have hrl : RL R = (RLV R).1 := if_neg (show ¬ mxv (Run R) < (RLV R).1 by omega)
      rw [show decide (0 < RL R) = true by rw [hrl]; simp; omega] at q
      exact q _ (j1.tr (FrM.rf.up (by omega)) |>.tr (fun b z g1 g2 => k3 b z (by omega) (by omega))) ⟨by rw [hrl]; exact k1, (k3 _ _ (by omega) (by omega)).trans ((up2_sl (by decide)).trans j3), (k3 _ _ (by omega) (by omega)).trans ((up2_sl (by decide)).trans j4), by rw [hrl]; exact k2⟩
  · refine E_go (p' := 266) (L' := [some (aA 124), some (aI ((i : Nat) : Int)), some (aI 601), y9]) (st' := []) rfl rfl rfl ?_
    refine E_s (p' := 267) (st' := aA 124 :: _) rfl rfl ?_
    refine E_s (p' := 268) (st' := aI 0 :: _) rfl rfl ?_
    refine E_pI rfl rfl rfl rfl (Or.inl rfl) ?_
    refine E_s (p' := 272) (st' := aA 124 :: _) rfl rfl ?_
    refine E_gI (v := 0) rfl rfl rfl rfl up2_eq ?_
    refine E_s (p' := 282) rfl rfl ?_
    refine E_s (p' := 283) (st' := aI 0 :: _) rfl rfl ?_
    refine E_ret rfl rfl ?_
    have hmx : mxv (Run R) + bn (!Run R) = 6 := by cases Run R <;> rfl
    have hrl : RL R = 0 := if_pos (show mxv (Run R) < (RLV R).1 by omega)
    rw [hrl] at q
    exact q _ (j1.tr (FrM.rf.up (by omega)) |>.tr (fun b z g1 g2 => k3 b z (by omega) (by omega)) |>.up (by omega)) ⟨up2_eq.trans (by rw [hrl]; rfl), (up2_sl (by decide)).trans ((k3 _ _ (by omega) (by omega)).trans ((up2_sl (by decide)).trans j3)), (up2_sl (by decide)).trans ((k3 _ _ (by omega) (by omega)).trans ((up2_sl (by decide)).trans j4)), fun l hl => absurd hl (by omega)⟩
end
