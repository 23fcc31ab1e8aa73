theorem ft3_0 {R : RD} {l : List Cl3} : ft3 R l 0 = ft2 R l l.length := by
  unfold ft3
  rw [List.take_zero]
  by_cases h : ft2 R l l.length = 0
  · rw [if_pos h, h]; rfl
  · rw [if_neg h]
theorem SL_b {R : RD} {c : Nat} (h1 : 1 ≤ RL R) (l : Nat) : sumN (fun l => bif lst R c l then 9 * Rct R l else 0) l ≤ 9000000 * l := by
  have := sumN_le (f := fun l => bif lst R c l then 9 * Rct R l else 0) (b := 9000000) l (fun i hi => by have := Rct_le h1 i; show (bif lst R c i then 9 * Rct R i else 0) ≤ _; cases lst R c i <;> simp <;> omega)
  omega
section
variable {len : Nat} {m0 : Mm} {Q : Option AV → Sx → Prop} {R : RD} {i c : Nat}
theorem yl_r4 (hi : i < 4) (hM : MR R i m0) (hV : VR R) (hc : c < Cn R) (h1 : 1 ≤ RL R) (hk : ∀ (x3 : Option AV) (m1 : Mm), RC0 R c m0 m1 0 (rSum R c (clsA R c) : Int) 0 → E 148 288 [some (aA 124), some (aI ((60 * i + c : Nat) : Int)), some (aI ((clsA R c).length : Int)), x3] [] (m1, tl len) Q) : ∀ (d : Nat) (k v : Nat) (m : Mm) (x3 : Option AV), ((clsA R c).length < k + d) → (k ≤ (clsA R c).length) → (v = rSum R c ((clsA R c).take k)) → (RC0 R c m0 m 0 (v : Int) 0) → E 148 226 [some (aA 124), some (aI ((60 * i + c : Nat) : Int)), some (aI ((k : Nat) : Int)), x3] [] (m, tl len) Q := by
  intro d
  induction d with
  | zero => intro k v m x3 hd hkk hv hI; omega
  | succ d ih =>
    intro k v m x3 hd hkk hv hI
    have hn60 := hV.1
    have hl1 : (clsA R c).length ≤ 30 := Nat.le_trans (cls_len R c (Ck R c)) (hV.2.2.1 c hc).2.2.2.2.2
    have hmx := RL_mx R
    have hm6 : mxv (Run R) ≤ 6 := by cases Run R <;> decide
    have hMm : MR R i m := hI.1.MR hM
    have hcp : ∀ q ∈ clsA R c, 1 ≤ q.1 ∧ q.1 ≤ 600 := cls_pl hV hc _ (Nat.le_refl _)
    have occ : ∀ k, k < (clsA R c).length → ((clsA R c).getD k (0, (0, 0))).1 < 601 ∧ atp (RA R) ((clsA R c).getD k (0, (0, 0))).1 ≠ 0 := fun k hk => ⟨by have := hcp _ (get_mem hk); omega, atp_mem (acl_mem hc (get_mem hk))⟩
    have hvb : v ≤ 30000000 * k := by
      rw [hv]
      have := rSum_le (c := c) h1 ((clsA R c).take k) (fun q hq => cls_wb hV hc _ (Nat.le_refl _) q (List.mem_of_mem_take hq))
      rw [List.length_take] at this; omega
    refine E_s (p' := 227) (st' := aI ((k : Nat) : Int) :: _) rfl rfl ?_
    refine E_s (p' := 228) (st' := aA 124 :: _) rfl rfl ?_
    refine E_gI (v := (((clsA R c).length : Nat) : Int)) rfl rfl rfl rfl hI.2.2.1.1 ?_
    refine E_icmp_ge (x := ((k : Nat) : Int)) (y := (((clsA R c).length : Nat) : Int)) rfl (by decide) (fun h_1 => ?_) (fun h_1 => ?_)
    · refine E_go (p' := 288) (L' := [some (aA 124), some (aI ((60 * i + c : Nat) : Int)), some (aI ((k : Nat) : Int)), x3]) (st' := []) rfl rfl rfl ?_
      have ek : k = (clsA R c).length := by omega
      subst ek
      rw [List.take_length] at hv
      rw [hv] at hI
      exact hk x3 m hI
    · refine E_go (p' := 234) (L' := [some (aA 124), some (aI ((60 * i + c : Nat) : Int)), some (aI ((k : Nat) : Int)), x3]) (st' := []) rfl rfl rfl ?_
      have hwb := cls_wb hV hc _ (Nat.le_refl _) _ (get_mem (l := clsA R c) (k := k) (by omega))
      have hrb := Rct_le h1 (Rlo R ((clsA R c).getD k (0, (0, 0))).1)
      have hpr : ((clsA R c).getD k (0, (0, 0))).2.2 * Rct R (Rlo R ((clsA R c).getD k (0, (0, 0))).1) ≤ 30 * 1000000 := Nat.mul_le_mul hwb hrb
      refine E_s (p' := 235) (st' := aA 124 :: _) rfl rfl ?_
      refine E_s (p' := 236) (st' := aI ((60 * i + c : Nat) : Int) :: _) rfl rfl ?_
      refine E_s (p' := 237) (st' := aA 124 :: _) rfl rfl ?_
      refine E_s (p' := 238) (st' := aA 124 :: _) rfl rfl ?_
      refine E_gA (b := 141) rfl rfl rfl rfl rfl rfl ?_
      refine E_s (p' := 242) (st' := aI ((k : Nat) : Int) :: _) rfl rfl ?_
      refine E_ald (e := k) (N := 30) (v := ((((clsA R c).getD k (0, (0, 0))).1 : Nat) : Int)) rfl rfl (rfl) (by omega) (hI.2.2.1.2 _ (by omega)).1 ?_
      refine E_callV (k' := 149) (a := 124) (r := [aI ((60 * i + c : Nat) : Int), aA 124]) (L0 := [some (aA 124), some (aI ((((clsA R c).getD k (0, (0, 0))).1 : Nat) : Int)), none]) rfl rfl rfl rfl rfl rfl rfl rfl rfl rfl ?_
      refine m_levelOf h1 hI.2.1 (occ _ (by omega)).1 (occ _ (by omega)).2 ?_
      refine E_go (p' := 246) (L' := [some (aA 124), some (aI ((60 * i + c : Nat) : Int)), some (aI ((k : Nat) : Int)), x3]) (st' := [aI ((Rlo R (((clsA R c).getD k (0, (0, 0))).1) : Nat) : Int), aI ((60 * i + c : Nat) : Int), aA 124]) rfl rfl rfl ?_
      have hlo_1 := Rlo_lt h1 (((clsA R c).getD k (0, (0, 0))).1)
      refine E_callV (k' := 150) (a := 124) (r := []) (L0 := [some (aA 124), some (aI ((60 * i + c : Nat) : Int)), some (aI ((Rlo R (((clsA R c).getD k (0, (0, 0))).1) : Nat) : Int))]) rfl rfl rfl rfl rfl rfl rfl rfl rfl rfl ?_
      refine m_isLost hi hMm hV hc hI.2.1 (l := Rlo R (((clsA R c).getD k (0, (0, 0))).1)) (by omega) ?_
      refine E_go (p' := 249) (L' := [some (aA 124), some (aI ((60 * i + c : Nat) : Int)), some (aI ((k : Nat) : Int)), x3]) (st' := [aI (bi (lst R c (Rlo R (((clsA R c).getD k (0, (0, 0))).1))))]) rfl rfl rfl ?_
      refine E_b_ne0 (b := (lst R c (Rlo R (((clsA R c).getD k (0, (0, 0))).1)))) rfl (by decide) (fun h_2 => ?_) (fun h_2 => ?_)
      · refine E_go (p' := 282) (L' := [some (aA 124), some (aI ((60 * i + c : Nat) : Int)), some (aI ((k : Nat) : Int)), x3]) (st' := []) rfl rfl rfl ?_
        refine E_inc (x := ((k : Nat) : Int)) (w := ((k + 1 : Nat) : Int)) (L' := [some (aA 124), some (aI ((60 * i + c : Nat) : Int)), some (aI ((k + 1 : Nat) : Int)), x3]) rfl rfl rfl (by omega) (by omega) rfl ?_
        refine E_s (p' := 226) rfl rfl ?_
        refine ih (k + 1) _ _ _ (by omega) (by omega) ?_ hI
        rw [take_g (by omega), rSum_app, ← hv, show lst R c (Rlo R ((clsA R c).getD k (0, (0, 0))).1) = true by assumption]
        rfl
      · refine E_go (p' := 252) (L' := [some (aA 124), some (aI ((60 * i + c : Nat) : Int)), some (aI ((k : Nat) : Int)), x3]) (st' := []) rfl rfl rfl ?_
        refine E_s (p' := 253) (st' := aA 124 :: _) rfl rfl ?_
        refine E_s (p' := 254) (st' := aA 124 :: _) rfl rfl ?_
        refine E_gI (v := ((v : Nat) : Int)) rfl rfl rfl rfl hI.2.2.2.2.1 ?_
        refine E_s (p' := 258) (st' := aA 124 :: _) rfl rfl ?_
        refine E_gA (b := 143) rfl rfl rfl rfl rfl rfl ?_
        refine E_s (p' := 262) (st' := aI ((k : Nat) : Int) :: _) rfl rfl ?_
        refine E_ald (e := k) (N := 30) (v := ((((clsA R c).getD k (0, (0, 0))).2.2 : Nat) : Int)) rfl rfl (rfl) (by omega) (hI.2.2.1.2 _ (by omega)).2.2 ?_
        refine E_s (p' := 264) (st' := aA 124 :: _) rfl rfl ?_
        refine E_s (p' := 265) (st' := aA 124 :: _) rfl rfl ?_
        refine E_s (p' := 266) (st' := aA 124 :: _) rfl rfl ?_
        refine E_gA (b := 141) rfl rfl rfl rfl rfl rfl ?_
        refine E_s (p' := 270) (st' := aI ((k : Nat) : Int) :: _) rfl rfl ?_
        refine E_ald (e := k) (N := 30) (v := ((((clsA R c).getD k (0, (0, 0))).1 : Nat) : Int)) rfl rfl (rfl) (by omega) (hI.2.2.1.2 _ (by omega)).1 ?_
        refine E_callV (k' := 149) (a := 124) (r := [aA 124, aI ((((clsA R c).getD k (0, (0, 0))).2.2 : Nat) : Int), aI ((v : Nat) : Int), aA 124]) (L0 := [some (aA 124), some (aI ((((clsA R c).getD k (0, (0, 0))).1 : Nat) : Int)), none]) rfl rfl rfl rfl rfl rfl rfl rfl rfl rfl ?_
        refine m_levelOf h1 hI.2.1 (occ _ (by omega)).1 (occ _ (by omega)).2 ?_
        refine E_go (p' := 274) (L' := [some (aA 124), some (aI ((60 * i + c : Nat) : Int)), some (aI ((k : Nat) : Int)), x3]) (st' := [aI ((Rlo R (((clsA R c).getD k (0, (0, 0))).1) : Nat) : Int), aA 124, aI ((((clsA R c).getD k (0, (0, 0))).2.2 : Nat) : Int), aI ((v : Nat) : Int), aA 124]) rfl rfl rfl ?_
        have hlo_2 := Rlo_lt h1 (((clsA R c).getD k (0, (0, 0))).1)
        refine E_callV (k' := 151) (a := 124) (r := [aI ((((clsA R c).getD k (0, (0, 0))).2.2 : Nat) : Int), aI ((v : Nat) : Int), aA 124]) (L0 := [some (aA 124), some (aI ((Rlo R (((clsA R c).getD k (0, (0, 0))).1) : Nat) : Int)), none, none]) rfl rfl rfl rfl rfl rfl rfl rfl rfl rfl ?_
        refine m_counts hI.2.1 (l := Rlo R (((clsA R c).getD k (0, (0, 0))).1)) (by omega) ?_
        refine E_go (p' := 277) (L' := [some (aA 124), some (aI ((60 * i + c : Nat) : Int)), some (aI ((k : Nat) : Int)), x3]) (st' := [aI ((Rct R (Rlo R (((clsA R c).getD k (0, (0, 0))).1)) : Nat) : Int), aI ((((clsA R c).getD k (0, (0, 0))).2.2 : Nat) : Int), aI ((v : Nat) : Int), aA 124]) rfl rfl rfl ?_
        refine E_mulN (x := ((clsA R c).getD k (0, (0, 0))).2.2) (y := Rct R (Rlo R (((clsA R c).getD k (0, (0, 0))).1))) rfl (by omega) ?_
        refine E_add (v := ((v + (((clsA R c).getD k (0, (0, 0))).2.2) * (Rct R (Rlo R (((clsA R c).getD k (0, (0, 0))).1))) : Nat) : Int)) rfl (by omega) (by omega) ?_
        refine E_pI rfl rfl rfl rfl (Or.inl rfl) ?_
        refine E_inc (x := ((k : Nat) : Int)) (w := ((k + 1 : Nat) : Int)) (L' := [some (aA 124), some (aI ((60 * i + c : Nat) : Int)), some (aI ((k + 1 : Nat) : Int)), x3]) rfl rfl rfl (by omega) (by omega) rfl ?_
        refine E_s (p' := 226) rfl rfl ?_
        refine ih (k + 1) _ _ _ (by omega) (by omega) ?_ hI.s28
        rw [take_g (by omega), rSum_app, ← hv, show lst R c (Rlo R ((clsA R c).getD k (0, (0, 0))).1) = false by assumption]
        rfl
theorem yl_r5 (hi : i < 4) (hM : MR R i m0) (hV : VR R) (hc : c < Cn R) (h1 : 1 ≤ RL R) {v : Int} (hk : ∀ (x3 : Option AV) (m1 : Mm), RC0 R c m0 m1 0 v (sumN (fun l => bif lst R c l then 9 * Rct R l else 0) (RL R) : Int) → E 148 330 [some (aA 124), some (aI ((60 * i + c : Nat) : Int)), some (aI (RL R : Int)), x3] [] (m1, tl len) Q) : ∀ (d : Nat) (l w : Nat) (m : Mm) (x3 : Option AV), (RL R < l + d) → (l ≤ RL R) → (w = sumN (fun l => bif lst R c l then 9 * Rct R l else 0) l) → (RC0 R c m0 m 0 v (w : Int)) → E 148 290 [some (aA 124), some (aI ((60 * i + c : Nat) : Int)), some (aI ((l : Nat) : Int)), x3] [] (m, tl len) Q := by
  intro d
  induction d with
  | zero => intro l w m x3 hd hll hw hI; omega
  | succ d ih =>
    intro l w m x3 hd hll hw hI
    have hn60 := hV.1
    have hl1 : (clsA R c).length ≤ 30 := Nat.le_trans (cls_len R c (Ck R c)) (hV.2.2.1 c hc).2.2.2.2.2
    have hmx := RL_mx R
    have hm6 : mxv (Run R) ≤ 6 := by cases Run R <;> decide
    have hMm : MR R i m := hI.1.MR hM
    have hcp : ∀ q ∈ clsA R c, 1 ≤ q.1 ∧ q.1 ≤ 600 := cls_pl hV hc _ (Nat.le_refl _)
    have occ : ∀ k, k < (clsA R c).length → ((clsA R c).getD k (0, (0, 0))).1 < 601 ∧ atp (RA R) ((clsA R c).getD k (0, (0, 0))).1 ≠ 0 := fun k hk => ⟨by have := hcp _ (get_mem hk); omega, atp_mem (acl_mem hc (get_mem hk))⟩
    have hwb : w ≤ 9000000 * l := by rw [hw]; exact SL_b h1 l
    refine E_s (p' := 291) (st' := aI ((l : Nat) : Int) :: _) rfl rfl ?_
    refine E_s (p' := 292) (st' := aA 124 :: _) rfl rfl ?_
    refine E_gI (v := ((RL R : Nat) : Int)) rfl rfl rfl rfl hI.2.1.1 ?_
    refine E_icmp_ge (x := ((l : Nat) : Int)) (y := ((RL R : Nat) : Int)) rfl (by decide) (fun h_1 => ?_) (fun h_1 => ?_)
    · refine E_go (p' := 330) (L' := [some (aA 124), some (aI ((60 * i + c : Nat) : Int)), some (aI ((l : Nat) : Int)), x3]) (st' := []) rfl rfl rfl ?_
      have el : l = RL R := by omega
      subst el
      rw [hw] at hI
      exact hk x3 m hI
    · refine E_go (p' := 298) (L' := [some (aA 124), some (aI ((60 * i + c : Nat) : Int)), some (aI ((l : Nat) : Int)), x3]) (st' := []) rfl rfl rfl ?_
      have hrb := Rct_le h1 l
      refine E_s (p' := 299) (st' := aA 124 :: _) rfl rfl ?_
      refine E_s (p' := 300) (st' := aI ((60 * i + c : Nat) : Int) :: _) rfl rfl ?_
      refine E_s (p' := 301) (st' := aI ((l : Nat) : Int) :: _) rfl rfl ?_
      refine E_callV (k' := 150) (a := 124) (r := []) (L0 := [some (aA 124), some (aI ((60 * i + c : Nat) : Int)), some (aI ((l : Nat) : Int))]) rfl rfl rfl rfl rfl rfl rfl rfl rfl rfl ?_
      refine m_isLost hi hMm hV hc hI.2.1 (l := l) (by omega) ?_
      refine E_go (p' := 304) (L' := [some (aA 124), some (aI ((60 * i + c : Nat) : Int)), some (aI ((l : Nat) : Int)), x3]) (st' := [aI (bi (lst R c l))]) rfl rfl rfl ?_
      refine E_b_eq0 (b := (lst R c l)) rfl (by decide) (fun h_2 => ?_) (fun h_2 => ?_)
      · refine E_go (p' := 324) (L' := [some (aA 124), some (aI ((60 * i + c : Nat) : Int)), some (aI ((l : Nat) : Int)), x3]) (st' := []) rfl rfl rfl ?_
        refine E_inc (x := ((l : Nat) : Int)) (w := ((l + 1 : Nat) : Int)) (L' := [some (aA 124), some (aI ((60 * i + c : Nat) : Int)), some (aI ((l + 1 : Nat) : Int)), x3]) rfl rfl rfl (by omega) (by omega) rfl ?_
        refine E_s (p' := 290) rfl rfl ?_
        refine ih (l + 1) _ _ _ (by omega) (by omega) ?_ hI
        show _ = sumN _ l + (bif lst R c l then 9 * Rct R l else 0)
        rw [← hw, show lst R c l = false by assumption]
        rfl
      · refine E_go (p' := 307) (L' := [some (aA 124), some (aI ((60 * i + c : Nat) : Int)), some (aI ((l : Nat) : Int)), x3]) (st' := []) rfl rfl rfl ?_
        refine E_s (p' := 308) (st' := aA 124 :: _) rfl rfl ?_
        refine E_s (p' := 309) (st' := aA 124 :: _) rfl rfl ?_
        refine E_gI (v := ((w : Nat) : Int)) rfl rfl rfl rfl hI.2.2.2.2.2 ?_
        refine E_s (p' := 314) (st' := aI 9 :: _) rfl rfl ?_
        refine E_s (p' := 315) (st' := aA 124 :: _) rfl rfl ?_
        refine E_s (p' := 316) (st' := aI ((l : Nat) : Int) :: _) rfl rfl ?_
        refine E_callV (k' := 151) (a := 124) (r := [aI 9, aI ((w : Nat) : Int), aA 124]) (L0 := [some (aA 124), some (aI ((l : Nat) : Int)), none, none]) rfl rfl rfl rfl rfl rfl rfl rfl rfl rfl ?_
        refine m_counts hI.2.1 (l := l) (by omega) ?_
        refine E_go (p' := 319) (L' := [some (aA 124), some (aI ((60 * i + c : Nat) : Int)), some (aI ((l : Nat) : Int)), x3]) (st' := [aI ((Rct R l : Nat) : Int), aI 9, aI ((w : Nat) : Int), aA 124]) rfl rfl rfl ?_
        refine E_mul (v := ((9 * (Rct R l) : Nat) : Int)) rfl (by omega) (by omega) ?_
        refine E_add (v := ((w + 9 * (Rct R l) : Nat) : Int)) rfl (by omega) (by omega) ?_
        refine E_pI rfl rfl rfl rfl (Or.inl rfl) ?_
        refine E_inc (x := ((l : Nat) : Int)) (w := ((l + 1 : Nat) : Int)) (L' := [some (aA 124), some (aI ((60 * i + c : Nat) : Int)), some (aI ((l + 1 : Nat) : Int)), x3]) rfl rfl rfl (by omega) (by omega) rfl ?_
        refine E_s (p' := 290) rfl rfl ?_
        refine ih (l + 1) _ _ _ (by omega) (by omega) ?_ hI.s29
        show _ = sumN _ l + (bif lst R c l then 9 * Rct R l else 0)
        rw [← hw, show lst R c l = true by assumption]
        rfl
theorem m_readCord (hi : i < 4) (hM : MR R i m0) (hV : VR R) (hc : c < Cn R) (hd9 : RdM R m0) (q : ∀ m1 : Mm, FrM m0 m1 → RdM R m1 → m1 124 27 = (Rft R c : Int) → m1 124 28 = (Rvl R c : Int) → m1 124 29 = (Rls R c : Int) → Q none (m1, tl len)) : E 148 0 [some (aA 124), some (aI ((60 * i + c : Nat) : Int)), none, none] [] (m0, tl len) Q := by
  refine E_s (p' := 1) (st' := aA 124 :: _) rfl rfl ?_
  refine E_s (p' := 2) (st' := aI ((60 * i + c : Nat) : Int) :: _) rfl rfl ?_
  refine E_callV (k' := 146) (a := 124) (r := []) (L0 := [some (aA 124), some (aI ((60 * i + c : Nat) : Int)), none, none, none]) rfl rfl rfl rfl rfl rfl rfl rfl rfl rfl ?_
  refine m_cluster hi hM hV (c := c) hc (fun m1 J1 J2 => ?_)
  refine E_go (p' := 5) (L' := [some (aA 124), some (aI ((60 * i + c : Nat) : Int)), none, none]) (st' := []) rfl rfl rfl ?_
  refine E_s (p' := 6) (st' := aA 124 :: _) rfl rfl ?_
  refine E_s (p' := 7) (st' := aI 0 :: _) rfl rfl ?_
  refine E_pI rfl rfl rfl rfl (Or.inl rfl) ?_
  refine E_s (p' := 11) (st' := aA 124 :: _) rfl rfl ?_
  refine E_s (p' := 12) (st' := aI 0 :: _) rfl rfl ?_
  refine E_pI rfl rfl rfl rfl (Or.inl rfl) ?_
  refine E_s (p' := 16) (st' := aA 124 :: _) rfl rfl ?_
  refine E_s (p' := 17) (st' := aI 0 :: _) rfl rfl ?_
  refine E_pI rfl rfl rfl rfl (Or.inl rfl) ?_
  refine E_s (p' := 21) (st' := aA 124 :: _) rfl rfl ?_
  refine E_gI (v := ((RL R : Nat) : Int)) rfl rfl rfl rfl ((up2_sl (by omega)).trans ((up2_sl (by omega)).trans ((up2_sl (by omega)).trans (((J2 _ _ (by omega) (by omega)).trans hd9.1))))) ?_
  refine E_if_ne (x := ((RL R : Nat) : Int)) rfl (by decide) (fun h_1 => ?_) (fun h_1 => ?_)
  · refine E_go (p' := 44) (L' := [some (aA 124), some (aI ((60 * i + c : Nat) : Int)), none, none]) (st' := []) rfl rfl rfl ?_
    refine E_s (p' := 45) (st' := aI 0 :: _) rfl rfl ?_
    refine E_s (p' := 46) (L' := [some (aA 124), some (aI ((60 * i + c : Nat) : Int)), some (aI 0), none]) rfl rfl ?_
    have h1 : 1 ≤ RL R := by omega
    refine yl_r1 hi hM hV hc h1 (fun m5 hI => ?_) ((clsA R c).length + 1) 0 _ (by omega) (by omega) ⟨((FrM.rf.tr (fun b z g1 g2 => J2 b z (by omega) (by omega))).up (by omega)).up (by omega) |>.up (by omega), hd9.of (fun b j hb => (up2_o (by omega)).trans ((up2_o (by omega)).trans ((up2_o (by omega)).trans (J2 b j (by omega) (by omega))))), J1.of (fun b j hb => (up2_o (by omega)).trans ((up2_o (by omega)).trans (up2_o (by omega)))), (up2_sl (by decide)).trans ((up2_sl (by decide)).trans up2_eq), (up2_sl (by decide)).trans up2_eq, up2_eq⟩
    refine E_s (p' := 86) (st' := aI 1 :: _) rfl rfl ?_
    refine E_s (p' := 87) (L' := [some (aA 124), some (aI ((60 * i + c : Nat) : Int)), some (aI 1), none]) rfl rfl ?_
    refine yl_r2 hi hM hV hc h1 (fun k6 m6 hI => ?_) ((clsA R c).length + 2) 1 _ (by omega) (by omega) (by unfold ft2; show RC0 R c m0 _ ((bif rMany R (clsA R c) then 2 else bif adN R (clsA R c) 1 then 3 else 0 : Nat) : Int) 0 0; rw [show adN R (clsA R c) 1 = false from rfl]; exact hI)
    refine E_s (p' := 139) (st' := aI 0 :: _) rfl rfl ?_
    refine E_s (p' := 140) (L' := [some (aA 124), some (aI ((60 * i + c : Nat) : Int)), some (aI 0), none]) rfl rfl ?_
    refine yl_r3 hi hM hV hc h1 (fun k7 y3 m7 hI => ?_) ((clsA R c).length + 1) 0 _ none (by omega) (by omega) (by rw [ft3_0]; exact hI)
    have hf4 := ft3_b R (clsA R c) (clsA R c).length
    refine E_s (p' := 217) (st' := aA 124 :: _) rfl rfl ?_
    refine E_gI (v := ((ft3 R (clsA R c) (clsA R c).length : Nat) : Int)) rfl rfl rfl rfl hI.2.2.2.1 ?_
    refine E_if_le (x := ((ft3 R (clsA R c) (clsA R c).length : Nat) : Int)) rfl (by decide) (fun h_2 => ?_) (fun h_2 => ?_)
    · refine E_go (p' := 224) (L' := [some (aA 124), some (aI ((60 * i + c : Nat) : Int)), some (aI ((k7 : Nat) : Int)), y3]) (st' := []) rfl rfl rfl ?_
      refine E_s (p' := 225) (st' := aI 0 :: _) rfl rfl ?_
      refine E_s (p' := 226) (L' := [some (aA 124), some (aI ((60 * i + c : Nat) : Int)), some (aI 0), y3]) rfl rfl ?_
      have hz0 : ft3 R (clsA R c) (clsA R c).length = 0 := by omega
      rw [hz0] at hI
      refine yl_r4 hi hM hV hc h1 (fun y4 m8 hI => ?_) ((clsA R c).length + 1) 0 0 _ _ (by omega) (by omega) (by rw [List.take_zero]; rfl) hI
      refine E_s (p' := 289) (st' := aI 0 :: _) rfl rfl ?_
      refine E_s (p' := 290) (L' := [some (aA 124), some (aI ((60 * i + c : Nat) : Int)), some (aI 0), y4]) rfl rfl ?_
      refine yl_r5 hi hM hV hc h1 (fun y5 m9 hI => ?_) (RL R + 1) 0 0 _ _ (by omega) (by omega) rfl hI
      have hwb := SL_b (c := c) h1 (RL R)
      have hmx := RL_mx R
      have hm6 : mxv (Run R) ≤ 6 := by cases Run R <;> decide
      have hMm : MR R i m9 := hI.1.MR hM
      refine E_s (p' := 331) (st' := aA 124 :: _) rfl rfl ?_
      refine E_gI (v := (bi (Run R))) rfl rfl rfl rfl hI.2.1.2.1 ?_
      refine E_b_ne0 (b := (Run R)) rfl (by decide) (fun h_3 => ?_) (fun h_3 => ?_)
      · refine E_go (p' := 362) (L' := [some (aA 124), some (aI ((60 * i + c : Nat) : Int)), some (aI ((RL R : Nat) : Int)), y5]) (st' := []) rfl rfl rfl ?_
        refine E_ret rfl rfl ?_
        have hf0 : Rft R c = 0 := by rw [Rft_3 hV hc h1]; omega
        have hb9 : (bif !Run R && lst R c (RL R - 1) then 9 else 0) = 0 := by simp [*]
        have hls : Rls R c = sumN (fun l => bif lst R c l then 9 * Rct R l else 0) (RL R) + 0 := by unfold Rls rLost; rw [if_neg (by omega), if_pos hf0, hb9]
        have hJ := hI
        exact q _ hJ.1 hJ.2.1 (by rw [hf0]; exact hJ.2.2.2.1) (hJ.2.2.2.2.1.trans (by unfold Rvl; rw [if_neg (by omega), if_pos hf0])) (hJ.2.2.2.2.2.trans (by rw [hls]; rfl))
      · refine E_go (p' := 337) (L' := [some (aA 124), some (aI ((60 * i + c : Nat) : Int)), some (aI ((RL R : Nat) : Int)), y5]) (st' := []) rfl rfl rfl ?_
        refine E_s (p' := 338) (st' := aA 124 :: _) rfl rfl ?_
        refine E_s (p' := 339) (st' := aI ((60 * i + c : Nat) : Int) :: _) rfl rfl ?_
        refine E_s (p' := 340) (st' := aA 124 :: _) rfl rfl ?_
        refine E_gI (v := ((RL R : Nat) : Int)) rfl rfl rfl rfl hI.2.1.1 ?_
        refine E_s (p' := 344) (st' := aI 1 :: _) rfl rfl ?_
        refine E_sub (v := ((RL R : Int) - 1)) rfl (by omega) (by omega) ?_
        refine E_valv (show ((RL R : Int) - 1) = (((RL R - 1) : Nat) : Int) by omega) ?_
        refine E_callV (k' := 150) (a := 124) (r := []) (L0 := [some (aA 124), some (aI ((60 * i + c : Nat) : Int)), some (aI (((RL R - 1) : Nat) : Int))]) rfl rfl rfl rfl rfl rfl rfl rfl rfl rfl ?_
        refine m_isLost hi hMm hV hc hI.2.1 (l := (RL R - 1)) (by omega) ?_
        refine E_go (p' := 348) (L' := [some (aA 124), some (aI ((60 * i + c : Nat) : Int)), some (aI ((RL R : Nat) : Int)), y5]) (st' := [aI (bi (lst R c (RL R - 1)))]) rfl rfl rfl ?_
        refine E_b_eq0 (b := (lst R c (RL R - 1))) rfl (by decide) (fun h_4 => ?_) (fun h_4 => ?_)
        · refine E_go (p' := 362) (L' := [some (aA 124), some (aI ((60 * i + c : Nat) : Int)), some (aI ((RL R : Nat) : Int)), y5]) (st' := []) rfl rfl rfl ?_
          refine E_ret rfl rfl ?_
          have hf0 : Rft R c = 0 := by rw [Rft_3 hV hc h1]; omega
          have hb9 : (bif !Run R && lst R c (RL R - 1) then 9 else 0) = 0 := by simp [*]
          have hls : Rls R c = sumN (fun l => bif lst R c l then 9 * Rct R l else 0) (RL R) + 0 := by unfold Rls rLost; rw [if_neg (by omega), if_pos hf0, hb9]
          have hJ := hI
          exact q _ hJ.1 hJ.2.1 (by rw [hf0]; exact hJ.2.2.2.1) (hJ.2.2.2.2.1.trans (by unfold Rvl; rw [if_neg (by omega), if_pos hf0])) (hJ.2.2.2.2.2.trans (by rw [hls]; rfl))
        · refine E_go (p' := 351) (L' := [some (aA 124), some (aI ((60 * i + c : Nat) : Int)), some (aI ((RL R : Nat) : Int)), y5]) (st' := []) rfl rfl rfl ?_
          refine E_s (p' := 352) (st' := aA 124 :: _) rfl rfl ?_
          refine E_s (p' := 353) (st' := aA 124 :: _) rfl rfl ?_
          refine E_gI (v := ((sumN (fun l => bif lst R c l then 9 * Rct R l else 0) (RL R) : Nat) : Int)) rfl rfl rfl rfl hI.2.2.2.2.2 ?_
          refine E_s (p' := 358) (st' := aI 9 :: _) rfl rfl ?_
          refine E_add (v := ((sumN (fun l => bif lst R c l then 9 * Rct R l else 0) (RL R) + 9 : Nat) : Int)) rfl (by omega) (by omega) ?_
          refine E_pI rfl rfl rfl rfl (Or.inl rfl) ?_
          refine E_ret rfl rfl ?_
          have hf0 : Rft R c = 0 := by rw [Rft_3 hV hc h1]; omega
          have hb9 : (bif !Run R && lst R c (RL R - 1) then 9 else 0) = 9 := by simp [*]
          have hls : Rls R c = sumN (fun l => bif lst R c l then 9 * Rct R l else 0) (RL R) + 9 := by unfold Rls rLost; rw [if_neg (by omega), if_pos hf0, hb9]
          have hJ := (hI.s29 (x := ((sumN (fun l => bif lst R c l then 9 * Rct R l else 0) (RL R) + 9 : Nat) : Int)))
          exact q _ hJ.1 hJ.2.1 (by rw [hf0]; exact hJ.2.2.2.1) (hJ.2.2.2.2.1.trans (by unfold Rvl; rw [if_neg (by omega), if_pos hf0])) (hJ.2.2.2.2.2.trans (by rw [hls]))
    · refine E_go (p' := 223) (L' := [some (aA 124), some (aI ((60 * i + c : Nat) : Int)), some (aI ((k7 : Nat) : Int)), y3]) (st' := []) rfl rfl rfl ?_
      refine E_ret rfl rfl ?_
      have hf0 := Rft_3 hV hc h1
      exact q _ hI.1 hI.2.1 (by rw [hf0]; exact hI.2.2.2.1) (hI.2.2.2.2.1.trans (by unfold Rvl; rw [if_neg (by omega), if_neg (by omega)]; rfl)) (hI.2.2.2.2.2.trans (by unfold Rls; rw [if_neg (by omega), if_neg (by omega)]; rfl))
  · refine E_go (p' := 27) (L' := [some (aA 124), some (aI ((60 * i + c : Nat) : Int)), none, none]) (st' := []) rfl rfl rfl ?_
    refine E_s (p' := 28) (st' := aA 124 :: _) rfl rfl ?_
    refine E_s (p' := 29) (st' := aA 124 :: _) rfl rfl ?_
    refine E_gI (v := (bi (Rkt R))) rfl rfl rfl rfl ((up2_sl (by omega)).trans ((up2_sl (by omega)).trans ((up2_sl (by omega)).trans (((J2 _ _ (by omega) (by omega)).trans hd9.2.2.1))))) ?_
    refine E_b_eq0 (b := (Rkt R)) rfl (by decide) (fun h_2 => ?_) (fun h_2 => ?_)
    · refine E_go (p' := 39) (L' := [some (aA 124), some (aI ((60 * i + c : Nat) : Int)), none, none]) (st' := [aA 124]) rfl rfl rfl ?_
      refine E_s (p' := 40) (st' := aI 0 :: _) rfl rfl ?_
      refine E_pI rfl rfl rfl rfl (Or.inl rfl) ?_
      refine E_ret rfl rfl ?_
      have h0 : RL R = 0 := by omega
      have hft : Rft R c = 0 := by unfold Rft; rw [if_pos h0, h_2]; rfl
      exact q _ (((((FrM.rf.tr (fun b z g1 g2 => J2 b z (by omega) (by omega))).up (by omega)).up (by omega)).up (by omega)).up (by omega)) (hd9.of (fun b j hb => ((up2_o (by omega)).trans ((up2_o (by omega)).trans ((up2_o (by omega)).trans (up2_o (by omega))))).trans (J2 b j (by omega) (by omega)))) ((up2_eq).trans (by rw [hft]; rfl)) (((up2_sl (by omega)).trans ((up2_sl (by omega)).trans (up2_eq))).trans (by unfold Rvl; rw [if_pos h0]; rfl)) (((up2_sl (by omega)).trans (up2_eq)).trans (by unfold Rls; rw [if_pos h0]; rfl))
    · refine E_go (p' := 35) (L' := [some (aA 124), some (aI ((60 * i + c : Nat) : Int)), none, none]) (st' := [aA 124]) rfl rfl rfl ?_
      refine E_s (p' := 36) (st' := aI 1 :: _) rfl rfl ?_
      refine E_s (p' := 40) rfl rfl ?_
      refine E_pI rfl rfl rfl rfl (Or.inl rfl) ?_
      refine E_ret rfl rfl ?_
      have h0 : RL R = 0 := by omega
      have hft : Rft R c = 1 := by unfold Rft; rw [if_pos h0, h_2]; rfl
      exact q _ (((((FrM.rf.tr (fun b z g1 g2 => J2 b z (by omega) (by omega))).up (by omega)).up (by omega)).up (by omega)).up (by omega)) (hd9.of (fun b j hb => ((up2_o (by omega)).trans ((up2_o (by omega)).trans ((up2_o (by omega)).trans (up2_o (by omega))))).trans (J2 b j (by omega) (by omega)))) ((up2_eq).trans (by rw [hft]; rfl)) (((up2_sl (by omega)).trans ((up2_sl (by omega)).trans (up2_eq))).trans (by unfold Rvl; rw [if_pos h0]; rfl)) (((up2_sl (by omega)).trans (up2_eq)).trans (by unfold Rls; rw [if_pos h0]; rfl))
end
