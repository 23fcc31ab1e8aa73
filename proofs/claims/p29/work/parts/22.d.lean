def RC0 (R : RD) (c : Nat) (m0 m : Mm) (f v w : Int) : Prop := FrM m0 m ∧ RdM R m ∧ CLm (clsA R c) m ∧ m 124 27 = f ∧ m 124 28 = v ∧ m 124 29 = w
section
variable {R : RD} {c : Nat} {m0 m : Mm} {f v w x : Int}
theorem RC0.s27 (h : RC0 R c m0 m f v w) : RC0 R c m0 (up2 m 124 27 x) x v w := ⟨h.1.up (by omega), h.2.1.of (fun b j hb => up2_o (by omega)), h.2.2.1.of (fun b j hb => up2_o (by omega)), up2_eq, (up2_sl (by decide)).trans h.2.2.2.2.1, (up2_sl (by decide)).trans h.2.2.2.2.2⟩
theorem RC0.s28 (h : RC0 R c m0 m f v w) : RC0 R c m0 (up2 m 124 28 x) f x w := ⟨h.1.up (by omega), h.2.1.of (fun b j hb => up2_o (by omega)), h.2.2.1.of (fun b j hb => up2_o (by omega)), (up2_sl (by decide)).trans h.2.2.2.1, up2_eq, (up2_sl (by decide)).trans h.2.2.2.2.2⟩
theorem RC0.s29 (h : RC0 R c m0 m f v w) : RC0 R c m0 (up2 m 124 29 x) f v x := ⟨h.1.up (by omega), h.2.1.of (fun b j hb => up2_o (by omega)), h.2.2.1.of (fun b j hb => up2_o (by omega)), (up2_sl (by decide)).trans h.2.2.2.1, (up2_sl (by decide)).trans h.2.2.2.2.1, up2_eq⟩
end
theorem adN_s {R : RD} {l : List Cl3} {k : Nat} : adN R l (k + 1) = (adN R l k || (decide (1 ≤ k) && (Rlo R (l.getD k (0, (0, 0))).1 == Rlo R (l.getD (k - 1) (0, (0, 0))).1))) := by
  unfold adN
  rw [List.range_succ, List.any_append]
  simp only [List.any_cons, List.any_nil, Bool.or_false]
theorem adN_up {R : RD} {l : List Cl3} {k : Nat} (h : adN R l k = true) : ∀ d, adN R l (k + d) = true := by
  intro d
  induction d with
  | zero => exact h
  | succ d ih => show adN R l (k + d + 1) = true; rw [adN_s, ih]; rfl
def ft2 (R : RD) (l : List Cl3) (k : Nat) : Nat := bif rMany R l then 2 else bif adN R l k then 3 else 0
def ft3 (R : RD) (l : List Cl3) (k : Nat) : Nat := if ft2 R l l.length = 0 then (bif rAs R (l.take k) then 4 else 0) else ft2 R l l.length
theorem ft3_b (R : RD) (l : List Cl3) (k : Nat) : ft3 R l k ≤ 4 := by
  unfold ft3
  split
  · cases rAs R (l.take k) <;> decide
  · unfold ft2; cases rMany R l <;> cases adN R l l.length <;> decide
theorem Rft_3 {R : RD} (hV : VR R) {c : Nat} (hc : c < Cn R) (h : 1 ≤ RL R) : Rft R c = ft3 R (clsA R c) (clsA R c).length := by
  unfold Rft ft3 ft2
  rw [if_neg (by omega), tw_N hV hc, List.take_length]
  cases rMany R (clsA R c) <;> cases adN R (clsA R c) (clsA R c).length <;> rfl
theorem rAs_up {R : RD} {l : List Cl3} {k : Nat} (h : rAs R (l.take k) = true) : rAs R (l.take l.length) = true := by
  rw [List.take_length]
  unfold rAs at h ⊢
  rw [List.any_eq_true] at h ⊢
  obtain ⟨x, hx, e⟩ := h
  exact ⟨x, List.mem_of_mem_take hx, e⟩
theorem bx_1 {a u v : Bool} (h : ((!a) == u) = v) : (a == (true && u)) = !v := by cases a <;> cases u <;> cases v <;> first | rfl | cases h
theorem bx_0 {a w v : Bool} (h : ((!a) == false) = v) : (a == (false && w)) = !v := by cases a <;> cases w <;> cases v <;> first | rfl | cases h
section
variable {len : Nat} {m : Mm} {Q : Option AV → Sx → Prop} {R : RD} {i c p l : Nat}
theorem yl_mlo (h1 : 1 ≤ RL R) (hd9 : RdM R m) (hp : p < 601) (ho : atp (RA R) p ≠ 0) (q : Q (some (aI (Rlo R p : Int))) (m, tl len)) : ∀ (d : Nat) (l : Nat), (Rlo R p < l + d) → (l ≤ Rlo R p) → E 149 2 [some (aA 124), some (aI ((p : Nat) : Int)), some (aI ((l : Nat) : Int))] [] (m, tl len) Q := by
  intro d
  induction d with
  | zero => intro l hd hl; omega
  | succ d ih =>
    intro l hd hl
    obtain ⟨o1, o2, o3⟩ := Rlo_oc h1 hp ho
    have hlt := Rlo_lt h1 p
    have hmx := RL_mx R
    have hm6 : mxv (Run R) ≤ 6 := by cases Run R <;> decide
    refine E_s (p' := 3) (st' := aI ((l : Nat) : Int) :: _) rfl rfl ?_
    refine E_s (p' := 4) (st' := aA 124 :: _) rfl rfl ?_
    refine E_gI (v := ((RL R : Nat) : Int)) rfl rfl rfl rfl hd9.1 ?_
    refine E_icmp_ge (x := ((l : Nat) : Int)) (y := ((RL R : Nat) : Int)) rfl (by decide) (fun h_1 => ?_) (fun h_1 => ?_)
    · refine E_go (p' := 38) (L' := [some (aA 124), some (aI ((p : Nat) : Int)), some (aI ((l : Nat) : Int))]) (st' := []) rfl rfl rfl ?_
      refine E_s (p' := 39) (st' := aI (-1) :: _) rfl rfl ?_
      refine E_ret rfl rfl ?_
      exfalso; omega
    · refine E_go (p' := 10) (L' := [some (aA 124), some (aI ((p : Nat) : Int)), some (aI ((l : Nat) : Int))]) (st' := []) rfl rfl rfl ?_
      refine E_s (p' := 11) (st' := aI ((p : Nat) : Int) :: _) rfl rfl ?_
      refine E_s (p' := 12) (st' := aA 124 :: _) rfl rfl ?_
      refine E_gA (b := 145) rfl rfl rfl rfl rfl rfl ?_
      refine E_s (p' := 16) (st' := aI ((l : Nat) : Int) :: _) rfl rfl ?_
      refine E_ald (e := l) (N := 601) (v := ((RF R l : Nat) : Int)) rfl rfl (rfl) (by omega) (hd9.2.2.2 _ (by omega)).1 ?_
      refine E_icmp_lt (x := ((p : Nat) : Int)) (y := ((RF R l : Nat) : Int)) rfl (by decide) (fun h_2 => ?_) (fun h_2 => ?_)
      · refine E_go (p' := 32) (L' := [some (aA 124), some (aI ((p : Nat) : Int)), some (aI ((l : Nat) : Int))]) (st' := []) rfl rfl rfl ?_
        refine E_inc (x := ((l : Nat) : Int)) (w := ((l + 1 : Nat) : Int)) (L' := [some (aA 124), some (aI ((p : Nat) : Int)), some (aI ((l + 1 : Nat) : Int))]) rfl rfl rfl (by omega) (by omega) rfl ?_
        refine E_s (p' := 2) rfl rfl ?_
        rcases Nat.lt_or_ge l (Rlo R p) with g9 | g9
        · exact ih (l + 1) (by omega) (by omega)
        · have e1 : RF R l = RF R (Rlo R p) := by rw [show l = Rlo R p by omega]
          have e2 : Rla R l = Rla R (Rlo R p) := by rw [show l = Rlo R p by omega]
          exfalso; omega
      · refine E_go (p' := 20) (L' := [some (aA 124), some (aI ((p : Nat) : Int)), some (aI ((l : Nat) : Int))]) (st' := []) rfl rfl rfl ?_
        refine E_s (p' := 21) (st' := aI ((p : Nat) : Int) :: _) rfl rfl ?_
        refine E_s (p' := 22) (st' := aA 124 :: _) rfl rfl ?_
        refine E_gA (b := 146) rfl rfl rfl rfl rfl rfl ?_
        refine E_s (p' := 26) (st' := aI ((l : Nat) : Int) :: _) rfl rfl ?_
        refine E_ald (e := l) (N := 601) (v := ((Rla R l : Nat) : Int)) rfl rfl (rfl) (by omega) (hd9.2.2.2 _ (by omega)).2.1 ?_
        refine E_icmp_gt (x := ((p : Nat) : Int)) (y := ((Rla R l : Nat) : Int)) rfl (by decide) (fun h_3 => ?_) (fun h_3 => ?_)
        · refine E_go (p' := 32) (L' := [some (aA 124), some (aI ((p : Nat) : Int)), some (aI ((l : Nat) : Int))]) (st' := []) rfl rfl rfl ?_
          refine E_inc (x := ((l : Nat) : Int)) (w := ((l + 1 : Nat) : Int)) (L' := [some (aA 124), some (aI ((p : Nat) : Int)), some (aI ((l + 1 : Nat) : Int))]) rfl rfl rfl (by omega) (by omega) rfl ?_
          refine E_s (p' := 2) rfl rfl ?_
          rcases Nat.lt_or_ge l (Rlo R p) with g9 | g9
          · exact ih (l + 1) (by omega) (by omega)
          · have e1 : RF R l = RF R (Rlo R p) := by rw [show l = Rlo R p by omega]
            have e2 : Rla R l = Rla R (Rlo R p) := by rw [show l = Rlo R p by omega]
            exfalso; omega
        · refine E_go (p' := 30) (L' := [some (aA 124), some (aI ((p : Nat) : Int)), some (aI ((l : Nat) : Int))]) (st' := []) rfl rfl rfl ?_
          refine E_s (p' := 31) (st' := aI ((l : Nat) : Int) :: _) rfl rfl ?_
          refine E_ret rfl rfl ?_
          have e9 : l = Rlo R p := by
            rcases Nat.lt_or_ge l (Rlo R p) with g9 | g9
            · have := o3 l g9; omega
            · omega
          rw [e9]
          exact q
theorem m_levelOf (h1 : 1 ≤ RL R) (hd9 : RdM R m) (hp : p < 601) (ho : atp (RA R) p ≠ 0) (q : Q (some (aI (Rlo R p : Int))) (m, tl len)) : E 149 0 [some (aA 124), some (aI ((p : Nat) : Int)), none] [] (m, tl len) Q := by
  refine E_s (p' := 1) (st' := aI 0 :: _) rfl rfl ?_
  refine E_s (p' := 2) (L' := [some (aA 124), some (aI ((p : Nat) : Int)), some (aI 0)]) rfl rfl ?_
  exact yl_mlo h1 hd9 hp ho q (Rlo R p + 1) 0 (by omega) (Nat.zero_le _)
theorem yl_mct (hd9 : RdM R m) (hl : l < RL R) (q : Q (some (aI (Rct R l : Int))) (m, tl len)) : ∀ (d : Nat) (k w : Nat), (k < d) → (l ≤ k ∧ k < RL R) → (w = 10 ^ (RL R - 1 - k) * wtv (Run R)) → E 151 21 [some (aA 124), some (aI ((l : Nat) : Int)), some (aI ((w : Nat) : Int)), some (aI ((k : Nat) : Int))] [] (m, tl len) Q := by
  intro d
  induction d with
  | zero => intro k w hd hk hw; omega
  | succ d ih =>
    intro k w hd hk hw
    have hmx := RL_mx R
    have hm6 : mxv (Run R) ≤ 6 := by cases Run R <;> decide
    have hwb := pw_le hmx (show RL R - 1 - k ≤ RL R by omega)
    rw [← hw] at hwb
    refine E_s (p' := 22) (st' := aI ((k : Nat) : Int) :: _) rfl rfl ?_
    refine E_s (p' := 23) (st' := aI ((l : Nat) : Int) :: _) rfl rfl ?_
    refine E_icmp_le (x := ((k : Nat) : Int)) (y := ((l : Nat) : Int)) rfl (by decide) (fun h_1 => ?_) (fun h_1 => ?_)
    · refine E_go (p' := 37) (L' := [some (aA 124), some (aI ((l : Nat) : Int)), some (aI ((w : Nat) : Int)), some (aI ((k : Nat) : Int))]) (st' := []) rfl rfl rfl ?_
      refine E_s (p' := 38) (st' := aI ((w : Nat) : Int) :: _) rfl rfl ?_
      refine E_ret rfl rfl ?_
      rw [show (w : Int) = (Rct R l : Int) by rw [hw, show k = l by omega]; rfl]
      exact q
    · refine E_go (p' := 26) (L' := [some (aA 124), some (aI ((l : Nat) : Int)), some (aI ((w : Nat) : Int)), some (aI ((k : Nat) : Int))]) (st' := []) rfl rfl rfl ?_
      obtain ⟨kp, ek⟩ : ∃ x, k = x + 1 := ⟨k - 1, by omega⟩
      subst ek
      refine E_s (p' := 27) (st' := aI ((w : Nat) : Int) :: _) rfl rfl ?_
      refine E_s (p' := 29) (st' := aI 10 :: _) rfl rfl ?_
      refine E_mul (v := ((10 * w : Nat) : Int)) rfl (by omega) (by omega) ?_
      refine E_s (p' := 31) (L' := [some (aA 124), some (aI ((l : Nat) : Int)), some (aI ((10 * w : Nat) : Int)), some (aI ((kp + 1 : Nat) : Int))]) rfl rfl ?_
      refine E_inc (x := ((kp + 1 : Nat) : Int)) (w := ((kp : Nat) : Int)) (L' := [some (aA 124), some (aI ((l : Nat) : Int)), some (aI ((10 * w : Nat) : Int)), some (aI ((kp : Nat) : Int))]) rfl rfl rfl (by omega) (by omega) rfl ?_
      refine E_s (p' := 21) rfl rfl ?_
      refine ih kp _ (by omega) (by omega) ?_
      rw [hw, show RL R - 1 - kp = RL R - 1 - (kp + 1) + 1 by omega, Nat.pow_succ, Nat.mul_right_comm, Nat.mul_comm]
theorem m_counts (hd9 : RdM R m) (hl : l < RL R) (q : Q (some (aI (Rct R l : Int))) (m, tl len)) : E 151 0 [some (aA 124), some (aI ((l : Nat) : Int)), none, none] [] (m, tl len) Q := by
  have hmx := RL_mx R
  have hm6 : mxv (Run R) ≤ 6 := by cases Run R <;> decide
  refine E_s (p' := 1) (st' := aA 124 :: _) rfl rfl ?_
  refine E_gI (v := (bi (Run R))) rfl rfl rfl rfl hd9.2.1 ?_
  refine E_b_eq0 (b := (Run R)) rfl (by decide) (fun h_1 => ?_) (fun h_1 => ?_)
  · refine E_go (p' := 11) (L' := [some (aA 124), some (aI ((l : Nat) : Int)), none, none]) (st' := []) rfl rfl rfl ?_
    refine E_s (p' := 13) (st' := aI 10 :: _) rfl rfl ?_
    refine E_s (p' := 14) (L' := [some (aA 124), some (aI ((l : Nat) : Int)), some (aI 10), none]) rfl rfl ?_
    refine E_s (p' := 15) (st' := aA 124 :: _) rfl rfl ?_
    refine E_gI (v := ((RL R : Nat) : Int)) rfl rfl rfl rfl hd9.1 ?_
    refine E_s (p' := 19) (st' := aI 1 :: _) rfl rfl ?_
    refine E_sub (v := ((RL R : Int) - 1)) rfl (by omega) (by omega) ?_
    refine E_s (p' := 21) (L' := [some (aA 124), some (aI ((l : Nat) : Int)), some (aI 10), some (aI ((RL R : Int) - 1))]) rfl rfl ?_
    rw [show ((RL R : Int) - 1) = ((RL R - 1 : Nat) : Int) by omega]
    exact yl_mct hd9 hl q (RL R) (RL R - 1) 10 (by omega) (by omega) (by rw [Nat.sub_self, h_1]; rfl)
  · refine E_go (p' := 7) (L' := [some (aA 124), some (aI ((l : Nat) : Int)), none, none]) (st' := []) rfl rfl rfl ?_
    refine E_s (p' := 8) (st' := aI 1 :: _) rfl rfl ?_
    refine E_s (p' := 13) rfl rfl ?_
    refine E_s (p' := 14) (L' := [some (aA 124), some (aI ((l : Nat) : Int)), some (aI 1), none]) rfl rfl ?_
    refine E_s (p' := 15) (st' := aA 124 :: _) rfl rfl ?_
    refine E_gI (v := ((RL R : Nat) : Int)) rfl rfl rfl rfl hd9.1 ?_
    refine E_s (p' := 19) (st' := aI 1 :: _) rfl rfl ?_
    refine E_sub (v := ((RL R : Int) - 1)) rfl (by omega) (by omega) ?_
    refine E_s (p' := 21) (L' := [some (aA 124), some (aI ((l : Nat) : Int)), some (aI 1), some (aI ((RL R : Int) - 1))]) rfl rfl ?_
    rw [show ((RL R : Int) - 1) = ((RL R - 1 : Nat) : Int) by omega]
    exact yl_mct hd9 hl q (RL R) (RL R - 1) 1 (by omega) (by omega) (by rw [Nat.sub_self, h_1]; rfl)
theorem m_isLost (hi : i < 4) (hM : MR R i m) (hV : VR R) (hcc : c < Cn R) (hd9 : RdM R m) (hl : l < RL R) (q : Q (some (aI (bi (lst R c l)))) (m, tl len)) : E 150 0 [some (aA 124), some (aI ((60 * i + c : Nat) : Int)), some (aI ((l : Nat) : Int))] [] (m, tl len) Q := by
  have hctz := Ctz_c R c
  have hn60 := hV.1
  have hmx := RL_mx R
  have hm6 : mxv (Run R) ≤ 6 := by cases Run R <;> decide
  refine E_s (p' := 1) (st' := aA 124 :: _) rfl rfl ?_
  refine E_gA (b := 131) rfl rfl rfl rfl rfl rfl ?_
  refine E_s (p' := 5) (st' := aI ((60 * i + c : Nat) : Int) :: _) rfl rfl ?_
  refine E_ald (e := 60 * i + c) (N := 240) (v := (((Ctz R c)))) rfl rfl (rfl) (by omega) (MR_131 hM (by omega) (by omega)) ?_
  refine E_s (p' := 7) (st' := aI (-1) :: _) rfl rfl ?_
  refine E_icmp_eq (x := (((Ctz R c)))) (y := (-1)) rfl (by decide) (fun h_1 => ?_) (fun h_1 => ?_)
  · refine E_go (p' := 29) (L' := [some (aA 124), some (aI ((60 * i + c : Nat) : Int)), some (aI ((l : Nat) : Int))]) (st' := []) rfl rfl rfl ?_
    refine E_s (p' := 30) (st' := aI 0 :: _) rfl rfl ?_
    refine E_ret rfl rfl ?_
    rw [show lst R c l = false by unfold lst; simp; omega] at q
    exact q
  · refine E_go (p' := 10) (L' := [some (aA 124), some (aI ((60 * i + c : Nat) : Int)), some (aI ((l : Nat) : Int))]) (st' := []) rfl rfl rfl ?_
    refine E_s (p' := 11) (st' := aA 124 :: _) rfl rfl ?_
    refine E_gA (b := 146) rfl rfl rfl rfl rfl rfl ?_
    refine E_s (p' := 15) (st' := aI ((l : Nat) : Int) :: _) rfl rfl ?_
    refine E_ald (e := l) (N := 601) (v := ((Rla R l : Nat) : Int)) rfl rfl (rfl) (by omega) (hd9.2.2.2 _ (by omega)).2.1 ?_
    refine E_s (p' := 17) (st' := aA 124 :: _) rfl rfl ?_
    refine E_gA (b := 131) rfl rfl rfl rfl rfl rfl ?_
    refine E_s (p' := 21) (st' := aI ((60 * i + c : Nat) : Int) :: _) rfl rfl ?_
    refine E_ald (e := 60 * i + c) (N := 240) (v := (((Ctz R c)))) rfl rfl (rfl) (by omega) (MR_131 hM (by omega) (by omega)) ?_
    refine E_icmp_lt (x := ((Rla R l : Nat) : Int)) (y := (((Ctz R c)))) rfl (by decide) (fun h_2 => ?_) (fun h_2 => ?_)
    · refine E_go (p' := 29) (L' := [some (aA 124), some (aI ((60 * i + c : Nat) : Int)), some (aI ((l : Nat) : Int))]) (st' := []) rfl rfl rfl ?_
      refine E_s (p' := 30) (st' := aI 0 :: _) rfl rfl ?_
      refine E_ret rfl rfl ?_
      rw [show lst R c l = false by unfold lst; simp; omega] at q
      exact q
    · refine E_go (p' := 25) (L' := [some (aA 124), some (aI ((60 * i + c : Nat) : Int)), some (aI ((l : Nat) : Int))]) (st' := []) rfl rfl rfl ?_
      refine E_s (p' := 26) (st' := aI 1 :: _) rfl rfl ?_
      refine E_s (p' := 30) rfl rfl ?_
      refine E_ret rfl rfl ?_
      rw [show lst R c l = true by unfold lst; simp; omega] at q
      exact q
end
section
variable {len : Nat} {m0 : Mm} {Q : Option AV → Sx → Prop} {R : RD} {i c : Nat}
theorem yl_r1 (hi : i < 4) (hM : MR R i m0) (hV : VR R) (hc : c < Cn R) (h1 : 1 ≤ RL R) (hk : ∀ m1 : Mm, RC0 R c m0 m1 ((bif rMany R (clsA R c) then 2 else 0 : Nat) : Int) 0 0 → E 148 85 [some (aA 124), some (aI ((60 * i + c : Nat) : Int)), some (aI ((clsA R c).length : Int)), none] [] (m1, tl len) Q) : ∀ (d : Nat) (k : Nat) (m : Mm), ((clsA R c).length < k + d) → (k ≤ (clsA R c).length) → (RC0 R c m0 m ((bif rMany R ((clsA R c).take k) then 2 else 0 : Nat) : Int) 0 0) → E 148 46 [some (aA 124), some (aI ((60 * i + c : Nat) : Int)), some (aI ((k : Nat) : Int)), none] [] (m, tl len) Q := by
  intro d
  induction d with
  | zero => intro k m hd hkk hI; omega
  | succ d ih =>
    intro k m hd hkk hI
    have hn60 := hV.1
    have hl1 : (clsA R c).length ≤ 30 := Nat.le_trans (cls_len R c (Ck R c)) (hV.2.2.1 c hc).2.2.2.2.2
    have hmx := RL_mx R
    have hm6 : mxv (Run R) ≤ 6 := by cases Run R <;> decide
    have hMm : MR R i m := hI.1.MR hM
    have hcp : ∀ q ∈ clsA R c, 1 ≤ q.1 ∧ q.1 ≤ 600 := cls_pl hV hc _ (Nat.le_refl _)
    have occ : ∀ k, k < (clsA R c).length → ((clsA R c).getD k (0, (0, 0))).1 < 601 ∧ atp (RA R) ((clsA R c).getD k (0, (0, 0))).1 ≠ 0 := fun k hk => ⟨by have := hcp _ (get_mem hk); omega, atp_mem (acl_mem hc (get_mem hk))⟩
    refine E_s (p' := 47) (st' := aI ((k : Nat) : Int) :: _) rfl rfl ?_
    refine E_s (p' := 48) (st' := aA 124 :: _) rfl rfl ?_
    refine E_gI (v := (((clsA R c).length : Nat) : Int)) rfl rfl rfl rfl hI.2.2.1.1 ?_
    refine E_icmp_ge (x := ((k : Nat) : Int)) (y := (((clsA R c).length : Nat) : Int)) rfl (by decide) (fun h_1 => ?_) (fun h_1 => ?_)
    · refine E_go (p' := 85) (L' := [some (aA 124), some (aI ((60 * i + c : Nat) : Int)), some (aI ((k : Nat) : Int)), none]) (st' := []) rfl rfl rfl ?_
      have ek : k = (clsA R c).length := by omega
      subst ek
      rw [List.take_length] at hI
      exact hk m hI
    · refine E_go (p' := 54) (L' := [some (aA 124), some (aI ((60 * i + c : Nat) : Int)), some (aI ((k : Nat) : Int)), none]) (st' := []) rfl rfl rfl ?_
      refine E_s (p' := 55) (st' := aA 124 :: _) rfl rfl ?_
      refine E_gA (b := 142) rfl rfl rfl rfl rfl rfl ?_
      refine E_s (p' := 59) (st' := aI ((k : Nat) : Int) :: _) rfl rfl ?_
      refine E_ald (e := k) (N := 30) (v := ((((clsA R c).getD k (0, (0, 0))).2.1 : Nat) : Int)) rfl rfl (rfl) (by omega) (hI.2.2.1.2 _ (by omega)).2.1 ?_
      refine E_if_ne (x := ((((clsA R c).getD k (0, (0, 0))).2.1 : Nat) : Int)) rfl (by decide) (fun h_2 => ?_) (fun h_2 => ?_)
      · refine E_go (p' := 79) (L' := [some (aA 124), some (aI ((60 * i + c : Nat) : Int)), some (aI ((k : Nat) : Int)), none]) (st' := []) rfl rfl rfl ?_
        refine E_inc (x := ((k : Nat) : Int)) (w := ((k + 1 : Nat) : Int)) (L' := [some (aA 124), some (aI ((60 * i + c : Nat) : Int)), some (aI ((k + 1 : Nat) : Int)), none]) rfl rfl rfl (by omega) (by omega) rfl ?_
        refine E_s (p' := 46) rfl rfl ?_
        have e9 : (decide (((clsA R c).getD k (0, (0, 0))).2.1 = 0) && decide (9 < ((clsA R c).getD k (0, (0, 0))).2.2)) = false := by rw [Bool.and_eq_false_iff, decide_eq_false_iff_not, decide_eq_false_iff_not]; omega
        exact ih (k + 1) _ (by omega) (by omega) (by rw [take_g (by omega), rMany_app, e9, Bool.or_false]; exact hI)
      · refine E_go (p' := 63) (L' := [some (aA 124), some (aI ((60 * i + c : Nat) : Int)), some (aI ((k : Nat) : Int)), none]) (st' := []) rfl rfl rfl ?_
        refine E_s (p' := 64) (st' := aA 124 :: _) rfl rfl ?_
        refine E_gA (b := 143) rfl rfl rfl rfl rfl rfl ?_
        refine E_s (p' := 68) (st' := aI ((k : Nat) : Int) :: _) rfl rfl ?_
        refine E_ald (e := k) (N := 30) (v := ((((clsA R c).getD k (0, (0, 0))).2.2 : Nat) : Int)) rfl rfl (rfl) (by omega) (hI.2.2.1.2 _ (by omega)).2.2 ?_
        refine E_s (p' := 71) (st' := aI 9 :: _) rfl rfl ?_
        refine E_icmp_le (x := ((((clsA R c).getD k (0, (0, 0))).2.2 : Nat) : Int)) (y := 9) rfl (by decide) (fun h_3 => ?_) (fun h_3 => ?_)
        · refine E_go (p' := 79) (L' := [some (aA 124), some (aI ((60 * i + c : Nat) : Int)), some (aI ((k : Nat) : Int)), none]) (st' := []) rfl rfl rfl ?_
          refine E_inc (x := ((k : Nat) : Int)) (w := ((k + 1 : Nat) : Int)) (L' := [some (aA 124), some (aI ((60 * i + c : Nat) : Int)), some (aI ((k + 1 : Nat) : Int)), none]) rfl rfl rfl (by omega) (by omega) rfl ?_
          refine E_s (p' := 46) rfl rfl ?_
          have e9 : (decide (((clsA R c).getD k (0, (0, 0))).2.1 = 0) && decide (9 < ((clsA R c).getD k (0, (0, 0))).2.2)) = false := by rw [Bool.and_eq_false_iff, decide_eq_false_iff_not, decide_eq_false_iff_not]; omega
          exact ih (k + 1) _ (by omega) (by omega) (by rw [take_g (by omega), rMany_app, e9, Bool.or_false]; exact hI)
        · refine E_go (p' := 74) (L' := [some (aA 124), some (aI ((60 * i + c : Nat) : Int)), some (aI ((k : Nat) : Int)), none]) (st' := []) rfl rfl rfl ?_
          refine E_s (p' := 75) (st' := aA 124 :: _) rfl rfl ?_
          refine E_s (p' := 76) (st' := aI 2 :: _) rfl rfl ?_
          refine E_pI rfl rfl rfl rfl (Or.inl rfl) ?_
          refine E_inc (x := ((k : Nat) : Int)) (w := ((k + 1 : Nat) : Int)) (L' := [some (aA 124), some (aI ((60 * i + c : Nat) : Int)), some (aI ((k + 1 : Nat) : Int)), none]) rfl rfl rfl (by omega) (by omega) rfl ?_
          refine E_s (p' := 46) rfl rfl ?_
          have e9 : (decide (((clsA R c).getD k (0, (0, 0))).2.1 = 0) && decide (9 < ((clsA R c).getD k (0, (0, 0))).2.2)) = true := by rw [decide_eq_true (by omega), decide_eq_true (by omega)]; rfl
          exact ih (k + 1) _ (by omega) (by omega) (by rw [take_g (by omega), rMany_app, e9, Bool.or_true]; exact hI.s27)
theorem yl_r2 (hi : i < 4) (hM : MR R i m0) (hV : VR R) (hc : c < Cn R) (h1 : 1 ≤ RL R) (hk : ∀ (k : Nat) (m1 : Mm), RC0 R c m0 m1 (ft2 R (clsA R c) (clsA R c).length : Int) 0 0 → E 148 138 [some (aA 124), some (aI ((60 * i + c : Nat) : Int)), some (aI (k : Int)), none] [] (m1, tl len) Q) : ∀ (d : Nat) (k : Nat) (m : Mm), ((clsA R c).length + 1 < k + d) → (1 ≤ k ∧ (k ≤ (clsA R c).length ∨ k = 1)) → (RC0 R c m0 m (ft2 R (clsA R c) k : Int) 0 0) → E 148 87 [some (aA 124), some (aI ((60 * i + c : Nat) : Int)), some (aI ((k : Nat) : Int)), none] [] (m, tl len) Q := by
  intro d
  induction d with
  | zero => intro k m hd hkk hI; omega
  | succ d ih =>
    intro k m hd hkk hI
    have hn60 := hV.1
    have hl1 : (clsA R c).length ≤ 30 := Nat.le_trans (cls_len R c (Ck R c)) (hV.2.2.1 c hc).2.2.2.2.2
    have hmx := RL_mx R
    have hm6 : mxv (Run R) ≤ 6 := by cases Run R <;> decide
    have hMm : MR R i m := hI.1.MR hM
    have hcp : ∀ q ∈ clsA R c, 1 ≤ q.1 ∧ q.1 ≤ 600 := cls_pl hV hc _ (Nat.le_refl _)
    have occ : ∀ k, k < (clsA R c).length → ((clsA R c).getD k (0, (0, 0))).1 < 601 ∧ atp (RA R) ((clsA R c).getD k (0, (0, 0))).1 ≠ 0 := fun k hk => ⟨by have := hcp _ (get_mem hk); omega, atp_mem (acl_mem hc (get_mem hk))⟩
    refine E_s (p' := 88) (st' := aI ((k : Nat) : Int) :: _) rfl rfl ?_
    refine E_s (p' := 89) (st' := aA 124 :: _) rfl rfl ?_
    refine E_gI (v := (((clsA R c).length : Nat) : Int)) rfl rfl rfl rfl hI.2.2.1.1 ?_
    refine E_icmp_ge (x := ((k : Nat) : Int)) (y := (((clsA R c).length : Nat) : Int)) rfl (by decide) (fun h_1 => ?_) (fun h_1 => ?_)
    · refine E_go (p' := 138) (L' := [some (aA 124), some (aI ((60 * i + c : Nat) : Int)), some (aI ((k : Nat) : Int)), none]) (st' := []) rfl rfl rfl ?_
      have e9 : ft2 R (clsA R c) k = ft2 R (clsA R c) (clsA R c).length := by
        rcases Nat.lt_or_ge k (clsA R c).length with g9 | g9
        · have g8 : ft2 R (clsA R c) k ≠ 0 := by omega
          unfold ft2 at g8 ⊢
          cases hm : rMany R (clsA R c) with
          | true => rfl
          | false =>
            rw [hm] at g8
            cases ha : adN R (clsA R c) k with
            | false => rw [ha] at g8; exact absurd rfl g8
            | true =>
              have := adN_up ha ((clsA R c).length - k)
              rw [show k + ((clsA R c).length - k) = (clsA R c).length by omega] at this
              rw [this]
        · rcases Nat.lt_or_ge (clsA R c).length k with g8 | g8
          · have e1 : k = 1 := by omega
            have e0 : (clsA R c).length = 0 := by omega
            rw [e1, e0]; rfl
          · rw [show k = (clsA R c).length by omega]
      rw [e9] at hI
      exact hk k m hI
    · refine E_go (p' := 95) (L' := [some (aA 124), some (aI ((60 * i + c : Nat) : Int)), some (aI ((k : Nat) : Int)), none]) (st' := []) rfl rfl rfl ?_
      refine E_s (p' := 96) (st' := aA 124 :: _) rfl rfl ?_
      refine E_gI (v := ((ft2 R (clsA R c) k : Nat) : Int)) rfl rfl rfl rfl hI.2.2.2.1 ?_
      refine E_if_ne (x := ((ft2 R (clsA R c) k : Nat) : Int)) rfl (by decide) (fun h_2 => ?_) (fun h_2 => ?_)
      · refine E_go (p' := 138) (L' := [some (aA 124), some (aI ((60 * i + c : Nat) : Int)), some (aI ((k : Nat) : Int)), none]) (st' := []) rfl rfl rfl ?_
        have e9 : ft2 R (clsA R c) k = ft2 R (clsA R c) (clsA R c).length := by
          rcases Nat.lt_or_ge k (clsA R c).length with g9 | g9
          · have g8 : ft2 R (clsA R c) k ≠ 0 := by omega
            unfold ft2 at g8 ⊢
            cases hm : rMany R (clsA R c) with
            | true => rfl
            | false =>
              rw [hm] at g8
              cases ha : adN R (clsA R c) k with
              | false => rw [ha] at g8; exact absurd rfl g8
              | true =>
                have := adN_up ha ((clsA R c).length - k)
                rw [show k + ((clsA R c).length - k) = (clsA R c).length by omega] at this
                rw [this]
          · rcases Nat.lt_or_ge (clsA R c).length k with g8 | g8
            · have e1 : k = 1 := by omega
              have e0 : (clsA R c).length = 0 := by omega
              rw [e1, e0]; rfl
            · rw [show k = (clsA R c).length by omega]
        rw [e9] at hI
        exact hk k m hI
      · refine E_go (p' := 102) (L' := [some (aA 124), some (aI ((60 * i + c : Nat) : Int)), some (aI ((k : Nat) : Int)), none]) (st' := []) rfl rfl rfl ?_
        obtain ⟨kp, ek⟩ : ∃ x, k = x + 1 := ⟨k - 1, by omega⟩
        subst ek
        refine E_s (p' := 103) (st' := aA 124 :: _) rfl rfl ?_
        refine E_s (p' := 104) (st' := aA 124 :: _) rfl rfl ?_
        refine E_gA (b := 141) rfl rfl rfl rfl rfl rfl ?_
        refine E_s (p' := 108) (st' := aI ((kp + 1 : Nat) : Int) :: _) rfl rfl ?_
        refine E_ald (e := kp + 1) (N := 30) (v := ((((clsA R c).getD (kp + 1) (0, (0, 0))).1 : Nat) : Int)) rfl rfl (rfl) (by omega) (hI.2.2.1.2 _ (by omega)).1 ?_
        refine E_callV (k' := 149) (a := 124) (r := []) (L0 := [some (aA 124), some (aI ((((clsA R c).getD (kp + 1) (0, (0, 0))).1 : Nat) : Int)), none]) rfl rfl rfl rfl rfl rfl rfl rfl rfl rfl ?_
        refine m_levelOf h1 hI.2.1 (occ _ (by omega)).1 (occ _ (by omega)).2 ?_
        refine E_go (p' := 112) (L' := [some (aA 124), some (aI ((60 * i + c : Nat) : Int)), some (aI ((kp + 1 : Nat) : Int)), none]) (st' := [aI ((Rlo R (((clsA R c).getD (kp + 1) (0, (0, 0))).1) : Nat) : Int)]) rfl rfl rfl ?_
        have hlo_2 := Rlo_lt h1 (((clsA R c).getD (kp + 1) (0, (0, 0))).1)
        refine E_s (p' := 113) (st' := aA 124 :: _) rfl rfl ?_
        refine E_s (p' := 114) (st' := aA 124 :: _) rfl rfl ?_
        refine E_gA (b := 141) rfl rfl rfl rfl rfl rfl ?_
        refine E_s (p' := 118) (st' := aI ((kp + 1 : Nat) : Int) :: _) rfl rfl ?_
        refine E_s (p' := 119) (st' := aI 1 :: _) rfl rfl ?_
        refine E_sub (v := ((kp : Nat) : Int)) rfl (by omega) (by omega) ?_
        refine E_ald (e := kp) (N := 30) (v := ((((clsA R c).getD kp (0, (0, 0))).1 : Nat) : Int)) rfl rfl (rfl) (by omega) (hI.2.2.1.2 _ (by omega)).1 ?_
        refine E_callV (k' := 149) (a := 124) (r := [aI ((Rlo R (((clsA R c).getD (kp + 1) (0, (0, 0))).1) : Nat) : Int)]) (L0 := [some (aA 124), some (aI ((((clsA R c).getD kp (0, (0, 0))).1 : Nat) : Int)), none]) rfl rfl rfl rfl rfl rfl rfl rfl rfl rfl ?_
        refine m_levelOf h1 hI.2.1 (occ _ (by omega)).1 (occ _ (by omega)).2 ?_
        refine E_go (p' := 124) (L' := [some (aA 124), some (aI ((60 * i + c : Nat) : Int)), some (aI ((kp + 1 : Nat) : Int)), none]) (st' := [aI ((Rlo R (((clsA R c).getD kp (0, (0, 0))).1) : Nat) : Int), aI ((Rlo R (((clsA R c).getD (kp + 1) (0, (0, 0))).1) : Nat) : Int)]) rfl rfl rfl ?_
        have hlo_2 := Rlo_lt h1 (((clsA R c).getD kp (0, (0, 0))).1)
        refine E_icmp_ne (x := ((Rlo R (((clsA R c).getD (kp + 1) (0, (0, 0))).1) : Nat) : Int)) (y := ((Rlo R (((clsA R c).getD kp (0, (0, 0))).1) : Nat) : Int)) rfl (by decide) (fun h_3 => ?_) (fun h_3 => ?_)
        · refine E_go (p' := 132) (L' := [some (aA 124), some (aI ((60 * i + c : Nat) : Int)), some (aI ((kp + 1 : Nat) : Int)), none]) (st' := []) rfl rfl rfl ?_
          refine E_inc (x := ((kp + 1 : Nat) : Int)) (w := ((kp + 2 : Nat) : Int)) (L' := [some (aA 124), some (aI ((60 * i + c : Nat) : Int)), some (aI ((kp + 2 : Nat) : Int)), none]) rfl rfl rfl (by omega) (by omega) rfl ?_
          refine E_s (p' := 87) rfl rfl ?_
          have e9 : (decide (1 ≤ kp + 1) && (Rlo R ((clsA R c).getD (kp + 1) (0, (0, 0))).1 == Rlo R ((clsA R c).getD (kp + 1 - 1) (0, (0, 0))).1)) = false := by rw [decide_eq_true (by omega), Nat.add_sub_cancel]; simp only [Bool.true_and]; exact beq_eq_false_iff_ne.mpr (by omega)
          refine ih (kp + 1 + 1) _ (by omega) (by omega) ?_
          have z9 : ft2 R (clsA R c) (kp + 1) = 0 := by omega
          have e8 : ft2 R (clsA R c) (kp + 1 + 1) = 0 := by
            unfold ft2 at z9 ⊢
            rw [adN_s, e9]
            cases hm : rMany R (clsA R c) with
            | true => rw [hm] at z9; cases z9
            | false =>
              rw [hm] at z9
              cases ha : adN R (clsA R c) (kp + 1) with
              | true => rw [ha] at z9; cases z9
              | false => rfl
          rw [e8]
          rw [z9] at hI; exact hI
        · refine E_go (p' := 127) (L' := [some (aA 124), some (aI ((60 * i + c : Nat) : Int)), some (aI ((kp + 1 : Nat) : Int)), none]) (st' := []) rfl rfl rfl ?_
          refine E_s (p' := 128) (st' := aA 124 :: _) rfl rfl ?_
          refine E_s (p' := 129) (st' := aI 3 :: _) rfl rfl ?_
          refine E_pI rfl rfl rfl rfl (Or.inl rfl) ?_
          refine E_inc (x := ((kp + 1 : Nat) : Int)) (w := ((kp + 2 : Nat) : Int)) (L' := [some (aA 124), some (aI ((60 * i + c : Nat) : Int)), some (aI ((kp + 2 : Nat) : Int)), none]) rfl rfl rfl (by omega) (by omega) rfl ?_
          refine E_s (p' := 87) rfl rfl ?_
          have e9 : (decide (1 ≤ kp + 1) && (Rlo R ((clsA R c).getD (kp + 1) (0, (0, 0))).1 == Rlo R ((clsA R c).getD (kp + 1 - 1) (0, (0, 0))).1)) = true := by rw [decide_eq_true (by omega), Nat.add_sub_cancel]; simp only [Bool.true_and]; exact beq_iff_eq.mpr (by omega)
          refine ih (kp + 1 + 1) _ (by omega) (by omega) ?_
          have z9 : ft2 R (clsA R c) (kp + 1) = 0 := by omega
          have e8 : ft2 R (clsA R c) (kp + 1 + 1) = 3 := by
            unfold ft2 at z9 ⊢
            rw [adN_s, e9]
            cases hm : rMany R (clsA R c) with
            | true => rw [hm] at z9; cases z9
            | false =>
              rw [hm] at z9
              cases ha : adN R (clsA R c) (kp + 1) with
              | true => rw [ha] at z9; cases z9
              | false => rfl
          rw [e8]
          exact hI.s27
theorem yl_r3 (hi : i < 4) (hM : MR R i m0) (hV : VR R) (hc : c < Cn R) (h1 : 1 ≤ RL R) (hk : ∀ (k : Nat) (x3 : Option AV) (m1 : Mm), RC0 R c m0 m1 (ft3 R (clsA R c) (clsA R c).length : Int) 0 0 → E 148 216 [some (aA 124), some (aI ((60 * i + c : Nat) : Int)), some (aI (k : Int)), x3] [] (m1, tl len) Q) : ∀ (d : Nat) (k : Nat) (m : Mm) (x3 : Option AV), ((clsA R c).length < k + d) → (k ≤ (clsA R c).length) → (RC0 R c m0 m (ft3 R (clsA R c) k : Int) 0 0) → E 148 140 [some (aA 124), some (aI ((60 * i + c : Nat) : Int)), some (aI ((k : Nat) : Int)), x3] [] (m, tl len) Q := by
  intro d
  induction d with
  | zero => intro k m x3 hd hkk hI; omega
  | succ d ih =>
    intro k m x3 hd hkk hI
    have hn60 := hV.1
    have hl1 : (clsA R c).length ≤ 30 := Nat.le_trans (cls_len R c (Ck R c)) (hV.2.2.1 c hc).2.2.2.2.2
    have hmx := RL_mx R
    have hm6 : mxv (Run R) ≤ 6 := by cases Run R <;> decide
    have hMm : MR R i m := hI.1.MR hM
    have hcp : ∀ q ∈ clsA R c, 1 ≤ q.1 ∧ q.1 ≤ 600 := cls_pl hV hc _ (Nat.le_refl _)
    have occ : ∀ k, k < (clsA R c).length → ((clsA R c).getD k (0, (0, 0))).1 < 601 ∧ atp (RA R) ((clsA R c).getD k (0, (0, 0))).1 ≠ 0 := fun k hk => ⟨by have := hcp _ (get_mem hk); omega, atp_mem (acl_mem hc (get_mem hk))⟩
    refine E_s (p' := 141) (st' := aI ((k : Nat) : Int) :: _) rfl rfl ?_
    refine E_s (p' := 142) (st' := aA 124 :: _) rfl rfl ?_
    refine E_gI (v := (((clsA R c).length : Nat) : Int)) rfl rfl rfl rfl hI.2.2.1.1 ?_
    refine E_icmp_ge (x := ((k : Nat) : Int)) (y := (((clsA R c).length : Nat) : Int)) rfl (by decide) (fun h_1 => ?_) (fun h_1 => ?_)
    · refine E_go (p' := 216) (L' := [some (aA 124), some (aI ((60 * i + c : Nat) : Int)), some (aI ((k : Nat) : Int)), x3]) (st' := []) rfl rfl rfl ?_
      have e9 : ft3 R (clsA R c) k = ft3 R (clsA R c) (clsA R c).length := by
        rcases Nat.lt_or_ge k (clsA R c).length with g9 | g9
        · have g8 : ft3 R (clsA R c) k ≠ 0 := by omega
          unfold ft3 at g8 ⊢
          by_cases h2 : ft2 R (clsA R c) (clsA R c).length = 0
          · rw [if_pos h2] at g8 ⊢
            rw [if_pos h2]
            cases ha : rAs R ((clsA R c).take k) with
            | false => rw [ha] at g8; exact absurd rfl g8
            | true => rw [rAs_up ha]
          · rw [if_neg h2, if_neg h2]
        · rw [show k = (clsA R c).length by omega]
      rw [e9] at hI
      exact hk k x3 m hI
    · refine E_go (p' := 148) (L' := [some (aA 124), some (aI ((60 * i + c : Nat) : Int)), some (aI ((k : Nat) : Int)), x3]) (st' := []) rfl rfl rfl ?_
      refine E_s (p' := 149) (st' := aA 124 :: _) rfl rfl ?_
      refine E_gI (v := ((ft3 R (clsA R c) k : Nat) : Int)) rfl rfl rfl rfl hI.2.2.2.1 ?_
      refine E_if_ne (x := ((ft3 R (clsA R c) k : Nat) : Int)) rfl (by decide) (fun h_2 => ?_) (fun h_2 => ?_)
      · refine E_go (p' := 216) (L' := [some (aA 124), some (aI ((60 * i + c : Nat) : Int)), some (aI ((k : Nat) : Int)), x3]) (st' := []) rfl rfl rfl ?_
        have e9 : ft3 R (clsA R c) k = ft3 R (clsA R c) (clsA R c).length := by
          rcases Nat.lt_or_ge k (clsA R c).length with g9 | g9
          · have g8 : ft3 R (clsA R c) k ≠ 0 := by omega
            unfold ft3 at g8 ⊢
            by_cases h2 : ft2 R (clsA R c) (clsA R c).length = 0
            · rw [if_pos h2] at g8 ⊢
              rw [if_pos h2]
              cases ha : rAs R ((clsA R c).take k) with
              | false => rw [ha] at g8; exact absurd rfl g8
              | true => rw [rAs_up ha]
            · rw [if_neg h2, if_neg h2]
          · rw [show k = (clsA R c).length by omega]
        rw [e9] at hI
        exact hk k x3 m hI
      · refine E_go (p' := 155) (L' := [some (aA 124), some (aI ((60 * i + c : Nat) : Int)), some (aI ((k : Nat) : Int)), x3]) (st' := []) rfl rfl rfl ?_
        refine E_s (p' := 156) (st' := aA 124 :: _) rfl rfl ?_
        refine E_gI (v := (bi (Run R))) rfl rfl rfl rfl hI.2.1.2.1 ?_
        refine E_b_eq0 (b := (Run R)) rfl (by decide) (fun h_3 => ?_) (fun h_3 => ?_)
        · refine E_go (p' := 185) (L' := [some (aA 124), some (aI ((60 * i + c : Nat) : Int)), some (aI ((k : Nat) : Int)), x3]) (st' := []) rfl rfl rfl ?_
          refine E_s (p' := 186) (st' := aI 0 :: _) rfl rfl ?_
          refine E_s (p' := 187) (L' := [some (aA 124), some (aI ((60 * i + c : Nat) : Int)), some (aI ((k : Nat) : Int)), some (aI 0)]) rfl rfl ?_
          refine E_s (p' := 188) (st' := aA 124 :: _) rfl rfl ?_
          refine E_gA (b := 142) rfl rfl rfl rfl rfl rfl ?_
          refine E_s (p' := 192) (st' := aI ((k : Nat) : Int) :: _) rfl rfl ?_
          refine E_ald (e := k) (N := 30) (v := ((((clsA R c).getD k (0, (0, 0))).2.1 : Nat) : Int)) rfl rfl (rfl) (by omega) (hI.2.2.1.2 _ (by omega)).2.1 ?_
          suffices h_4 : E 148 201 [some (aA 124), some (aI ((60 * i + c : Nat) : Int)), some (aI ((k : Nat) : Int)), some (aI 0)] [aI (bi (!decide (((((clsA R c).getD k (0, (0, 0))).2.1 : Nat) : Int) ≤ 0)))] (m, tl len) Q by
            refine E_if_le (x := ((((clsA R c).getD k (0, (0, 0))).2.1 : Nat) : Int)) rfl (by decide) (fun h_5 => ?_) (fun h_5 => ?_)
            · refine E_go (p' := 200) (L' := [some (aA 124), some (aI ((60 * i + c : Nat) : Int)), some (aI ((k : Nat) : Int)), some (aI 0)]) (st' := []) rfl rfl rfl ?_
              refine E_s (p' := 201) (st' := aI 0 :: _) rfl rfl ?_
              rw [decide_eq_true (p := ((((clsA R c).getD k (0, (0, 0))).2.1 : Nat) : Int) ≤ 0) (by omega)] at h_4
              exact h_4
            · refine E_go (p' := 196) (L' := [some (aA 124), some (aI ((60 * i + c : Nat) : Int)), some (aI ((k : Nat) : Int)), some (aI 0)]) (st' := []) rfl rfl rfl ?_
              refine E_s (p' := 197) (st' := aI 1 :: _) rfl rfl ?_
              refine E_s (p' := 201) rfl rfl ?_
              rw [decide_eq_false (p := ((((clsA R c).getD k (0, (0, 0))).2.1 : Nat) : Int) ≤ 0) (by omega)] at h_4
              exact h_4
          refine E_s (p' := 202) (st' := aI 0 :: _) rfl rfl ?_
          refine E_bb_eq (x := (!decide (((((clsA R c).getD k (0, (0, 0))).2.1 : Nat) : Int) ≤ 0))) (y := false) rfl (by decide) (fun h_6 => ?_) (fun h_6 => ?_)
          · refine E_go (p' := 210) (L' := [some (aA 124), some (aI ((60 * i + c : Nat) : Int)), some (aI ((k : Nat) : Int)), some (aI 0)]) (st' := []) rfl rfl rfl ?_
            refine E_inc (x := ((k : Nat) : Int)) (w := ((k + 1 : Nat) : Int)) (L' := [some (aA 124), some (aI ((60 * i + c : Nat) : Int)), some (aI ((k + 1 : Nat) : Int)), some (aI 0)]) rfl rfl rfl (by omega) (by omega) rfl ?_
            refine E_s (p' := 140) rfl rfl ?_
            have z9 : ft3 R (clsA R c) k = 0 := by omega
            have z8 : ft2 R (clsA R c) (clsA R c).length = 0 ∧ rAs R ((clsA R c).take k) = false := by
              unfold ft3 at z9
              by_cases h2 : ft2 R (clsA R c) (clsA R c).length = 0
              · refine ⟨h2, ?_⟩
                rw [if_pos h2] at z9
                cases ha : rAs R ((clsA R c).take k) with
                | false => rfl
                | true => rw [ha] at z9; cases z9
              · rw [if_neg h2] at z9; exact absurd z9 h2
            have e9 : (decide (((clsA R c).getD k (0, (0, 0))).2.1 = 0) == (Run R && decide (Rlo R ((clsA R c).getD k (0, (0, 0))).1 + 1 = RL R))) = false := by
              rw [show decide (((clsA R c).getD k (0, (0, 0))).2.1 = 0) = decide (((((clsA R c).getD k (0, (0, 0))).2.1 : Nat) : Int) ≤ 0) from decide_eq_decide.mpr (by omega)]
              rw [show Run R = false by assumption]
              exact bx_0 (by assumption)
            have e8 : ft3 R (clsA R c) (k + 1) = 0 := by unfold ft3; rw [if_pos z8.1, take_g (by omega), rAs_app, z8.2, e9]; rfl
            refine ih (k + 1) _ _ (by omega) (by omega) ?_
            rw [e8]
            rw [z9] at hI; exact hI
          · refine E_go (p' := 205) (L' := [some (aA 124), some (aI ((60 * i + c : Nat) : Int)), some (aI ((k : Nat) : Int)), some (aI 0)]) (st' := []) rfl rfl rfl ?_
            refine E_s (p' := 206) (st' := aA 124 :: _) rfl rfl ?_
            refine E_s (p' := 207) (st' := aI 4 :: _) rfl rfl ?_
            refine E_pI rfl rfl rfl rfl (Or.inl rfl) ?_
            refine E_inc (x := ((k : Nat) : Int)) (w := ((k + 1 : Nat) : Int)) (L' := [some (aA 124), some (aI ((60 * i + c : Nat) : Int)), some (aI ((k + 1 : Nat) : Int)), some (aI 0)]) rfl rfl rfl (by omega) (by omega) rfl ?_
            refine E_s (p' := 140) rfl rfl ?_
            have z9 : ft3 R (clsA R c) k = 0 := by omega
            have z8 : ft2 R (clsA R c) (clsA R c).length = 0 ∧ rAs R ((clsA R c).take k) = false := by
              unfold ft3 at z9
              by_cases h2 : ft2 R (clsA R c) (clsA R c).length = 0
              · refine ⟨h2, ?_⟩
                rw [if_pos h2] at z9
                cases ha : rAs R ((clsA R c).take k) with
                | false => rfl
                | true => rw [ha] at z9; cases z9
              · rw [if_neg h2] at z9; exact absurd z9 h2
            have e9 : (decide (((clsA R c).getD k (0, (0, 0))).2.1 = 0) == (Run R && decide (Rlo R ((clsA R c).getD k (0, (0, 0))).1 + 1 = RL R))) = true := by
              rw [show decide (((clsA R c).getD k (0, (0, 0))).2.1 = 0) = decide (((((clsA R c).getD k (0, (0, 0))).2.1 : Nat) : Int) ≤ 0) from decide_eq_decide.mpr (by omega)]
              rw [show Run R = false by assumption]
              exact bx_0 (by assumption)
            have e8 : ft3 R (clsA R c) (k + 1) = 4 := by unfold ft3; rw [if_pos z8.1, take_g (by omega), rAs_app, z8.2, e9]; rfl
            refine ih (k + 1) _ _ (by omega) (by omega) ?_
            rw [e8]
            exact hI.s27
        · refine E_go (p' := 162) (L' := [some (aA 124), some (aI ((60 * i + c : Nat) : Int)), some (aI ((k : Nat) : Int)), x3]) (st' := []) rfl rfl rfl ?_
          refine E_s (p' := 163) (st' := aA 124 :: _) rfl rfl ?_
          refine E_s (p' := 164) (st' := aA 124 :: _) rfl rfl ?_
          refine E_gA (b := 141) rfl rfl rfl rfl rfl rfl ?_
          refine E_s (p' := 168) (st' := aI ((k : Nat) : Int) :: _) rfl rfl ?_
          refine E_ald (e := k) (N := 30) (v := ((((clsA R c).getD k (0, (0, 0))).1 : Nat) : Int)) rfl rfl (rfl) (by omega) (hI.2.2.1.2 _ (by omega)).1 ?_
          refine E_callV (k' := 149) (a := 124) (r := []) (L0 := [some (aA 124), some (aI ((((clsA R c).getD k (0, (0, 0))).1 : Nat) : Int)), none]) rfl rfl rfl rfl rfl rfl rfl rfl rfl rfl ?_
          refine m_levelOf h1 hI.2.1 (occ _ (by omega)).1 (occ _ (by omega)).2 ?_
          refine E_go (p' := 172) (L' := [some (aA 124), some (aI ((60 * i + c : Nat) : Int)), some (aI ((k : Nat) : Int)), x3]) (st' := [aI ((Rlo R (((clsA R c).getD k (0, (0, 0))).1) : Nat) : Int)]) rfl rfl rfl ?_
          have hlo_6 := Rlo_lt h1 (((clsA R c).getD k (0, (0, 0))).1)
          refine E_s (p' := 173) (st' := aA 124 :: _) rfl rfl ?_
          refine E_gI (v := ((RL R : Nat) : Int)) rfl rfl rfl rfl hI.2.1.1 ?_
          refine E_s (p' := 177) (st' := aI 1 :: _) rfl rfl ?_
          refine E_sub (v := ((RL R : Int) - 1)) rfl (by omega) (by omega) ?_
          suffices h_7 : E 148 186 [some (aA 124), some (aI ((60 * i + c : Nat) : Int)), some (aI ((k : Nat) : Int)), x3] [aI (bi (!decide (((Rlo R (((clsA R c).getD k (0, (0, 0))).1) : Nat) : Int) ≠ ((RL R : Int) - 1))))] (m, tl len) Q by
            refine E_icmp_ne (x := ((Rlo R (((clsA R c).getD k (0, (0, 0))).1) : Nat) : Int)) (y := ((RL R : Int) - 1)) rfl (by decide) (fun h_8 => ?_) (fun h_8 => ?_)
            · refine E_go (p' := 185) (L' := [some (aA 124), some (aI ((60 * i + c : Nat) : Int)), some (aI ((k : Nat) : Int)), x3]) (st' := []) rfl rfl rfl ?_
              refine E_s (p' := 186) (st' := aI 0 :: _) rfl rfl ?_
              rw [decide_eq_true (p := ((Rlo R (((clsA R c).getD k (0, (0, 0))).1) : Nat) : Int) ≠ ((RL R : Int) - 1)) (by omega)] at h_7
              exact h_7
            · refine E_go (p' := 181) (L' := [some (aA 124), some (aI ((60 * i + c : Nat) : Int)), some (aI ((k : Nat) : Int)), x3]) (st' := []) rfl rfl rfl ?_
              refine E_s (p' := 182) (st' := aI 1 :: _) rfl rfl ?_
              refine E_s (p' := 186) rfl rfl ?_
              rw [decide_eq_false (p := ((Rlo R (((clsA R c).getD k (0, (0, 0))).1) : Nat) : Int) ≠ ((RL R : Int) - 1)) (by omega)] at h_7
              exact h_7
          refine E_s (p' := 187) (L' := [some (aA 124), some (aI ((60 * i + c : Nat) : Int)), some (aI ((k : Nat) : Int)), some (aI (bi (!decide (((Rlo R (((clsA R c).getD k (0, (0, 0))).1) : Nat) : Int) ≠ ((RL R : Int) - 1)))))]) rfl rfl ?_
          refine E_s (p' := 188) (st' := aA 124 :: _) rfl rfl ?_
          refine E_gA (b := 142) rfl rfl rfl rfl rfl rfl ?_
          refine E_s (p' := 192) (st' := aI ((k : Nat) : Int) :: _) rfl rfl ?_
          refine E_ald (e := k) (N := 30) (v := ((((clsA R c).getD k (0, (0, 0))).2.1 : Nat) : Int)) rfl rfl (rfl) (by omega) (hI.2.2.1.2 _ (by omega)).2.1 ?_
          suffices h_9 : E 148 201 [some (aA 124), some (aI ((60 * i + c : Nat) : Int)), some (aI ((k : Nat) : Int)), some (aI (bi (!decide (((Rlo R (((clsA R c).getD k (0, (0, 0))).1) : Nat) : Int) ≠ ((RL R : Int) - 1)))))] [aI (bi (!decide (((((clsA R c).getD k (0, (0, 0))).2.1 : Nat) : Int) ≤ 0)))] (m, tl len) Q by
            refine E_if_le (x := ((((clsA R c).getD k (0, (0, 0))).2.1 : Nat) : Int)) rfl (by decide) (fun h_10 => ?_) (fun h_10 => ?_)
            · refine E_go (p' := 200) (L' := [some (aA 124), some (aI ((60 * i + c : Nat) : Int)), some (aI ((k : Nat) : Int)), some (aI (bi (!decide (((Rlo R (((clsA R c).getD k (0, (0, 0))).1) : Nat) : Int) ≠ ((RL R : Int) - 1)))))]) (st' := []) rfl rfl rfl ?_
              refine E_s (p' := 201) (st' := aI 0 :: _) rfl rfl ?_
              rw [decide_eq_true (p := ((((clsA R c).getD k (0, (0, 0))).2.1 : Nat) : Int) ≤ 0) (by omega)] at h_9
              exact h_9
            · refine E_go (p' := 196) (L' := [some (aA 124), some (aI ((60 * i + c : Nat) : Int)), some (aI ((k : Nat) : Int)), some (aI (bi (!decide (((Rlo R (((clsA R c).getD k (0, (0, 0))).1) : Nat) : Int) ≠ ((RL R : Int) - 1)))))]) (st' := []) rfl rfl rfl ?_
              refine E_s (p' := 197) (st' := aI 1 :: _) rfl rfl ?_
              refine E_s (p' := 201) rfl rfl ?_
              rw [decide_eq_false (p := ((((clsA R c).getD k (0, (0, 0))).2.1 : Nat) : Int) ≤ 0) (by omega)] at h_9
              exact h_9
          refine E_s (p' := 202) (st' := aI (bi (!decide (((Rlo R (((clsA R c).getD k (0, (0, 0))).1) : Nat) : Int) ≠ ((RL R : Int) - 1)))) :: _) rfl rfl ?_
          refine E_bb_eq (x := (!decide (((((clsA R c).getD k (0, (0, 0))).2.1 : Nat) : Int) ≤ 0))) (y := (!decide (((Rlo R (((clsA R c).getD k (0, (0, 0))).1) : Nat) : Int) ≠ ((RL R : Int) - 1)))) rfl (by decide) (fun h_11 => ?_) (fun h_11 => ?_)
          · refine E_go (p' := 210) (L' := [some (aA 124), some (aI ((60 * i + c : Nat) : Int)), some (aI ((k : Nat) : Int)), some (aI (bi (!decide (((Rlo R (((clsA R c).getD k (0, (0, 0))).1) : Nat) : Int) ≠ ((RL R : Int) - 1)))))]) (st' := []) rfl rfl rfl ?_
            refine E_inc (x := ((k : Nat) : Int)) (w := ((k + 1 : Nat) : Int)) (L' := [some (aA 124), some (aI ((60 * i + c : Nat) : Int)), some (aI ((k + 1 : Nat) : Int)), some (aI (bi (!decide (((Rlo R (((clsA R c).getD k (0, (0, 0))).1) : Nat) : Int) ≠ ((RL R : Int) - 1)))))]) rfl rfl rfl (by omega) (by omega) rfl ?_
            refine E_s (p' := 140) rfl rfl ?_
            have z9 : ft3 R (clsA R c) k = 0 := by omega
            have z8 : ft2 R (clsA R c) (clsA R c).length = 0 ∧ rAs R ((clsA R c).take k) = false := by
              unfold ft3 at z9
              by_cases h2 : ft2 R (clsA R c) (clsA R c).length = 0
              · refine ⟨h2, ?_⟩
                rw [if_pos h2] at z9
                cases ha : rAs R ((clsA R c).take k) with
                | false => rfl
                | true => rw [ha] at z9; cases z9
              · rw [if_neg h2] at z9; exact absurd z9 h2
            have e9 : (decide (((clsA R c).getD k (0, (0, 0))).2.1 = 0) == (Run R && decide (Rlo R ((clsA R c).getD k (0, (0, 0))).1 + 1 = RL R))) = false := by
              rw [show decide (((clsA R c).getD k (0, (0, 0))).2.1 = 0) = decide (((((clsA R c).getD k (0, (0, 0))).2.1 : Nat) : Int) ≤ 0) from decide_eq_decide.mpr (by omega)]
              rw [show Run R = true by assumption, show decide (Rlo R ((clsA R c).getD k (0, (0, 0))).1 + 1 = RL R) = (!decide (((Rlo R (((clsA R c).getD k (0, (0, 0))).1) : Nat) : Int) ≠ ((RL R : Int) - 1))) by
                by_cases g2 : Rlo R ((clsA R c).getD k (0, (0, 0))).1 + 1 = RL R
                · rw [decide_eq_true g2, decide_eq_false (by omega)]; rfl
                · rw [decide_eq_false g2, decide_eq_true (by omega)]; rfl]
              exact bx_1 (by assumption)
            have e8 : ft3 R (clsA R c) (k + 1) = 0 := by unfold ft3; rw [if_pos z8.1, take_g (by omega), rAs_app, z8.2, e9]; rfl
            refine ih (k + 1) _ _ (by omega) (by omega) ?_
            rw [e8]
            rw [z9] at hI; exact hI
          · refine E_go (p' := 205) (L' := [some (aA 124), some (aI ((60 * i + c : Nat) : Int)), some (aI ((k : Nat) : Int)), some (aI (bi (!decide (((Rlo R (((clsA R c).getD k (0, (0, 0))).1) : Nat) : Int) ≠ ((RL R : Int) - 1)))))]) (st' := []) rfl rfl rfl ?_
            refine E_s (p' := 206) (st' := aA 124 :: _) rfl rfl ?_
            refine E_s (p' := 207) (st' := aI 4 :: _) rfl rfl ?_
            refine E_pI rfl rfl rfl rfl (Or.inl rfl) ?_
            refine E_inc (x := ((k : Nat) : Int)) (w := ((k + 1 : Nat) : Int)) (L' := [some (aA 124), some (aI ((60 * i + c : Nat) : Int)), some (aI ((k + 1 : Nat) : Int)), some (aI (bi (!decide (((Rlo R (((clsA R c).getD k (0, (0, 0))).1) : Nat) : Int) ≠ ((RL R : Int) - 1)))))]) rfl rfl rfl (by omega) (by omega) rfl ?_
            refine E_s (p' := 140) rfl rfl ?_
            have z9 : ft3 R (clsA R c) k = 0 := by omega
            have z8 : ft2 R (clsA R c) (clsA R c).length = 0 ∧ rAs R ((clsA R c).take k) = false := by
              unfold ft3 at z9
              by_cases h2 : ft2 R (clsA R c) (clsA R c).length = 0
              · refine ⟨h2, ?_⟩
                rw [if_pos h2] at z9
                cases ha : rAs R ((clsA R c).take k) with
                | false => rfl
                | true => rw [ha] at z9; cases z9
              · rw [if_neg h2] at z9; exact absurd z9 h2
            have e9 : (decide (((clsA R c).getD k (0, (0, 0))).2.1 = 0) == (Run R && decide (Rlo R ((clsA R c).getD k (0, (0, 0))).1 + 1 = RL R))) = true := by
              rw [show decide (((clsA R c).getD k (0, (0, 0))).2.1 = 0) = decide (((((clsA R c).getD k (0, (0, 0))).2.1 : Nat) : Int) ≤ 0) from decide_eq_decide.mpr (by omega)]
              rw [show Run R = true by assumption, show decide (Rlo R ((clsA R c).getD k (0, (0, 0))).1 + 1 = RL R) = (!decide (((Rlo R (((clsA R c).getD k (0, (0, 0))).1) : Nat) : Int) ≠ ((RL R : Int) - 1))) by
                by_cases g2 : Rlo R ((clsA R c).getD k (0, (0, 0))).1 + 1 = RL R
                · rw [decide_eq_true g2, decide_eq_false (by omega)]; rfl
                · rw [decide_eq_false g2, decide_eq_true (by omega)]; rfl]
              exact bx_1 (by assumption)
            have e8 : ft3 R (clsA R c) (k + 1) = 4 := by unfold ft3; rw [if_pos z8.1, take_g (by omega), rAs_app, z8.2, e9]; rfl
            refine ih (k + 1) _ _ (by omega) (by omega) ?_
            rw [e8]
            exact hI.s27
end
