theorem and_m12 {x M : Nat} (hM : M < 4096) : x &&& M = (x % 4096) &&& M := by
  have h1 : M &&& 4095 = M := by rw [show (4095 : Nat) = 2 ^ 12 - 1 from rfl, and_m]; exact Nat.mod_eq_of_lt hM
  have h2 : x &&& 4095 = x % 4096 := by rw [show (4095 : Nat) = 2 ^ 12 - 1 from rfl, and_m]
  rw [← h2, Nat.and_assoc, Nat.and_comm 4095 M, h1]
theorem b32_andneg {b M : Nat} (hM : M < 4096) (hb : b ≤ M) : b32 (fun a b => a &&& b) ((b : Int) - (M : Int)) (M : Int) = (((b + (4096 - M)) &&& M : Nat) : Int) := by
  have hle := @Nat.and_le_right (b + (4096 - M)) M
  unfold b32
  dsimp only
  have h : Int32.ofInt ((b : Int) - (M : Int)) &&& nI M = nI ((b + (4096 - M)) &&& M) := by
    apply Int32.toBitVec_inj.mp
    apply BitVec.eq_of_toNat_eq
    show (BitVec.ofInt 32 ((b : Int) - (M : Int)) &&& BitVec.ofNat 32 M).toNat = (BitVec.ofNat 32 _).toNat
    rw [BitVec.toNat_and, BitVec.toNat_ofInt, BitVec.toNat_ofNat, BitVec.toNat_ofNat, Nat.mod_eq_of_lt (show M < 2 ^ 32 by omega), Nat.mod_eq_of_lt (show (b + (4096 - M)) &&& M < 2 ^ 32 by omega), and_m12 hM, @and_m12 (b + (4096 - M)) M hM]
    congr 1
    omega
  rw [oI, h, nI_toInt (by omega)]
theorem E_andneg {k pc n : Nat} {L : Lc} {r : List AV} {Q : Option AV → Sx → Prop} {s : Sx} {b M v : Nat} (hi : ins k pc = some (.iand, n)) (hM : M < 4096) (hb : b ≤ M) (hv : (b + (4096 - M)) &&& M = v) (kk : E k (pc + n) L (aI (v : Int) :: r) s Q) : E k pc L (aI (M : Int) :: aI ((b : Int) - (M : Int)) :: r) s Q := by
  subst hv
  refine E_s hi ?_ kk
  rw [← b32_andneg hM hb]
  rfl
/-- the sets within M, one behind the other -/
def bsN (M : Nat) : Nat → Nat
  | 0 => 0
  | k + 1 => (bsN M k + (4096 - M)) &&& M
theorem bsN_le (M k : Nat) : bsN M k ≤ M := by
  cases k with
  | zero => exact Nat.zero_le _
  | succ k => exact Nat.and_le_right
theorem bsN_tb {M k x : Nat} (h : Nat.testBit (bsN M k) x = true) : Nat.testBit M x = true := by
  cases k with
  | zero => exact absurd h (by show ¬ Nat.testBit 0 x = true; rw [Nat.zero_testBit]; decide)
  | succ k =>
    have h : Nat.testBit ((bsN M k + (4096 - M)) &&& M) x = true := h
    rw [Nat.testBit_and] at h
    exact (Bool.and_eq_true_iff.mp h).2
def qlB (R : RD) (g b : Nat) : Bool := decide (2 ≤ pc12 b) && addB R g b
/-- what a GROUP adds to the GROUPINGS; none: more than 300 -/
def accS (R : RD) (g M : Nat) (l : List (Nat × Nat)) : Nat → Option (List (Nat × Nat))
  | 0 => some l
  | k + 1 => (accS R g M l k).bind fun t => bif qlB R g (bsN M (k + 1)) then (if t.length = 300 then none else some (t ++ [(g, bsN M (k + 1))])) else some t
theorem accS_none {R : RD} {g M : Nat} {l : List (Nat × Nat)} {k : Nat} (h : accS R g M l k = none) : ∀ n, k ≤ n → accS R g M l n = none := by
  intro n
  induction n with
  | zero => intro hk; have e9 : k = 0 := by omega
            subst e9; exact h
  | succ n ih =>
    intro hk
    by_cases e9 : k = n + 1
    · subst e9; exact h
    · show (accS R g M l n).bind _ = none
      rw [ih (by omega)]; rfl
/-- the class keeps these GROUPINGS -/
def FL (l : List (Nat × Nat)) (m : Mm) : Prop := l.length ≤ 300 ∧ m 10 2 = (l.length : Int) ∧ ∀ j, j < l.length → m 11 j = ((l.getD j (0, 0)).1 : Int) ∧ m 12 j = ((l.getD j (0, 0)).2 : Int)
/-- nothing but the GROUPINGS told has changed -/
def FrF (m m' : Mm) : Prop := ∀ b j, ¬ (b = 10 ∧ j = 2) → b ≠ 11 → b ≠ 12 → m' b j = m b j
theorem FL.add {l : List (Nat × Nat)} {m m' : Mm} {g b : Nat} (h : FL l m) (hl : l.length ≠ 300) (h1 : m' 10 2 = ((l.length + 1 : Nat) : Int)) (h2 : ∀ j, j < l.length → m' 11 j = m 11 j ∧ m' 12 j = m 12 j) (h3 : m' 11 l.length = (g : Int) ∧ m' 12 l.length = (b : Int)) : FL (l ++ [(g, b)]) m' := by
  obtain ⟨k1, k2, k3⟩ := h
  have e1 : (l ++ [(g, b)]).length = l.length + 1 := by rw [List.length_append]; rfl
  refine ⟨by omega, by rw [e1]; exact h1, fun j hj => ?_⟩
  rw [List.getD_eq_getElem?_getD]
  by_cases g9 : j = l.length
  · subst g9
    rw [List.getElem?_append_right (Nat.le_refl _), Nat.sub_self]
    exact h3
  · rw [List.getElem?_append_left (by omega), ← List.getD_eq_getElem?_getD]
    obtain ⟨k4, k5⟩ := k3 j (by omega)
    exact ⟨(h2 j (by omega)).1.trans k4, (h2 j (by omega)).2.trans k5⟩
theorem pc12_le (n : Nat) : pc12 n ≤ 12 := by unfold pc12; omega
section
variable {len : Nat} {m m0 : Mm} {Q : Option AV → Sx → Prop} {R : RD} {g u M n : Nat} {l0 : List (Nat × Nat)}
theorem yl_ss (hV : VR R) (hG : GA R m0 u) (hg : g < 12) (hM : M < 4096) (hbm : ∀ k, k < 12 → Nat.testBit M k = true → glen R (k : Int) = glen R (g : Int)) (hn : n < 4096) (q1 : ∀ (m1 : Mm) (l1 : List (Nat × Nat)), accS R g M l0 n = some l1 → FL l1 m1 → FrF m0 m1 → Q (some (aI 1)) (m1, tl len)) (q0 : ∀ m1 : Mm, accS R g M l0 n = none → FrF m0 m1 → Q (some (aI 0)) (m1, tl len))  : ∀ (d : Nat) (k : Nat) (m : Mm) (t : List (Nat × Nat)), (n < k + d) → (k ≤ n) → (accS R g M l0 k = some t) → (FL t m) → (FrF m0 m) → E 111 19 [some (aA 10), some (aI ((g : Nat) : Int)), some (aI ((M : Nat) : Int)), some (aI ((n + 1 : Nat) : Int)), some (aI ((bsN M k : Nat) : Int)), some (aI ((k + 1 : Nat) : Int))] [] (m, tl len) Q := by
  intro d
  induction d with
  | zero => intro k m t hd hk I1 I2 I3; omega
  | succ d ih =>
    intro k m t hd hk I1 I2 I3
    have hbl := bsN_le M k
    have hb2 := bsN_le M (k + 1)
    have h300 := I2.1
    have hGm : GA R m u := hG.of (fun b j hb => I3 b j (by omega) (by omega) (by omega))
    have hp12 := pc12_le (bsN M (k + 1))
    refine E_s (p' := 21) (st' := aI ((k + 1 : Nat) : Int) :: _) rfl rfl ?_
    refine E_s (p' := 22) (st' := aI ((n + 1 : Nat) : Int) :: _) rfl rfl ?_
    refine E_icmp_ge (x := ((k + 1 : Nat) : Int)) (y := ((n + 1 : Nat) : Int)) rfl (by decide) (fun h_1 => ?_) (fun h_1 => ?_)
    · refine E_go (p' := 104) (L' := [some (aA 10), some (aI ((g : Nat) : Int)), some (aI ((M : Nat) : Int)), some (aI ((n + 1 : Nat) : Int)), some (aI ((bsN M k : Nat) : Int)), some (aI ((k + 1 : Nat) : Int))]) (st' := []) rfl rfl rfl ?_
      refine E_s (p' := 105) (st' := aI 1 :: _) rfl rfl ?_
      refine E_ret rfl rfl ?_
      have ek : k + 1 = n + 1 := by omega
      have ek : k = n := by omega
      subst ek
      exact q1 m t I1 I2 I3
    · refine E_go (p' := 25) (L' := [some (aA 10), some (aI ((g : Nat) : Int)), some (aI ((M : Nat) : Int)), some (aI ((n + 1 : Nat) : Int)), some (aI ((bsN M k : Nat) : Int)), some (aI ((k + 1 : Nat) : Int))]) (st' := []) rfl rfl rfl ?_
      refine E_s (p' := 27) (st' := aI ((bsN M k : Nat) : Int) :: _) rfl rfl ?_
      refine E_s (p' := 28) (st' := aI ((M : Nat) : Int) :: _) rfl rfl ?_
      refine E_sub (v := ((bsN M k : Int) - (M : Int))) rfl (by omega) (by omega) ?_
      refine E_s (p' := 30) (st' := aI ((M : Nat) : Int) :: _) rfl rfl ?_
      refine E_andneg (b := bsN M k) (M := M) (v := bsN M (k + 1)) rfl (by omega) (by omega) rfl ?_
      refine E_s (p' := 33) (L' := [some (aA 10), some (aI ((g : Nat) : Int)), some (aI ((M : Nat) : Int)), some (aI ((n + 1 : Nat) : Int)), some (aI ((bsN M (k + 1) : Nat) : Int)), some (aI ((k + 1 : Nat) : Int))]) rfl rfl ?_
      refine E_s (p' := 35) (st' := aI ((bsN M (k + 1) : Nat) : Int) :: _) rfl rfl ?_
      refine E_callL (p' := 38) (L0 := [some (aI ((bsN M (k + 1) : Nat) : Int))]) rfl rfl rfl ?_
      refine c_bc (n := bsN M (k + 1)) (by omega) ?_
      refine E_go (p' := 38) (L' := [some (aA 10), some (aI ((g : Nat) : Int)), some (aI ((M : Nat) : Int)), some (aI ((n + 1 : Nat) : Int)), some (aI ((bsN M (k + 1) : Nat) : Int)), some (aI ((k + 1 : Nat) : Int))]) (st' := [aI ((pc12 (bsN M (k + 1)) : Nat) : Int)]) rfl rfl rfl ?_
      refine E_s (p' := 39) (st' := aI 2 :: _) rfl rfl ?_
      refine E_icmp_lt (x := ((pc12 (bsN M (k + 1)) : Nat) : Int)) (y := 2) rfl (by decide) (fun h_2 => ?_) (fun h_2 => ?_)
      · refine E_go (p' := 98) (L' := [some (aA 10), some (aI ((g : Nat) : Int)), some (aI ((M : Nat) : Int)), some (aI ((n + 1 : Nat) : Int)), some (aI ((bsN M (k + 1) : Nat) : Int)), some (aI ((k + 1 : Nat) : Int))]) (st' := []) rfl rfl rfl ?_
        refine E_inc (x := ((k + 1 : Nat) : Int)) (w := ((k + 2 : Nat) : Int)) (L' := [some (aA 10), some (aI ((g : Nat) : Int)), some (aI ((M : Nat) : Int)), some (aI ((n + 1 : Nat) : Int)), some (aI ((bsN M (k + 1) : Nat) : Int)), some (aI ((k + 2 : Nat) : Int))]) rfl rfl rfl (by omega) (by omega) rfl ?_
        refine E_s (p' := 19) rfl rfl ?_
        have e9 : accS R g M l0 (k + 1) = some t := by
          show (accS R g M l0 k).bind _ = _
          rw [I1]
          show (bif qlB R g (bsN M (k + 1)) then _ else _) = _
          rw [show qlB R g (bsN M (k + 1)) = false by unfold qlB; first | (rw [decide_eq_false (by omega)]; rfl) | (rw [ha9]; exact Bool.and_false _)]; rfl
        exact ih (k + 1) m t (by omega) (by omega) e9 I2 I3
      · refine E_go (p' := 42) (L' := [some (aA 10), some (aI ((g : Nat) : Int)), some (aI ((M : Nat) : Int)), some (aI ((n + 1 : Nat) : Int)), some (aI ((bsN M (k + 1) : Nat) : Int)), some (aI ((k + 1 : Nat) : Int))]) (st' := []) rfl rfl rfl ?_
        refine E_s (p' := 43) (st' := aA 10 :: _) rfl rfl ?_
        refine E_s (p' := 44) (st' := aI ((g : Nat) : Int) :: _) rfl rfl ?_
        refine E_s (p' := 46) (st' := aI ((bsN M (k + 1) : Nat) : Int) :: _) rfl rfl ?_
        refine E_callV (k' := 114) (a := 10) (r := []) (L0 := [some (aA 10), some (aI ((g : Nat) : Int)), some (aI ((bsN M (k + 1) : Nat) : Int)), none, none, none]) rfl rfl rfl rfl rfl rfl rfl rfl rfl rfl ?_
        refine c_addsUp hV hGm hg (b := bsN M (k + 1)) (by omega) (fun x hx hx2 => hbm x hx (bsN_tb hx2)) (fun ha9 => ?_) (fun ha9 => ?_)
        · refine E_go (p' := 49) (L' := [some (aA 10), some (aI ((g : Nat) : Int)), some (aI ((M : Nat) : Int)), some (aI ((n + 1 : Nat) : Int)), some (aI ((bsN M (k + 1) : Nat) : Int)), some (aI ((k + 1 : Nat) : Int))]) (st' := [aI 1]) rfl rfl rfl ?_
          refine E_s (p' := 55) rfl rfl ?_
          refine E_s (p' := 56) (st' := aA 10 :: _) rfl rfl ?_
          refine E_gI (v := ((t.length : Nat) : Int)) rfl rfl rfl rfl I2.2.1 ?_
          refine E_s (p' := 62) (st' := aI 300 :: _) rfl rfl ?_
          refine E_icmp_ne (x := ((t.length : Nat) : Int)) (y := 300) rfl (by decide) (fun h_3 => ?_) (fun h_3 => ?_)
          · refine E_go (p' := 67) (L' := [some (aA 10), some (aI ((g : Nat) : Int)), some (aI ((M : Nat) : Int)), some (aI ((n + 1 : Nat) : Int)), some (aI ((bsN M (k + 1) : Nat) : Int)), some (aI ((k + 1 : Nat) : Int))]) (st' := []) rfl rfl rfl ?_
            refine E_s (p' := 68) (st' := aA 10 :: _) rfl rfl ?_
            refine E_gA (b := 11) rfl rfl rfl rfl rfl rfl ?_
            refine E_s (p' := 72) (st' := aA 10 :: _) rfl rfl ?_
            refine E_gI (v := ((t.length : Nat) : Int)) rfl rfl rfl rfl I2.2.1 ?_
            refine E_s (p' := 76) (st' := aI ((g : Nat) : Int) :: _) rfl rfl ?_
            refine E_ast (e := t.length) (N := 300) rfl rfl (rfl) (by omega) ?_
            refine E_s (p' := 78) (st' := aA 10 :: _) rfl rfl ?_
            refine E_gA (b := 12) rfl rfl rfl rfl rfl rfl ?_
            refine E_s (p' := 82) (st' := aA 10 :: _) rfl rfl ?_
            refine E_gI (v := ((t.length : Nat) : Int)) rfl rfl rfl rfl ((up2_ne (by omega)).trans (I2.2.1)) ?_
            refine E_s (p' := 87) (st' := aI ((bsN M (k + 1) : Nat) : Int) :: _) rfl rfl ?_
            refine E_ast (e := t.length) (N := 300) rfl rfl (rfl) (by omega) ?_
            refine E_s (p' := 89) (st' := aA 10 :: _) rfl rfl ?_
            refine E_s (p' := 90) (st' := aA 10 :: _) rfl rfl ?_
            refine E_gI (v := ((t.length : Nat) : Int)) rfl rfl rfl rfl ((up2_ne (by omega)).trans ((up2_ne (by omega)).trans (I2.2.1))) ?_
            refine E_s (p' := 94) (st' := aI 1 :: _) rfl rfl ?_
            refine E_add (v := ((t.length + 1 : Nat) : Int)) rfl (by omega) (by omega) ?_
            refine E_pI rfl rfl rfl rfl (Or.inl rfl) ?_
            refine E_inc (x := ((k + 1 : Nat) : Int)) (w := ((k + 2 : Nat) : Int)) (L' := [some (aA 10), some (aI ((g : Nat) : Int)), some (aI ((M : Nat) : Int)), some (aI ((n + 1 : Nat) : Int)), some (aI ((bsN M (k + 1) : Nat) : Int)), some (aI ((k + 2 : Nat) : Int))]) rfl rfl rfl (by omega) (by omega) rfl ?_
            refine E_s (p' := 19) rfl rfl ?_
            have e9 : accS R g M l0 (k + 1) = some (t ++ [(g, bsN M (k + 1))]) := by
              show (accS R g M l0 k).bind _ = _
              rw [I1]
              show (bif qlB R g (bsN M (k + 1)) then _ else _) = _
              rw [show qlB R g (bsN M (k + 1)) = true by unfold qlB; rw [decide_eq_true (by omega), ha9]; rfl]
              show (if t.length = 300 then none else _) = _
              rw [if_neg (by omega)]
            refine ih (k + 1) _ _ (by omega) (by omega) e9 (I2.add (by omega) up2_eq (fun j hj => ⟨(up2_ne (by omega)).trans ((up2_ne (by omega)).trans (up2_sl (by omega))), (up2_ne (by omega)).trans ((up2_sl (by omega)).trans (up2_ne (by omega)))⟩) ⟨(up2_ne (by omega)).trans ((up2_ne (by omega)).trans up2_eq), (up2_ne (by omega)).trans up2_eq⟩) (fun b j g1 g2 g3 => (up2_o g1).trans ((up2_ne g3).trans ((up2_ne g2).trans (I3 b j g1 g2 g3))))
          · refine E_go (p' := 65) (L' := [some (aA 10), some (aI ((g : Nat) : Int)), some (aI ((M : Nat) : Int)), some (aI ((n + 1 : Nat) : Int)), some (aI ((bsN M (k + 1) : Nat) : Int)), some (aI ((k + 1 : Nat) : Int))]) (st' := []) rfl rfl rfl ?_
            refine E_s (p' := 66) (st' := aI 0 :: _) rfl rfl ?_
            refine E_ret rfl rfl ?_
            have e9 : accS R g M l0 (k + 1) = none := by
              show (accS R g M l0 k).bind _ = _
              rw [I1]
              show (bif qlB R g (bsN M (k + 1)) then _ else _) = _
              rw [show qlB R g (bsN M (k + 1)) = true by unfold qlB; rw [decide_eq_true (by omega), ha9]; rfl]
              show (if t.length = 300 then none else _) = _
              rw [if_pos (by omega)]
            exact q0 m (accS_none e9 n (by omega)) I3
        · refine E_go (p' := 49) (L' := [some (aA 10), some (aI ((g : Nat) : Int)), some (aI ((M : Nat) : Int)), some (aI ((n + 1 : Nat) : Int)), some (aI ((bsN M (k + 1) : Nat) : Int)), some (aI ((k + 1 : Nat) : Int))]) (st' := [aI 0]) rfl rfl rfl ?_
          refine E_s (p' := 52) rfl rfl ?_
          refine E_s (p' := 98) rfl rfl ?_
          refine E_inc (x := ((k + 1 : Nat) : Int)) (w := ((k + 2 : Nat) : Int)) (L' := [some (aA 10), some (aI ((g : Nat) : Int)), some (aI ((M : Nat) : Int)), some (aI ((n + 1 : Nat) : Int)), some (aI ((bsN M (k + 1) : Nat) : Int)), some (aI ((k + 2 : Nat) : Int))]) rfl rfl rfl (by omega) (by omega) rfl ?_
          refine E_s (p' := 19) rfl rfl ?_
          have e9 : accS R g M l0 (k + 1) = some t := by
            show (accS R g M l0 k).bind _ = _
            rw [I1]
            show (bif qlB R g (bsN M (k + 1)) then _ else _) = _
            rw [show qlB R g (bsN M (k + 1)) = false by unfold qlB; first | (rw [decide_eq_false (by omega)]; rfl) | (rw [ha9]; exact Bool.and_false _)]; rfl
          exact ih (k + 1) m t (by omega) (by omega) e9 I2 I3
end
