/-! the class reads a RECORD -/
theorem c_fillL {a N len : Nat} {v : Int} {m : Mm} {Q : Option AV → Sx → Prop} (hk : kd a = (1, N)) (hq : Q none (fillm m a 0 N v, tl len)) : E 38 0 [some (aA a), some (aI v), none, none] [] (m, tl len) Q := c_fill hk rfl hq
theorem fillm_ne {m : Mm} {a b i n j : Nat} {v : Int} (h : b ≠ a) : fillm m a i n v b j = m b j := by unfold fillm; rw [if_neg h]
theorem Fx.fill {lo hi a n : Nat} {v : Int} {m m' : Mm} (h : Fx lo hi m m') (h1 : lo ≤ a) (h2 : a ≤ hi) : Fx lo hi m (fillm m' a 0 n v) := fun b j hb => (fillm_ne (by omega)).trans (h b j hb)
theorem beg_le (R : RD) (c : Nat) : ∀ k, beg R c k ≤ k := by
  intro k
  induction k with
  | zero => exact Nat.le_refl _
  | succ k ih => unfold beg; split <;> omega
theorem beg_t {R : RD} {c k : Nat} (h : ends R c k = true) : beg R c (k + 1) = k + 1 := by show (if ends R c k = true then k + 1 else _) = _; rw [if_pos h]
theorem beg_f {R : RD} {c k : Nat} (h : ends R c k = false) : beg R c (k + 1) = beg R c k := by show (if ends R c k = true then k + 1 else _) = _; rw [if_neg (by rw [h]; decide)]
theorem cls_t {R : RD} {c k : Nat} (h : ends R c k = true) : cls R c (k + 1) = cls R c k ++ [(clp R c k, (so (Cp R c k), clw R c k))] := by show (if ends R c k = true then _ else _) = _; rw [if_pos h]
theorem cls_f {R : RD} {c k : Nat} (h : ends R c k = false) : cls R c (k + 1) = cls R c k := by show (if ends R c k = true then _ else _) = _; rw [if_neg (by rw [h]; decide)]
theorem cls_len (R : RD) (c : Nat) : ∀ k, (cls R c k).length ≤ k := by
  intro k
  induction k with
  | zero => exact Nat.le_refl _
  | succ k ih => unfold cls; split; rw [List.length_append]; show _ + 1 ≤ _; omega; omega
theorem acl_len {R : RD} (hV : VR R) : ∀ c, c ≤ Cn R → (acl R c).length ≤ 30 * c := by
  intro c
  induction c with
  | zero => intro _; exact Nat.le_refl _
  | succ c ih =>
    intro h
    unfold acl clsA
    rw [List.length_append]
    have h1 := ih (by omega)
    have h2 := cls_len R c (Ck R c)
    have h3 := (hV.2.2.1 c (by omega)).2.2.2.2.2
    omega
theorem atp_le (l : List (Nat × (Nat × Nat))) (h : Nat) : atp l h ≤ l.length := List.countP_le_length
theorem atp_app {l : List (Nat × (Nat × Nat))} {x : Nat × (Nat × Nat)} {h : Nat} : atp (l ++ [x]) h = if h = x.1 then atp l h + 1 else atp l h := by
  unfold atp
  rw [List.countP_append, List.countP_singleton]
  by_cases g : h = x.1
  · rw [if_pos g, if_pos (by rw [g]; simp)]
  · rw [if_neg g, if_neg (by simp; exact fun q => g q.symm), Nat.add_zero]
theorem isE_app {α : Type} {l : List α} {x : α} : (l ++ [x]).isEmpty = false := by cases l <;> rfl
theorem aun_app {l : List (Nat × (Nat × Nat))} {x : Nat × (Nat × Nat)} : aun (l ++ [x]) = (aun l || (x.2.1 != 0)) := by unfold aun; rw [List.any_append]; simp
theorem clp_b {R : RD} (hV : VR R) {c k : Nat} (hc : c < Cn R) (hk : k < Ck R c) : 1 ≤ clp R c k ∧ clp R c k ≤ 600 := by
  have h1 := beg_le R c k
  obtain ⟨-, a1, a2, -, -⟩ := hV.2.2.2.1 c k hc hk
  obtain ⟨-, b1, b2, -, -⟩ := hV.2.2.2.1 c (beg R c k) hc (by omega)
  obtain ⟨-, -, -, ⟨-, l2⟩, -, -⟩ := hV.2.2.1 c hc
  unfold clp
  omega
theorem clw_b {R : RD} (hV : VR R) {c k : Nat} (hc : c < Cn R) (hk : k < Ck R c) : 1 ≤ clw R c k ∧ clw R c k ≤ 30 := by
  have h1 := beg_le R c k
  obtain ⟨a0, -⟩ := hV.2.2.2.1 c k hc hk
  have h30 := (hV.2.2.1 c hc).2.2.2.2.2
  unfold clw
  unfold kok at a0
  split
  · omega
  · split <;> omega
section
variable {len : Nat} {m : Mm} {Q : Option AV → Sx → Prop} {R : RD} {a c k : Nat}
theorem c_wbegin (hR : isR a) (q : Q none (up2 m (a + 25) 3 0, tl len)) : E 39 0 [some (aA (a + 25))] [] (m, tl len) Q := by
  refine E_s (p' := 1) (st' := aA (a + 25) :: _) rfl rfl ?_
  refine E_s (p' := 2) (st' := aI 0 :: _) rfl rfl ?_
  refine E_pI rfl rfl rfl (kR_25 hR) (Or.inl rfl) ?_
  refine E_ret rfl rfl ?_
  exact q
theorem c_endsAt (hR : isR a) (hC : CR R a m) (hV : VR R) (hc : c < Cn R) (hk : k < Ck R c) (hb : m (a + 25) 3 = (beg R c k : Int)) (q1 : ∀ m1 : Mm, ends R c k = true → Fx (a + 25) (a + 25) m m1 → m1 (a + 25) 0 = bi (decide (so (Cp R c k) = 0)) → m1 (a + 25) 1 = (clp R c k : Int) → m1 (a + 25) 2 = (clw R c k : Int) → m1 (a + 25) 3 = ((k + 1 : Nat) : Int) → Q (some (aI 1)) (m1, tl len)) (q0 : ∀ m1 : Mm, ends R c k = false → Fx (a + 25) (a + 25) m m1 → m1 (a + 25) 3 = (beg R c k : Int) → Q (some (aI 0)) (m1, tl len)) : E 40 0 [some (aA (a + 25)), some (aA (a + 1)), some (aI ((c : Nat) : Int)), some (aI ((k : Nat) : Int)), none, none, none, none] [] (m, tl len) Q := by
  have hn60 := hV.1
  have hab := isR_b hR
  have hk30 := (hV.2.2.1 c hc).2.2.2.2.2
  have pkl : ∀ j, j < Ck R c → Cp R c j < 2147483648 := fun j hj => by have := kok_lt hV hc hj rfl; omega
  have hbl := beg_le R c k
  have pk3 : ∀ j, j < Ck R c → ht (Cp R c j) ≤ 600 ∧ so (Cp R c j) < 4 ∧ tu (Cp R c j) < 16 := fun j hj => by have := kok_lt hV hc hj rfl; unfold ht so tu; omega
  have pk3k := pk3 k hk
  have pk3b := pk3 (beg R c k) (by omega)
  refine E_s (p' := 1) (st' := aI ((c : Nat) : Int) :: _) rfl rfl ?_
  refine E_s (p' := 3) (st' := aI 30 :: _) rfl rfl ?_
  refine E_mul (v := ((30 * c : Nat) : Int)) rfl (by omega) (by omega) ?_
  refine E_s (p' := 6) (L' := [some (aA (a + 25)), some (aA (a + 1)), some (aI ((c : Nat) : Int)), some (aI ((k : Nat) : Int)), some (aI ((30 * c : Nat) : Int)), none, none, none]) rfl rfl ?_
  refine E_s (p' := 7) (st' := aA (a + 1) :: _) rfl rfl ?_
  refine E_gA (b := a + 8) rfl rfl rfl (kR_1 hR) (hR_1_6 hR) rfl ?_
  refine E_s (p' := 12) (st' := aI ((30 * c : Nat) : Int) :: _) rfl rfl ?_
  refine E_s (p' := 13) (st' := aI ((k : Nat) : Int) :: _) rfl rfl ?_
  refine E_add (v := ((30 * c + k : Nat) : Int)) rfl (by omega) (by omega) ?_
  refine E_ald (e := 30 * c + k) (N := 1800) (v := ((Cp R c k : Nat) : Int)) rfl (kR_8 hR) (rfl) (by omega) (CR_8 hC (by omega) (by omega) (by omega)) ?_
  refine E_s (p' := 17) (L' := [some (aA (a + 25)), some (aA (a + 1)), some (aI ((c : Nat) : Int)), some (aI ((k : Nat) : Int)), some (aI ((30 * c : Nat) : Int)), some (aI ((Cp R c k : Nat) : Int)), none, none]) rfl rfl ?_
  refine E_s (p' := 19) (st' := aI ((Cp R c k : Nat) : Int) :: _) rfl rfl ?_
  refine E_callL (p' := 22) (L0 := [some (aI ((Cp R c k : Nat) : Int))]) rfl rfl rfl ?_
  refine c_sortOf (p := Cp R c k) (pkl _ (by omega)) ?_
  refine E_go (p' := 22) (L' := [some (aA (a + 25)), some (aA (a + 1)), some (aI ((c : Nat) : Int)), some (aI ((k : Nat) : Int)), some (aI ((30 * c : Nat) : Int)), some (aI ((Cp R c k : Nat) : Int)), none, none]) (st' := [aI ((so (Cp R c k) : Nat) : Int)]) rfl rfl rfl ?_
  refine E_s (p' := 24) (L' := [some (aA (a + 25)), some (aA (a + 1)), some (aI ((c : Nat) : Int)), some (aI ((k : Nat) : Int)), some (aI ((30 * c : Nat) : Int)), some (aI ((Cp R c k : Nat) : Int)), some (aI ((so (Cp R c k) : Nat) : Int)), none]) rfl rfl ?_
  refine E_s (p' := 25) (st' := aA (a + 25) :: _) rfl rfl ?_
  refine E_s (p' := 27) (st' := aI ((so (Cp R c k) : Nat) : Int) :: _) rfl rfl ?_
  refine E_if_ne (x := ((so (Cp R c k) : Nat) : Int)) rfl (by decide) (fun h_1 => ?_) (fun h_1 => ?_)
  · refine E_go (p' := 34) (L' := [some (aA (a + 25)), some (aA (a + 1)), some (aI ((c : Nat) : Int)), some (aI ((k : Nat) : Int)), some (aI ((30 * c : Nat) : Int)), some (aI ((Cp R c k : Nat) : Int)), some (aI ((so (Cp R c k) : Nat) : Int)), none]) (st' := [aA (a + 25)]) rfl rfl rfl ?_
    refine E_s (p' := 35) (st' := aI 0 :: _) rfl rfl ?_
    refine E_pI rfl rfl rfl (kR_25 hR) (Or.inr (by decide)) ?_
    refine E_s (p' := 39) (st' := aA (a + 25) :: _) rfl rfl ?_
    refine E_gI (v := 0) rfl rfl rfl (kR_25 hR) up2_eq ?_
    refine E_s (p' := 95) rfl rfl ?_
    refine E_s (p' := 96) (st' := aA (a + 25) :: _) rfl rfl ?_
    refine E_s (p' := 97) (st' := aA (a + 1) :: _) rfl rfl ?_
    refine E_gA (b := a + 8) rfl rfl rfl (kR_1 hR) (hR_1_6 hR) rfl ?_
    refine E_s (p' := 102) (st' := aI ((30 * c : Nat) : Int) :: _) rfl rfl ?_
    refine E_s (p' := 103) (st' := aA (a + 25) :: _) rfl rfl ?_
    refine E_gI (v := ((beg R c k : Nat) : Int)) rfl rfl rfl (kR_25 hR) ((up2_sl (by omega)).trans (hb)) ?_
    refine E_add (v := ((30 * c + beg R c k : Nat) : Int)) rfl (by omega) (by omega) ?_
    refine E_ald (e := 30 * c + beg R c k) (N := 1800) (v := ((Cp R c (beg R c k) : Nat) : Int)) rfl (kR_8 hR) (rfl) (by omega) ((up2_ne (by omega)).trans ((CR_8 hC (by omega) (by omega) (by omega)))) ?_
    refine E_callL (p' := 111) (L0 := [some (aI ((Cp R c (beg R c k) : Nat) : Int))]) rfl rfl rfl ?_
    refine c_heightOf (p := Cp R c (beg R c k)) (pkl _ (by omega)) ?_
    refine E_go (p' := 111) (L' := [some (aA (a + 25)), some (aA (a + 1)), some (aI ((c : Nat) : Int)), some (aI ((k : Nat) : Int)), some (aI ((30 * c : Nat) : Int)), some (aI ((Cp R c k : Nat) : Int)), some (aI ((so (Cp R c k) : Nat) : Int)), none]) (st' := [aI ((ht (Cp R c (beg R c k)) : Nat) : Int), aA (a + 25)]) rfl rfl rfl ?_
    refine E_s (p' := 113) (st' := aI ((Cp R c k : Nat) : Int) :: _) rfl rfl ?_
    refine E_callL (p' := 116) (L0 := [some (aI ((Cp R c k : Nat) : Int))]) rfl rfl rfl ?_
    refine c_heightOf (p := Cp R c k) (pkl _ (by omega)) ?_
    refine E_go (p' := 116) (L' := [some (aA (a + 25)), some (aA (a + 1)), some (aI ((c : Nat) : Int)), some (aI ((k : Nat) : Int)), some (aI ((30 * c : Nat) : Int)), some (aI ((Cp R c k : Nat) : Int)), some (aI ((so (Cp R c k) : Nat) : Int)), none]) (st' := [aI ((ht (Cp R c k) : Nat) : Int), aI ((ht (Cp R c (beg R c k)) : Nat) : Int), aA (a + 25)]) rfl rfl rfl ?_
    refine E_add (v := ((ht (Cp R c (beg R c k)) + ht (Cp R c k) : Nat) : Int)) rfl (by omega) (by omega) ?_
    refine E_s (p' := 118) (st' := aI 2 :: _) rfl rfl ?_
    refine E_div (v := (((ht (Cp R c (beg R c k)) + ht (Cp R c k)) / 2 : Nat) : Int)) rfl (by omega) (by omega) (by omega) (by omega) ?_
    refine E_pI rfl rfl rfl (kR_25 hR) (Or.inl rfl) ?_
    refine E_s (p' := 123) (st' := aA (a + 25) :: _) rfl rfl ?_
    refine E_s (p' := 124) (st' := aA (a + 25) :: _) rfl rfl ?_
    refine E_gI (v := 0) rfl rfl rfl (kR_25 hR) ((up2_sl (by omega)).trans (up2_eq)) ?_
    refine E_s (p' := 141) rfl rfl ?_
    refine E_s (p' := 143) (st' := aI ((so (Cp R c k) : Nat) : Int) :: _) rfl rfl ?_
    refine E_s (p' := 144) (st' := aI 1 :: _) rfl rfl ?_
    refine E_icmp_ne (x := ((so (Cp R c k) : Nat) : Int)) (y := 1) rfl (by decide) (fun h_2 => ?_) (fun h_2 => ?_)
    · refine E_go (p' := 155) (L' := [some (aA (a + 25)), some (aA (a + 1)), some (aI ((c : Nat) : Int)), some (aI ((k : Nat) : Int)), some (aI ((30 * c : Nat) : Int)), some (aI ((Cp R c k : Nat) : Int)), some (aI ((so (Cp R c k) : Nat) : Int)), none]) (st' := [aA (a + 25)]) rfl rfl rfl ?_
      refine E_s (p' := 156) (st' := aI 1 :: _) rfl rfl ?_
      refine E_pI rfl rfl rfl (kR_25 hR) (Or.inl rfl) ?_
      refine E_s (p' := 160) (st' := aA (a + 25) :: _) rfl rfl ?_
      refine E_s (p' := 161) (st' := aI ((k : Nat) : Int) :: _) rfl rfl ?_
      refine E_s (p' := 162) (st' := aI 1 :: _) rfl rfl ?_
      refine E_add (v := ((k + 1 : Nat) : Int)) rfl (by omega) (by omega) ?_
      refine E_pI rfl rfl rfl (kR_25 hR) (Or.inl rfl) ?_
      refine E_s (p' := 167) (st' := aI 1 :: _) rfl rfl ?_
      refine E_ret rfl rfl ?_
      refine q1 _ ?_ (fun b j hb9 => ((up2_ne (by omega)).trans ((up2_ne (by omega)).trans ((up2_ne (by omega)).trans (up2_ne (by omega)))))) ?_ ?_ ?_ (up2_eq)
      · unfold ends
        simp only [Bool.not_eq_true', Bool.and_eq_false_iff, decide_eq_false_iff_not]
        omega
      · refine ((up2_sl (by omega)).trans ((up2_sl (by omega)).trans ((up2_sl (by omega)).trans (up2_eq)))).trans ?_
        first
          | (rw [decide_eq_true (p := so (Cp R c k) = 0) (by omega)]; rfl)
          | (rw [decide_eq_false (p := so (Cp R c k) = 0) (by omega)]; rfl)
      · exact ((up2_sl (by omega)).trans ((up2_sl (by omega)).trans (up2_eq)))
      · refine ((up2_sl (by omega)).trans (up2_eq)).trans ?_
        unfold clw
        first
          | (rw [if_pos (show so (Cp R c k) = 0 by omega)]; omega)
          | (rw [if_neg (show ¬ so (Cp R c k) = 0 by omega), if_pos (show so (Cp R c k) = 1 by omega)])
          | (rw [if_neg (show ¬ so (Cp R c k) = 0 by omega), if_neg (show ¬ so (Cp R c k) = 1 by omega)]; rfl)
    · refine E_go (p' := 147) (L' := [some (aA (a + 25)), some (aA (a + 1)), some (aI ((c : Nat) : Int)), some (aI ((k : Nat) : Int)), some (aI ((30 * c : Nat) : Int)), some (aI ((Cp R c k : Nat) : Int)), some (aI ((so (Cp R c k) : Nat) : Int)), none]) (st' := [aA (a + 25)]) rfl rfl rfl ?_
      refine E_s (p' := 149) (st' := aI ((Cp R c k : Nat) : Int) :: _) rfl rfl ?_
      refine E_callL (p' := 152) (L0 := [some (aI ((Cp R c k : Nat) : Int))]) rfl rfl rfl ?_
      refine c_turnsOf (p := Cp R c k) (pkl _ (by omega)) ?_
      refine E_go (p' := 152) (L' := [some (aA (a + 25)), some (aA (a + 1)), some (aI ((c : Nat) : Int)), some (aI ((k : Nat) : Int)), some (aI ((30 * c : Nat) : Int)), some (aI ((Cp R c k : Nat) : Int)), some (aI ((so (Cp R c k) : Nat) : Int)), none]) (st' := [aI ((tu (Cp R c k) : Nat) : Int), aA (a + 25)]) rfl rfl rfl ?_
      refine E_s (p' := 156) rfl rfl ?_
      refine E_pI rfl rfl rfl (kR_25 hR) (Or.inl rfl) ?_
      refine E_s (p' := 160) (st' := aA (a + 25) :: _) rfl rfl ?_
      refine E_s (p' := 161) (st' := aI ((k : Nat) : Int) :: _) rfl rfl ?_
      refine E_s (p' := 162) (st' := aI 1 :: _) rfl rfl ?_
      refine E_add (v := ((k + 1 : Nat) : Int)) rfl (by omega) (by omega) ?_
      refine E_pI rfl rfl rfl (kR_25 hR) (Or.inl rfl) ?_
      refine E_s (p' := 167) (st' := aI 1 :: _) rfl rfl ?_
      refine E_ret rfl rfl ?_
      refine q1 _ ?_ (fun b j hb9 => ((up2_ne (by omega)).trans ((up2_ne (by omega)).trans ((up2_ne (by omega)).trans (up2_ne (by omega)))))) ?_ ?_ ?_ (up2_eq)
      · unfold ends
        simp only [Bool.not_eq_true', Bool.and_eq_false_iff, decide_eq_false_iff_not]
        omega
      · refine ((up2_sl (by omega)).trans ((up2_sl (by omega)).trans ((up2_sl (by omega)).trans (up2_eq)))).trans ?_
        first
          | (rw [decide_eq_true (p := so (Cp R c k) = 0) (by omega)]; rfl)
          | (rw [decide_eq_false (p := so (Cp R c k) = 0) (by omega)]; rfl)
      · exact ((up2_sl (by omega)).trans ((up2_sl (by omega)).trans (up2_eq)))
      · refine ((up2_sl (by omega)).trans (up2_eq)).trans ?_
        unfold clw
        first
          | (rw [if_pos (show so (Cp R c k) = 0 by omega)]; omega)
          | (rw [if_neg (show ¬ so (Cp R c k) = 0 by omega), if_pos (show so (Cp R c k) = 1 by omega)])
          | (rw [if_neg (show ¬ so (Cp R c k) = 0 by omega), if_neg (show ¬ so (Cp R c k) = 1 by omega)]; rfl)
  · refine E_go (p' := 30) (L' := [some (aA (a + 25)), some (aA (a + 1)), some (aI ((c : Nat) : Int)), some (aI ((k : Nat) : Int)), some (aI ((30 * c : Nat) : Int)), some (aI ((Cp R c k : Nat) : Int)), some (aI ((so (Cp R c k) : Nat) : Int)), none]) (st' := [aA (a + 25)]) rfl rfl rfl ?_
    refine E_s (p' := 31) (st' := aI 1 :: _) rfl rfl ?_
    refine E_s (p' := 35) rfl rfl ?_
    refine E_pI rfl rfl rfl (kR_25 hR) (Or.inr (by decide)) ?_
    refine E_s (p' := 39) (st' := aA (a + 25) :: _) rfl rfl ?_
    refine E_gI (v := 1) rfl rfl rfl (kR_25 hR) up2_eq ?_
    refine E_s (p' := 45) rfl rfl ?_
    refine E_s (p' := 46) (st' := aI ((k : Nat) : Int) :: _) rfl rfl ?_
    refine E_s (p' := 47) (st' := aI 1 :: _) rfl rfl ?_
    refine E_add (v := ((k + 1 : Nat) : Int)) rfl (by omega) (by omega) ?_
    refine E_s (p' := 49) (st' := aA (a + 1) :: _) rfl rfl ?_
    refine E_gA (b := a + 7) rfl rfl rfl (kR_1 hR) (hR_1_5 hR) rfl ?_
    refine E_s (p' := 53) (st' := aI ((c : Nat) : Int) :: _) rfl rfl ?_
    refine E_ald (e := c) (N := 60) (v := ((Ck R c : Nat) : Int)) rfl (kR_7 hR) (rfl) (by omega) ((up2_ne (by omega)).trans ((CR_7 hC (by omega)))) ?_
    refine E_icmp_ge (x := ((k + 1 : Nat) : Int)) (y := ((Ck R c : Nat) : Int)) rfl (by decide) (fun h_3 => ?_) (fun h_3 => ?_)
    · refine E_go (p' := 95) (L' := [some (aA (a + 25)), some (aA (a + 1)), some (aI ((c : Nat) : Int)), some (aI ((k : Nat) : Int)), some (aI ((30 * c : Nat) : Int)), some (aI ((Cp R c k : Nat) : Int)), some (aI ((so (Cp R c k) : Nat) : Int)), none]) (st' := []) rfl rfl rfl ?_
      refine E_s (p' := 96) (st' := aA (a + 25) :: _) rfl rfl ?_
      refine E_s (p' := 97) (st' := aA (a + 1) :: _) rfl rfl ?_
      refine E_gA (b := a + 8) rfl rfl rfl (kR_1 hR) (hR_1_6 hR) rfl ?_
      refine E_s (p' := 102) (st' := aI ((30 * c : Nat) : Int) :: _) rfl rfl ?_
      refine E_s (p' := 103) (st' := aA (a + 25) :: _) rfl rfl ?_
      refine E_gI (v := ((beg R c k : Nat) : Int)) rfl rfl rfl (kR_25 hR) ((up2_sl (by omega)).trans (hb)) ?_
      refine E_add (v := ((30 * c + beg R c k : Nat) : Int)) rfl (by omega) (by omega) ?_
      refine E_ald (e := 30 * c + beg R c k) (N := 1800) (v := ((Cp R c (beg R c k) : Nat) : Int)) rfl (kR_8 hR) (rfl) (by omega) ((up2_ne (by omega)).trans ((CR_8 hC (by omega) (by omega) (by omega)))) ?_
      refine E_callL (p' := 111) (L0 := [some (aI ((Cp R c (beg R c k) : Nat) : Int))]) rfl rfl rfl ?_
      refine c_heightOf (p := Cp R c (beg R c k)) (pkl _ (by omega)) ?_
      refine E_go (p' := 111) (L' := [some (aA (a + 25)), some (aA (a + 1)), some (aI ((c : Nat) : Int)), some (aI ((k : Nat) : Int)), some (aI ((30 * c : Nat) : Int)), some (aI ((Cp R c k : Nat) : Int)), some (aI ((so (Cp R c k) : Nat) : Int)), none]) (st' := [aI ((ht (Cp R c (beg R c k)) : Nat) : Int), aA (a + 25)]) rfl rfl rfl ?_
      refine E_s (p' := 113) (st' := aI ((Cp R c k : Nat) : Int) :: _) rfl rfl ?_
      refine E_callL (p' := 116) (L0 := [some (aI ((Cp R c k : Nat) : Int))]) rfl rfl rfl ?_
      refine c_heightOf (p := Cp R c k) (pkl _ (by omega)) ?_
      refine E_go (p' := 116) (L' := [some (aA (a + 25)), some (aA (a + 1)), some (aI ((c : Nat) : Int)), some (aI ((k : Nat) : Int)), some (aI ((30 * c : Nat) : Int)), some (aI ((Cp R c k : Nat) : Int)), some (aI ((so (Cp R c k) : Nat) : Int)), none]) (st' := [aI ((ht (Cp R c k) : Nat) : Int), aI ((ht (Cp R c (beg R c k)) : Nat) : Int), aA (a + 25)]) rfl rfl rfl ?_
      refine E_add (v := ((ht (Cp R c (beg R c k)) + ht (Cp R c k) : Nat) : Int)) rfl (by omega) (by omega) ?_
      refine E_s (p' := 118) (st' := aI 2 :: _) rfl rfl ?_
      refine E_div (v := (((ht (Cp R c (beg R c k)) + ht (Cp R c k)) / 2 : Nat) : Int)) rfl (by omega) (by omega) (by omega) (by omega) ?_
      refine E_pI rfl rfl rfl (kR_25 hR) (Or.inl rfl) ?_
      refine E_s (p' := 123) (st' := aA (a + 25) :: _) rfl rfl ?_
      refine E_s (p' := 124) (st' := aA (a + 25) :: _) rfl rfl ?_
      refine E_gI (v := 1) rfl rfl rfl (kR_25 hR) ((up2_sl (by omega)).trans (up2_eq)) ?_
      refine E_s (p' := 130) rfl rfl ?_
      refine E_s (p' := 131) (st' := aI ((k : Nat) : Int) :: _) rfl rfl ?_
      refine E_s (p' := 132) (st' := aA (a + 25) :: _) rfl rfl ?_
      refine E_gI (v := ((beg R c k : Nat) : Int)) rfl rfl rfl (kR_25 hR) ((up2_sl (by omega)).trans ((up2_sl (by omega)).trans (hb))) ?_
      refine E_sub (v := ((k : Int) - (beg R c k : Int))) rfl (by omega) (by omega) ?_
      refine E_s (p' := 137) (st' := aI 1 :: _) rfl rfl ?_
      refine E_add (v := ((k : Int) - (beg R c k : Int) + 1)) rfl (by omega) (by omega) ?_
      refine E_s (p' := 156) rfl rfl ?_
      refine E_pI rfl rfl rfl (kR_25 hR) (Or.inl rfl) ?_
      refine E_s (p' := 160) (st' := aA (a + 25) :: _) rfl rfl ?_
      refine E_s (p' := 161) (st' := aI ((k : Nat) : Int) :: _) rfl rfl ?_
      refine E_s (p' := 162) (st' := aI 1 :: _) rfl rfl ?_
      refine E_add (v := ((k + 1 : Nat) : Int)) rfl (by omega) (by omega) ?_
      refine E_pI rfl rfl rfl (kR_25 hR) (Or.inl rfl) ?_
      refine E_s (p' := 167) (st' := aI 1 :: _) rfl rfl ?_
      refine E_ret rfl rfl ?_
      refine q1 _ ?_ (fun b j hb9 => ((up2_ne (by omega)).trans ((up2_ne (by omega)).trans ((up2_ne (by omega)).trans (up2_ne (by omega)))))) ?_ ?_ ?_ (up2_eq)
      · unfold ends
        simp only [Bool.not_eq_true', Bool.and_eq_false_iff, decide_eq_false_iff_not]
        omega
      · refine ((up2_sl (by omega)).trans ((up2_sl (by omega)).trans ((up2_sl (by omega)).trans (up2_eq)))).trans ?_
        first
          | (rw [decide_eq_true (p := so (Cp R c k) = 0) (by omega)]; rfl)
          | (rw [decide_eq_false (p := so (Cp R c k) = 0) (by omega)]; rfl)
      · exact ((up2_sl (by omega)).trans ((up2_sl (by omega)).trans (up2_eq)))
      · refine ((up2_sl (by omega)).trans (up2_eq)).trans ?_
        unfold clw
        first
          | (rw [if_pos (show so (Cp R c k) = 0 by omega)]; omega)
          | (rw [if_neg (show ¬ so (Cp R c k) = 0 by omega), if_pos (show so (Cp R c k) = 1 by omega)])
          | (rw [if_neg (show ¬ so (Cp R c k) = 0 by omega), if_neg (show ¬ so (Cp R c k) = 1 by omega)]; rfl)
    · refine E_go (p' := 57) (L' := [some (aA (a + 25)), some (aA (a + 1)), some (aI ((c : Nat) : Int)), some (aI ((k : Nat) : Int)), some (aI ((30 * c : Nat) : Int)), some (aI ((Cp R c k : Nat) : Int)), some (aI ((so (Cp R c k) : Nat) : Int)), none]) (st' := []) rfl rfl rfl ?_
      have pk3n := pk3 (k + 1) (by omega)
      refine E_s (p' := 58) (st' := aA (a + 1) :: _) rfl rfl ?_
      refine E_gA (b := a + 8) rfl rfl rfl (kR_1 hR) (hR_1_6 hR) rfl ?_
      refine E_s (p' := 63) (st' := aI ((30 * c : Nat) : Int) :: _) rfl rfl ?_
      refine E_s (p' := 64) (st' := aI ((k : Nat) : Int) :: _) rfl rfl ?_
      refine E_add (v := ((30 * c + k : Nat) : Int)) rfl (by omega) (by omega) ?_
      refine E_s (p' := 66) (st' := aI 1 :: _) rfl rfl ?_
      refine E_add (v := ((30 * c + k + 1 : Nat) : Int)) rfl (by omega) (by omega) ?_
      refine E_ald (e := 30 * c + k + 1) (N := 1800) (v := ((Cp R c (k + 1) : Nat) : Int)) rfl (kR_8 hR) (rfl) (by omega) ((up2_ne (by omega)).trans ((CR_8 hC (by omega) (by omega) (by omega)))) ?_
      refine E_s (p' := 70) (L' := [some (aA (a + 25)), some (aA (a + 1)), some (aI ((c : Nat) : Int)), some (aI ((k : Nat) : Int)), some (aI ((30 * c : Nat) : Int)), some (aI ((Cp R c k : Nat) : Int)), some (aI ((so (Cp R c k) : Nat) : Int)), some (aI ((Cp R c (k + 1) : Nat) : Int))]) rfl rfl ?_
      refine E_s (p' := 72) (st' := aI ((Cp R c (k + 1) : Nat) : Int) :: _) rfl rfl ?_
      refine E_callL (p' := 75) (L0 := [some (aI ((Cp R c (k + 1) : Nat) : Int))]) rfl rfl rfl ?_
      refine c_sortOf (p := Cp R c (k + 1)) (pkl _ (by omega)) ?_
      refine E_go (p' := 75) (L' := [some (aA (a + 25)), some (aA (a + 1)), some (aI ((c : Nat) : Int)), some (aI ((k : Nat) : Int)), some (aI ((30 * c : Nat) : Int)), some (aI ((Cp R c k : Nat) : Int)), some (aI ((so (Cp R c k) : Nat) : Int)), some (aI ((Cp R c (k + 1) : Nat) : Int))]) (st' := [aI ((so (Cp R c (k + 1)) : Nat) : Int)]) rfl rfl rfl ?_
      refine E_if_ne (x := ((so (Cp R c (k + 1)) : Nat) : Int)) rfl (by decide) (fun h_4 => ?_) (fun h_4 => ?_)
      · refine E_go (p' := 95) (L' := [some (aA (a + 25)), some (aA (a + 1)), some (aI ((c : Nat) : Int)), some (aI ((k : Nat) : Int)), some (aI ((30 * c : Nat) : Int)), some (aI ((Cp R c k : Nat) : Int)), some (aI ((so (Cp R c k) : Nat) : Int)), some (aI ((Cp R c (k + 1) : Nat) : Int))]) (st' := []) rfl rfl rfl ?_
        refine E_s (p' := 96) (st' := aA (a + 25) :: _) rfl rfl ?_
        refine E_s (p' := 97) (st' := aA (a + 1) :: _) rfl rfl ?_
        refine E_gA (b := a + 8) rfl rfl rfl (kR_1 hR) (hR_1_6 hR) rfl ?_
        refine E_s (p' := 102) (st' := aI ((30 * c : Nat) : Int) :: _) rfl rfl ?_
        refine E_s (p' := 103) (st' := aA (a + 25) :: _) rfl rfl ?_
        refine E_gI (v := ((beg R c k : Nat) : Int)) rfl rfl rfl (kR_25 hR) ((up2_sl (by omega)).trans (hb)) ?_
        refine E_add (v := ((30 * c + beg R c k : Nat) : Int)) rfl (by omega) (by omega) ?_
        refine E_ald (e := 30 * c + beg R c k) (N := 1800) (v := ((Cp R c (beg R c k) : Nat) : Int)) rfl (kR_8 hR) (rfl) (by omega) ((up2_ne (by omega)).trans ((CR_8 hC (by omega) (by omega) (by omega)))) ?_
        refine E_callL (p' := 111) (L0 := [some (aI ((Cp R c (beg R c k) : Nat) : Int))]) rfl rfl rfl ?_
        refine c_heightOf (p := Cp R c (beg R c k)) (pkl _ (by omega)) ?_
        refine E_go (p' := 111) (L' := [some (aA (a + 25)), some (aA (a + 1)), some (aI ((c : Nat) : Int)), some (aI ((k : Nat) : Int)), some (aI ((30 * c : Nat) : Int)), some (aI ((Cp R c k : Nat) : Int)), some (aI ((so (Cp R c k) : Nat) : Int)), some (aI ((Cp R c (k + 1) : Nat) : Int))]) (st' := [aI ((ht (Cp R c (beg R c k)) : Nat) : Int), aA (a + 25)]) rfl rfl rfl ?_
        refine E_s (p' := 113) (st' := aI ((Cp R c k : Nat) : Int) :: _) rfl rfl ?_
        refine E_callL (p' := 116) (L0 := [some (aI ((Cp R c k : Nat) : Int))]) rfl rfl rfl ?_
        refine c_heightOf (p := Cp R c k) (pkl _ (by omega)) ?_
        refine E_go (p' := 116) (L' := [some (aA (a + 25)), some (aA (a + 1)), some (aI ((c : Nat) : Int)), some (aI ((k : Nat) : Int)), some (aI ((30 * c : Nat) : Int)), some (aI ((Cp R c k : Nat) : Int)), some (aI ((so (Cp R c k) : Nat) : Int)), some (aI ((Cp R c (k + 1) : Nat) : Int))]) (st' := [aI ((ht (Cp R c k) : Nat) : Int), aI ((ht (Cp R c (beg R c k)) : Nat) : Int), aA (a + 25)]) rfl rfl rfl ?_
        refine E_add (v := ((ht (Cp R c (beg R c k)) + ht (Cp R c k) : Nat) : Int)) rfl (by omega) (by omega) ?_
        refine E_s (p' := 118) (st' := aI 2 :: _) rfl rfl ?_
        refine E_div (v := (((ht (Cp R c (beg R c k)) + ht (Cp R c k)) / 2 : Nat) : Int)) rfl (by omega) (by omega) (by omega) (by omega) ?_
        refine E_pI rfl rfl rfl (kR_25 hR) (Or.inl rfl) ?_
        refine E_s (p' := 123) (st' := aA (a + 25) :: _) rfl rfl ?_
        refine E_s (p' := 124) (st' := aA (a + 25) :: _) rfl rfl ?_
        refine E_gI (v := 1) rfl rfl rfl (kR_25 hR) ((up2_sl (by omega)).trans (up2_eq)) ?_
        refine E_s (p' := 130) rfl rfl ?_
        refine E_s (p' := 131) (st' := aI ((k : Nat) : Int) :: _) rfl rfl ?_
        refine E_s (p' := 132) (st' := aA (a + 25) :: _) rfl rfl ?_
        refine E_gI (v := ((beg R c k : Nat) : Int)) rfl rfl rfl (kR_25 hR) ((up2_sl (by omega)).trans ((up2_sl (by omega)).trans (hb))) ?_
        refine E_sub (v := ((k : Int) - (beg R c k : Int))) rfl (by omega) (by omega) ?_
        refine E_s (p' := 137) (st' := aI 1 :: _) rfl rfl ?_
        refine E_add (v := ((k : Int) - (beg R c k : Int) + 1)) rfl (by omega) (by omega) ?_
        refine E_s (p' := 156) rfl rfl ?_
        refine E_pI rfl rfl rfl (kR_25 hR) (Or.inl rfl) ?_
        refine E_s (p' := 160) (st' := aA (a + 25) :: _) rfl rfl ?_
        refine E_s (p' := 161) (st' := aI ((k : Nat) : Int) :: _) rfl rfl ?_
        refine E_s (p' := 162) (st' := aI 1 :: _) rfl rfl ?_
        refine E_add (v := ((k + 1 : Nat) : Int)) rfl (by omega) (by omega) ?_
        refine E_pI rfl rfl rfl (kR_25 hR) (Or.inl rfl) ?_
        refine E_s (p' := 167) (st' := aI 1 :: _) rfl rfl ?_
        refine E_ret rfl rfl ?_
        refine q1 _ ?_ (fun b j hb9 => ((up2_ne (by omega)).trans ((up2_ne (by omega)).trans ((up2_ne (by omega)).trans (up2_ne (by omega)))))) ?_ ?_ ?_ (up2_eq)
        · unfold ends
          simp only [Bool.not_eq_true', Bool.and_eq_false_iff, decide_eq_false_iff_not]
          omega
        · refine ((up2_sl (by omega)).trans ((up2_sl (by omega)).trans ((up2_sl (by omega)).trans (up2_eq)))).trans ?_
          first
            | (rw [decide_eq_true (p := so (Cp R c k) = 0) (by omega)]; rfl)
            | (rw [decide_eq_false (p := so (Cp R c k) = 0) (by omega)]; rfl)
        · exact ((up2_sl (by omega)).trans ((up2_sl (by omega)).trans (up2_eq)))
        · refine ((up2_sl (by omega)).trans (up2_eq)).trans ?_
          unfold clw
          first
            | (rw [if_pos (show so (Cp R c k) = 0 by omega)]; omega)
            | (rw [if_neg (show ¬ so (Cp R c k) = 0 by omega), if_pos (show so (Cp R c k) = 1 by omega)])
            | (rw [if_neg (show ¬ so (Cp R c k) = 0 by omega), if_neg (show ¬ so (Cp R c k) = 1 by omega)]; rfl)
      · refine E_go (p' := 78) (L' := [some (aA (a + 25)), some (aA (a + 1)), some (aI ((c : Nat) : Int)), some (aI ((k : Nat) : Int)), some (aI ((30 * c : Nat) : Int)), some (aI ((Cp R c k : Nat) : Int)), some (aI ((so (Cp R c k) : Nat) : Int)), some (aI ((Cp R c (k + 1) : Nat) : Int))]) (st' := []) rfl rfl rfl ?_
        refine E_s (p' := 80) (st' := aI ((Cp R c (k + 1) : Nat) : Int) :: _) rfl rfl ?_
        refine E_callL (p' := 83) (L0 := [some (aI ((Cp R c (k + 1) : Nat) : Int))]) rfl rfl rfl ?_
        refine c_heightOf (p := Cp R c (k + 1)) (pkl _ (by omega)) ?_
        refine E_go (p' := 83) (L' := [some (aA (a + 25)), some (aA (a + 1)), some (aI ((c : Nat) : Int)), some (aI ((k : Nat) : Int)), some (aI ((30 * c : Nat) : Int)), some (aI ((Cp R c k : Nat) : Int)), some (aI ((so (Cp R c k) : Nat) : Int)), some (aI ((Cp R c (k + 1) : Nat) : Int))]) (st' := [aI ((ht (Cp R c (k + 1)) : Nat) : Int)]) rfl rfl rfl ?_
        refine E_s (p' := 85) (st' := aI ((Cp R c k : Nat) : Int) :: _) rfl rfl ?_
        refine E_callL (p' := 88) (L0 := [some (aI ((Cp R c k : Nat) : Int))]) rfl rfl rfl ?_
        refine c_heightOf (p := Cp R c k) (pkl _ (by omega)) ?_
        refine E_go (p' := 88) (L' := [some (aA (a + 25)), some (aA (a + 1)), some (aI ((c : Nat) : Int)), some (aI ((k : Nat) : Int)), some (aI ((30 * c : Nat) : Int)), some (aI ((Cp R c k : Nat) : Int)), some (aI ((so (Cp R c k) : Nat) : Int)), some (aI ((Cp R c (k + 1) : Nat) : Int))]) (st' := [aI ((ht (Cp R c k) : Nat) : Int), aI ((ht (Cp R c (k + 1)) : Nat) : Int)]) rfl rfl rfl ?_
        refine E_sub (v := ((ht (Cp R c (k + 1)) : Int) - (ht (Cp R c k) : Int))) rfl (by omega) (by omega) ?_
        refine E_s (p' := 90) (st' := aI 4 :: _) rfl rfl ?_
        refine E_icmp_gt (x := ((ht (Cp R c (k + 1)) : Int) - (ht (Cp R c k) : Int))) (y := 4) rfl (by decide) (fun h_5 => ?_) (fun h_5 => ?_)
        · refine E_go (p' := 95) (L' := [some (aA (a + 25)), some (aA (a + 1)), some (aI ((c : Nat) : Int)), some (aI ((k : Nat) : Int)), some (aI ((30 * c : Nat) : Int)), some (aI ((Cp R c k : Nat) : Int)), some (aI ((so (Cp R c k) : Nat) : Int)), some (aI ((Cp R c (k + 1) : Nat) : Int))]) (st' := []) rfl rfl rfl ?_
          refine E_s (p' := 96) (st' := aA (a + 25) :: _) rfl rfl ?_
          refine E_s (p' := 97) (st' := aA (a + 1) :: _) rfl rfl ?_
          refine E_gA (b := a + 8) rfl rfl rfl (kR_1 hR) (hR_1_6 hR) rfl ?_
          refine E_s (p' := 102) (st' := aI ((30 * c : Nat) : Int) :: _) rfl rfl ?_
          refine E_s (p' := 103) (st' := aA (a + 25) :: _) rfl rfl ?_
          refine E_gI (v := ((beg R c k : Nat) : Int)) rfl rfl rfl (kR_25 hR) ((up2_sl (by omega)).trans (hb)) ?_
          refine E_add (v := ((30 * c + beg R c k : Nat) : Int)) rfl (by omega) (by omega) ?_
          refine E_ald (e := 30 * c + beg R c k) (N := 1800) (v := ((Cp R c (beg R c k) : Nat) : Int)) rfl (kR_8 hR) (rfl) (by omega) ((up2_ne (by omega)).trans ((CR_8 hC (by omega) (by omega) (by omega)))) ?_
          refine E_callL (p' := 111) (L0 := [some (aI ((Cp R c (beg R c k) : Nat) : Int))]) rfl rfl rfl ?_
          refine c_heightOf (p := Cp R c (beg R c k)) (pkl _ (by omega)) ?_
          refine E_go (p' := 111) (L' := [some (aA (a + 25)), some (aA (a + 1)), some (aI ((c : Nat) : Int)), some (aI ((k : Nat) : Int)), some (aI ((30 * c : Nat) : Int)), some (aI ((Cp R c k : Nat) : Int)), some (aI ((so (Cp R c k) : Nat) : Int)), some (aI ((Cp R c (k + 1) : Nat) : Int))]) (st' := [aI ((ht (Cp R c (beg R c k)) : Nat) : Int), aA (a + 25)]) rfl rfl rfl ?_
          refine E_s (p' := 113) (st' := aI ((Cp R c k : Nat) : Int) :: _) rfl rfl ?_
          refine E_callL (p' := 116) (L0 := [some (aI ((Cp R c k : Nat) : Int))]) rfl rfl rfl ?_
          refine c_heightOf (p := Cp R c k) (pkl _ (by omega)) ?_
          refine E_go (p' := 116) (L' := [some (aA (a + 25)), some (aA (a + 1)), some (aI ((c : Nat) : Int)), some (aI ((k : Nat) : Int)), some (aI ((30 * c : Nat) : Int)), some (aI ((Cp R c k : Nat) : Int)), some (aI ((so (Cp R c k) : Nat) : Int)), some (aI ((Cp R c (k + 1) : Nat) : Int))]) (st' := [aI ((ht (Cp R c k) : Nat) : Int), aI ((ht (Cp R c (beg R c k)) : Nat) : Int), aA (a + 25)]) rfl rfl rfl ?_
          refine E_add (v := ((ht (Cp R c (beg R c k)) + ht (Cp R c k) : Nat) : Int)) rfl (by omega) (by omega) ?_
          refine E_s (p' := 118) (st' := aI 2 :: _) rfl rfl ?_
          refine E_div (v := (((ht (Cp R c (beg R c k)) + ht (Cp R c k)) / 2 : Nat) : Int)) rfl (by omega) (by omega) (by omega) (by omega) ?_
          refine E_pI rfl rfl rfl (kR_25 hR) (Or.inl rfl) ?_
          refine E_s (p' := 123) (st' := aA (a + 25) :: _) rfl rfl ?_
          refine E_s (p' := 124) (st' := aA (a + 25) :: _) rfl rfl ?_
          refine E_gI (v := 1) rfl rfl rfl (kR_25 hR) ((up2_sl (by omega)).trans (up2_eq)) ?_
          refine E_s (p' := 130) rfl rfl ?_
          refine E_s (p' := 131) (st' := aI ((k : Nat) : Int) :: _) rfl rfl ?_
          refine E_s (p' := 132) (st' := aA (a + 25) :: _) rfl rfl ?_
          refine E_gI (v := ((beg R c k : Nat) : Int)) rfl rfl rfl (kR_25 hR) ((up2_sl (by omega)).trans ((up2_sl (by omega)).trans (hb))) ?_
          refine E_sub (v := ((k : Int) - (beg R c k : Int))) rfl (by omega) (by omega) ?_
          refine E_s (p' := 137) (st' := aI 1 :: _) rfl rfl ?_
          refine E_add (v := ((k : Int) - (beg R c k : Int) + 1)) rfl (by omega) (by omega) ?_
          refine E_s (p' := 156) rfl rfl ?_
          refine E_pI rfl rfl rfl (kR_25 hR) (Or.inl rfl) ?_
          refine E_s (p' := 160) (st' := aA (a + 25) :: _) rfl rfl ?_
          refine E_s (p' := 161) (st' := aI ((k : Nat) : Int) :: _) rfl rfl ?_
          refine E_s (p' := 162) (st' := aI 1 :: _) rfl rfl ?_
          refine E_add (v := ((k + 1 : Nat) : Int)) rfl (by omega) (by omega) ?_
          refine E_pI rfl rfl rfl (kR_25 hR) (Or.inl rfl) ?_
          refine E_s (p' := 167) (st' := aI 1 :: _) rfl rfl ?_
          refine E_ret rfl rfl ?_
          refine q1 _ ?_ (fun b j hb9 => ((up2_ne (by omega)).trans ((up2_ne (by omega)).trans ((up2_ne (by omega)).trans (up2_ne (by omega)))))) ?_ ?_ ?_ (up2_eq)
          · unfold ends
            simp only [Bool.not_eq_true', Bool.and_eq_false_iff, decide_eq_false_iff_not]
            omega
          · refine ((up2_sl (by omega)).trans ((up2_sl (by omega)).trans ((up2_sl (by omega)).trans (up2_eq)))).trans ?_
            first
              | (rw [decide_eq_true (p := so (Cp R c k) = 0) (by omega)]; rfl)
              | (rw [decide_eq_false (p := so (Cp R c k) = 0) (by omega)]; rfl)
          · exact ((up2_sl (by omega)).trans ((up2_sl (by omega)).trans (up2_eq)))
          · refine ((up2_sl (by omega)).trans (up2_eq)).trans ?_
            unfold clw
            first
              | (rw [if_pos (show so (Cp R c k) = 0 by omega)]; omega)
              | (rw [if_neg (show ¬ so (Cp R c k) = 0 by omega), if_pos (show so (Cp R c k) = 1 by omega)])
              | (rw [if_neg (show ¬ so (Cp R c k) = 0 by omega), if_neg (show ¬ so (Cp R c k) = 1 by omega)]; rfl)
        · refine E_go (p' := 93) (L' := [some (aA (a + 25)), some (aA (a + 1)), some (aI ((c : Nat) : Int)), some (aI ((k : Nat) : Int)), some (aI ((30 * c : Nat) : Int)), some (aI ((Cp R c k : Nat) : Int)), some (aI ((so (Cp R c k) : Nat) : Int)), some (aI ((Cp R c (k + 1) : Nat) : Int))]) (st' := []) rfl rfl rfl ?_
          refine E_s (p' := 94) (st' := aI 0 :: _) rfl rfl ?_
          refine E_ret rfl rfl ?_
          exact q0 _ (by unfold ends; rw [decide_eq_true (p := so (Cp R c k) = 0) (by omega), decide_eq_true (p := k + 1 < Ck R c) (by omega), decide_eq_true (p := so (Cp R c (k + 1)) = 0) (by omega), decide_eq_true (p := ht (Cp R c (k + 1)) ≤ ht (Cp R c k) + 4) (by omega)]; rfl) (fun b j hb9 => (up2_ne (by omega))) ((up2_sl (by omega)).trans hb)
end
section
variable {len : Nat} {m0 : Mm} {Q : Option AV → Sx → Prop} {R : RD} {a : Nat}
/-- what countPlaces has counted: the CLUSTERS l, e of them the CORD's at hand -/
def CPI (R : RD) (a : Nat) (m0 m : Mm) (l : List (Nat × (Nat × Nat))) (c e : Nat) : Prop := Fx (a + 15) (a + 25) m0 m ∧ (∀ h, h < 601 → m (a + 24) h = (atp l h : Int)) ∧ (∀ d, d < c → m (a + 20) d = ((clsA R d).length : Int)) ∧ (c < 60 → m (a + 20) c = (e : Int)) ∧ (∀ d, c < d → d < 60 → m (a + 20) d = 0) ∧ m (a + 15) 10 = bi (!l.isEmpty) ∧ m (a + 15) 11 = bi (aun l)
theorem yl_cp45 (hR : isR a) (hC : CR R a m0) (hV : VR R) {c : Nat} (hc : c < Cn R) (hk : ∀ m1 : Mm, CPI R a m0 m1 (acl R (c + 1)) c (clsA R c).length → E 37 129 [some (aA (a + 15)), some (aA (a + 1)), some (aI (c : Int)), some (aI (Ck R c : Int))] [] (m1, tl len) Q) : ∀ (d : Nat) (k : Nat) (m : Mm), (Ck R c < k + d) → (k ≤ Ck R c) → (CPI R a m0 m (acl R c ++ cls R c k) c (cls R c k).length) → (m (a + 25) 3 = (beg R c k : Int)) → E 37 45 [some (aA (a + 15)), some (aA (a + 1)), some (aI ((c : Nat) : Int)), some (aI ((k : Nat) : Int))] [] (m, tl len) Q := by
  intro d
  induction d with
  | zero => intro k m hd hkk hI hb; omega
  | succ d ih =>
    intro k m hd hkk hI hb
    obtain ⟨i1, i2, i3, i4, i5, i6, i7⟩ := id hI
    have hCm : CR R a m := hC.of (fun b j g1 g2 _ => i1 b j (by omega))
    have hn60 := hV.1
    have hab := isR_b hR
    have hk30 := (hV.2.2.1 c hc).2.2.2.2.2
    have hl1 := cls_len R c k
    have hl2 := acl_len hV c (by omega)
    refine E_s (p' := 46) (st' := aI ((k : Nat) : Int) :: _) rfl rfl ?_
    refine E_s (p' := 47) (st' := aA (a + 1) :: _) rfl rfl ?_
    refine E_gA (b := a + 7) rfl rfl rfl (kR_1 hR) (hR_1_5 hR) rfl ?_
    refine E_s (p' := 51) (st' := aI ((c : Nat) : Int) :: _) rfl rfl ?_
    refine E_ald (e := c) (N := 60) (v := ((Ck R c : Nat) : Int)) rfl (kR_7 hR) (rfl) (by omega) (CR_7 hCm (by omega)) ?_
    refine E_icmp_ge (x := ((k : Nat) : Int)) (y := ((Ck R c : Nat) : Int)) rfl (by decide) (fun h_1 => ?_) (fun h_1 => ?_)
    · refine E_go (p' := 129) (L' := [some (aA (a + 15)), some (aA (a + 1)), some (aI ((c : Nat) : Int)), some (aI ((k : Nat) : Int))]) (st' := []) rfl rfl rfl ?_
      have ek : k = Ck R c := by omega
      subst ek
      exact hk m hI
    · refine E_go (p' := 55) (L' := [some (aA (a + 15)), some (aA (a + 1)), some (aI ((c : Nat) : Int)), some (aI ((k : Nat) : Int))]) (st' := []) rfl rfl rfl ?_
      have hcb := clp_b hV hc (show k < Ck R c by omega)
      have hat := atp_le (acl R c ++ cls R c k) (clp R c k)
      rw [List.length_append] at hat
      refine E_s (p' := 56) (st' := aA (a + 15) :: _) rfl rfl ?_
      refine E_gA (b := a + 25) rfl rfl rfl (kR_15 hR) (hR_15_9 hR) rfl ?_
      refine E_s (p' := 60) (st' := aA (a + 1) :: _) rfl rfl ?_
      refine E_s (p' := 61) (st' := aI ((c : Nat) : Int) :: _) rfl rfl ?_
      refine E_s (p' := 62) (st' := aI ((k : Nat) : Int) :: _) rfl rfl ?_
      refine E_callV (k' := 40) (a := a + 25) (r := []) (L0 := [some (aA (a + 25)), some (aA (a + 1)), some (aI ((c : Nat) : Int)), some (aI ((k : Nat) : Int)), none, none, none, none]) rfl rfl rfl rfl rfl (kR_25 hR) rfl rfl rfl rfl ?_
      refine c_endsAt hR hCm hV (by omega) (by omega) hb (fun m1 he1 hF1 hp0 hp1 hp2 hp3 => ?_) (fun m1 he0 hF1 hp3 => ?_)
      · refine E_go (p' := 65) (L' := [some (aA (a + 15)), some (aA (a + 1)), some (aI ((c : Nat) : Int)), some (aI ((k : Nat) : Int))]) (st' := [aI 1]) rfl rfl rfl ?_
        refine E_s (p' := 68) rfl rfl ?_
        refine E_s (p' := 69) (st' := aA (a + 15) :: _) rfl rfl ?_
        refine E_gA (b := a + 24) rfl rfl rfl (kR_15 hR) (hR_15_8 hR) rfl ?_
        refine E_s (p' := 73) (st' := aA (a + 15) :: _) rfl rfl ?_
        refine E_gA (b := a + 25) rfl rfl rfl (kR_15 hR) (hR_15_9 hR) rfl ?_
        refine E_gI (v := ((clp R c k : Nat) : Int)) rfl rfl rfl (kR_25 hR) hp1 ?_
        refine E_s (p' := 80) rfl rfl ?_
        refine E_ald (e := clp R c k) (N := 601) (v := ((atp (acl R c ++ cls R c k) (clp R c k) : Nat) : Int)) rfl (kR_24 hR) (rfl) (by omega) ((hF1 _ _ (by omega)).trans (i2 _ (by omega))) ?_
        refine E_s (p' := 82) (st' := aI 1 :: _) rfl rfl ?_
        refine E_add (v := ((atp (acl R c ++ cls R c k) (clp R c k) + 1 : Nat) : Int)) rfl (by omega) (by omega) ?_
        refine E_ast (e := clp R c k) (N := 601) rfl (kR_24 hR) (rfl) (by omega) ?_
        refine E_s (p' := 85) (st' := aA (a + 15) :: _) rfl rfl ?_
        refine E_gA (b := a + 20) rfl rfl rfl (kR_15 hR) (hR_15_4 hR) rfl ?_
        refine E_s (p' := 89) (st' := aI ((c : Nat) : Int) :: _) rfl rfl ?_
        refine E_s (p' := 90) rfl rfl ?_
        refine E_ald (e := c) (N := 60) (v := (((cls R c k).length : Nat) : Int)) rfl (kR_20 hR) (rfl) (by omega) ((up2_ne (by omega)).trans (((hF1 _ _ (by omega)).trans (i4 (by omega))))) ?_
        refine E_s (p' := 92) (st' := aI 1 :: _) rfl rfl ?_
        refine E_add (v := (((cls R c k).length + 1 : Nat) : Int)) rfl (by omega) (by omega) ?_
        refine E_ast (e := c) (N := 60) rfl (kR_20 hR) (rfl) (by omega) ?_
        refine E_s (p' := 95) (st' := aA (a + 15) :: _) rfl rfl ?_
        refine E_s (p' := 96) (st' := aI 1 :: _) rfl rfl ?_
        refine E_pI rfl rfl rfl (kR_15 hR) (Or.inr (by decide)) ?_
        refine E_s (p' := 100) (st' := aA (a + 15) :: _) rfl rfl ?_
        refine E_s (p' := 101) (st' := aA (a + 15) :: _) rfl rfl ?_
        refine E_gI (v := (bi (aun (acl R c ++ cls R c k)))) rfl rfl rfl (kR_15 hR) ((up2_sl (by omega)).trans ((up2_ne (by omega)).trans ((up2_ne (by omega)).trans (((hF1 _ _ (by omega)).trans (i7)))))) ?_
        refine E_s (p' := 105) (st' := aA (a + 15) :: _) rfl rfl ?_
        refine E_gA (b := a + 25) rfl rfl rfl (kR_15 hR) (hR_15_9 hR) rfl ?_
        refine E_gI (v := (bi (decide (so (Cp R c k) = 0)))) rfl rfl rfl (kR_25 hR) ((up2_ne (by omega)).trans ((up2_ne (by omega)).trans ((up2_ne (by omega)).trans (hp0)))) ?_
        suffices h_2 : E 37 119 [some (aA (a + 15)), some (aA (a + 1)), some (aI ((c : Nat) : Int)), some (aI ((k : Nat) : Int))] [aI (bi (!(decide (so (Cp R c k) = 0)))), aI (bi (aun (acl R c ++ cls R c k))), aA (a + 15)] (up2 (up2 (up2 m1 (a + 24) (clp R c k) ((atp (acl R c ++ cls R c k) (clp R c k) + 1 : Nat) : Int)) (a + 20) c (((cls R c k).length + 1 : Nat) : Int)) (a + 15) 10 1, tl len) Q by
          refine E_b_ne0 (b := (decide (so (Cp R c k) = 0))) rfl (by decide) (fun h_3 => ?_) (fun h_3 => ?_)
          · refine E_go (p' := 118) (L' := [some (aA (a + 15)), some (aA (a + 1)), some (aI ((c : Nat) : Int)), some (aI ((k : Nat) : Int))]) (st' := [aI (bi (aun (acl R c ++ cls R c k))), aA (a + 15)]) rfl rfl rfl ?_
            refine E_s (p' := 119) (st' := aI 0 :: _) rfl rfl ?_
            rw [h_3] at h_2
            exact h_2
          · refine E_go (p' := 114) (L' := [some (aA (a + 15)), some (aA (a + 1)), some (aI ((c : Nat) : Int)), some (aI ((k : Nat) : Int))]) (st' := [aI (bi (aun (acl R c ++ cls R c k))), aA (a + 15)]) rfl rfl rfl ?_
            refine E_s (p' := 115) (st' := aI 1 :: _) rfl rfl ?_
            refine E_s (p' := 119) rfl rfl ?_
            rw [h_3] at h_2
            exact h_2
        refine E_orb (x := (aun (acl R c ++ cls R c k))) (y := (!(decide (so (Cp R c k) = 0)))) rfl ?_
        refine E_pI rfl rfl rfl (kR_15 hR) (Or.inr (bi01 _)) ?_
        refine E_inc (x := ((k : Nat) : Int)) (w := ((k + 1 : Nat) : Int)) (L' := [some (aA (a + 15)), some (aA (a + 1)), some (aI ((c : Nat) : Int)), some (aI ((k + 1 : Nat) : Int))]) rfl rfl rfl (by omega) (by omega) rfl ?_
        refine E_s (p' := 45) rfl rfl ?_
        refine ih (k + 1) _ (by omega) (by omega) ?_ (by rw [beg_t he1]; exact ((up2_ne (by omega)).trans ((up2_ne (by omega)).trans ((up2_ne (by omega)).trans (up2_ne (by omega))))).trans hp3)
        rw [cls_t he1, ← List.append_assoc]
        refine ⟨fun b j hb9 => ((up2_ne (by omega)).trans ((up2_ne (by omega)).trans ((up2_ne (by omega)).trans (up2_ne (by omega))))).trans ((hF1 _ _ (by omega)).trans (i1 b j hb9)), fun h hh => ?_, fun d hd9 => ((up2_o (by omega)).trans ((up2_o (by omega)).trans ((up2_o (by omega)).trans (up2_o (by omega))))).trans ((hF1 _ _ (by omega)).trans (i3 d hd9)), fun g => ?_, fun d g1 g2 => ((up2_o (by omega)).trans ((up2_o (by omega)).trans ((up2_o (by omega)).trans (up2_o (by omega))))).trans ((hF1 _ _ (by omega)).trans (i5 d g1 g2)), ?_, ?_⟩
        · rw [atp_app]
          refine (up2_ne (by omega)).trans ((up2_ne (by omega)).trans ((up2_ne (by omega)).trans ?_))
          by_cases g : h = clp R c k
          · subst g; rw [if_pos rfl]; exact up2_eq
          · rw [if_neg g]; exact (up2_sl g).trans ((hF1 _ _ (by omega)).trans (i2 h hh))
        · rw [List.length_append]; exact ((up2_ne (by omega)).trans ((up2_ne (by omega)).trans (up2_eq)))
        · exact ((up2_sl (by omega)).trans (up2_eq)).trans (by rw [isE_app]; rfl)
        · rw [aun_app]
          refine up2_eq.trans ?_
          congr 2
      · refine E_go (p' := 65) (L' := [some (aA (a + 15)), some (aA (a + 1)), some (aI ((c : Nat) : Int)), some (aI ((k : Nat) : Int))]) (st' := [aI 0]) rfl rfl rfl ?_
        refine E_s (p' := 123) rfl rfl ?_
        refine E_inc (x := ((k : Nat) : Int)) (w := ((k + 1 : Nat) : Int)) (L' := [some (aA (a + 15)), some (aA (a + 1)), some (aI ((c : Nat) : Int)), some (aI ((k + 1 : Nat) : Int))]) rfl rfl rfl (by omega) (by omega) rfl ?_
        refine E_s (p' := 45) rfl rfl ?_
        refine ih (k + 1) m1 (by omega) (by omega) ?_ (by rw [beg_f he0]; exact hp3)
        rw [cls_f he0]
        exact ⟨fun b j hb9 => (hF1 _ _ (by omega)).trans (i1 b j hb9), fun h hh => (hF1 _ _ (by omega)).trans (i2 h hh), fun d hd9 => (hF1 _ _ (by omega)).trans (i3 d hd9), fun g => (hF1 _ _ (by omega)).trans (i4 g), fun d g1 g2 => (hF1 _ _ (by omega)).trans (i5 d g1 g2), (hF1 _ _ (by omega)).trans i6, (hF1 _ _ (by omega)).trans i7⟩
theorem yl_cp28 (hR : isR a) (hC : CR R a m0) (hV : VR R) (q : ∀ m1 : Mm, CPI R a m0 m1 (RA R) (Cn R) 0 → Q none (m1, tl len)) : ∀ (d : Nat) (c : Nat) (m : Mm) (x3 : Option AV), (Cn R < c + d) → (c ≤ Cn R) → (CPI R a m0 m (acl R c) c 0) → E 37 28 [some (aA (a + 15)), some (aA (a + 1)), some (aI ((c : Nat) : Int)), x3] [] (m, tl len) Q := by
  intro d
  induction d with
  | zero => intro c m x3 hd hcn hI; omega
  | succ d ih =>
    intro c m x3 hd hcn hI
    obtain ⟨i1, i2, i3, i4, i5, i6, i7⟩ := id hI
    have hCm : CR R a m := hC.of (fun b j g1 g2 _ => i1 b j (by omega))
    have hn60 := hV.1
    have hab := isR_b hR
    refine E_s (p' := 29) (st' := aI ((c : Nat) : Int) :: _) rfl rfl ?_
    refine E_s (p' := 30) (st' := aA (a + 1) :: _) rfl rfl ?_
    refine E_gI (v := ((Cn R : Nat) : Int)) rfl rfl rfl (kR_1 hR) hCm.1 ?_
    refine E_icmp_ge (x := ((c : Nat) : Int)) (y := ((Cn R : Nat) : Int)) rfl (by decide) (fun h_1 => ?_) (fun h_1 => ?_)
    · refine E_go (p' := 135) (L' := [some (aA (a + 15)), some (aA (a + 1)), some (aI ((c : Nat) : Int)), x3]) (st' := []) rfl rfl rfl ?_
      refine E_ret rfl rfl ?_
      have ec : c = Cn R := by omega
      subst ec
      exact q m hI
    · refine E_go (p' := 36) (L' := [some (aA (a + 15)), some (aA (a + 1)), some (aI ((c : Nat) : Int)), x3]) (st' := []) rfl rfl rfl ?_
      refine E_s (p' := 37) (st' := aA (a + 15) :: _) rfl rfl ?_
      refine E_gA (b := a + 25) rfl rfl rfl (kR_15 hR) (hR_15_9 hR) rfl ?_
      refine E_callV (k' := 39) (a := a + 25) (r := []) (L0 := [some (aA (a + 25))]) rfl rfl rfl rfl rfl (kR_25 hR) rfl rfl rfl rfl ?_
      refine c_wbegin hR ?_
      refine E_go (p' := 43) (L' := [some (aA (a + 15)), some (aA (a + 1)), some (aI ((c : Nat) : Int)), x3]) (st' := []) rfl rfl rfl ?_
      refine E_s (p' := 44) (st' := aI 0 :: _) rfl rfl ?_
      refine E_s (p' := 45) (L' := [some (aA (a + 15)), some (aA (a + 1)), some (aI ((c : Nat) : Int)), some (aI 0)]) rfl rfl ?_
      refine yl_cp45 hR hC hV (by omega) (fun m1 hJ => ?_) (Ck R c + 1) 0 _ (by omega) (by omega) ?_ up2_eq
      rotate_left
      · show CPI R a m0 _ (acl R c ++ []) c 0
        rw [List.append_nil]
        exact ⟨fun b j hb9 => (up2_ne (by omega)).trans (i1 b j hb9), fun h hh => (up2_ne (by omega)).trans (i2 h hh), fun d hd9 => (up2_ne (by omega)).trans (i3 d hd9), fun g => (up2_ne (by omega)).trans (i4 g), fun d g1 g2 => (up2_ne (by omega)).trans (i5 d g1 g2), (up2_ne (by omega)).trans i6, (up2_ne (by omega)).trans i7⟩
      refine E_inc (x := ((c : Nat) : Int)) (w := ((c + 1 : Nat) : Int)) (L' := [some (aA (a + 15)), some (aA (a + 1)), some (aI ((c + 1 : Nat) : Int)), some (aI ((Ck R c : Nat) : Int))]) rfl rfl rfl (by omega) (by omega) rfl ?_
      refine E_s (p' := 28) rfl rfl ?_
      refine ih (c + 1) m1 _ (by omega) (by omega) ?_
      obtain ⟨i1, i2, i3, i4, i5, i6, i7⟩ := hJ
      exact ⟨i1, i2, fun d hd9 => by
        by_cases g : d = c
        · subst g; exact i4 (by omega)
        · exact i3 d (by omega), fun g => i5 _ (by omega) g, fun d g1 g2 => i5 d (by omega) g2, i6, i7⟩
theorem c_countPlaces (hR : isR a) (hC : CR R a m0) (hV : VR R) (q : ∀ m1 : Mm, CPI R a m0 m1 (RA R) (Cn R) 0 → Q none (m1, tl len)) : E 37 0 [some (aA (a + 15)), some (aA (a + 1)), none, none] [] (m0, tl len) Q := by
  have hab := isR_b hR
  refine E_s (p' := 1) (st' := aA (a + 15) :: _) rfl rfl ?_
  refine E_gA (b := a + 24) rfl rfl rfl (kR_15 hR) (hR_15_8 hR) rfl ?_
  refine E_s (p' := 5) (st' := aI 0 :: _) rfl rfl ?_
  refine E_callL (p' := 8) (L0 := [some (aA (a + 24)), some (aI 0), none, none]) rfl rfl rfl ?_
  refine c_fillL (N := 601) (kR_24 hR) ?_
  refine E_go (p' := 8) (L' := [some (aA (a + 15)), some (aA (a + 1)), none, none]) (st' := []) rfl rfl rfl ?_
  refine E_s (p' := 9) (st' := aA (a + 15) :: _) rfl rfl ?_
  refine E_gA (b := a + 20) rfl rfl rfl (kR_15 hR) (hR_15_4 hR) rfl ?_
  refine E_s (p' := 13) (st' := aI 0 :: _) rfl rfl ?_
  refine E_callL (p' := 16) (L0 := [some (aA (a + 20)), some (aI 0), none, none]) rfl rfl rfl ?_
  refine c_fillL (N := 60) (kR_20 hR) ?_
  refine E_go (p' := 16) (L' := [some (aA (a + 15)), some (aA (a + 1)), none, none]) (st' := []) rfl rfl rfl ?_
  refine E_s (p' := 17) (st' := aA (a + 15) :: _) rfl rfl ?_
  refine E_s (p' := 18) (st' := aI 0 :: _) rfl rfl ?_
  refine E_pI rfl rfl rfl (kR_15 hR) (Or.inr (by decide)) ?_
  refine E_s (p' := 22) (st' := aA (a + 15) :: _) rfl rfl ?_
  refine E_s (p' := 23) (st' := aI 0 :: _) rfl rfl ?_
  refine E_pI rfl rfl rfl (kR_15 hR) (Or.inr (by decide)) ?_
  refine E_s (p' := 27) (st' := aI 0 :: _) rfl rfl ?_
  refine E_s (p' := 28) (L' := [some (aA (a + 15)), some (aA (a + 1)), some (aI 0), none]) rfl rfl ?_
  refine yl_cp28 hR hC hV q (Cn R + 1) 0 _ none (by omega) (by omega) ⟨((Fx.rf.fill (by omega) (by omega)).fill (by omega) (by omega)).up (by omega) (by omega) |>.up (by omega) (by omega), fun h hh => ?_, fun d hd9 => absurd hd9 (by omega), fun g => ?_, fun d g1 g2 => ?_, ?_, ?_⟩
  · exact (up2_ne (by omega)).trans ((up2_ne (by omega)).trans ((fillm_ne (by omega)).trans (fillm_in (by omega))))
  · exact (up2_ne (by omega)).trans ((up2_ne (by omega)).trans (fillm_in (by omega)))
  · exact (up2_ne (by omega)).trans ((up2_ne (by omega)).trans (fillm_in (by omega)))
  · exact (up2_sl (by decide)).trans up2_eq
  · exact up2_eq
end
