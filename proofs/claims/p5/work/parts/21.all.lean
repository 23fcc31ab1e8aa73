/-! the class reads a RECORD -/
theorem c_fillL {a N len : Nat} {v : Int} {m : Mm} {Q : Option AV → Sx → Prop} (hk : kd a = (1, N)) (hq : Q none (fillm m a 0 N v, tl len)) : E 38 0 [some (aA a), some (aI v), none, none] [] (m, tl len) Q := c_fill hk rfl hq
theorem fillm_ne {m : Mm} {a b i n j : Nat} {v : Int} (h : b ≠ a) : fillm m a i n v b j = m b j := by unfold fillm; rw [if_neg h]
theorem Fx.fill {lo hi a n : Nat} {v : Int} {m m' : Mm} (h : Fx lo hi m m') (h1 : lo ≤ a) (h2 : a ≤ hi) : Fx lo hi m (fillm m' a 0 n v) := fun b j hb => (fillm_ne (by omega)).trans (h b j hb)
theorem beg_le (R : RD) (c : Nat) : ∀ k, beg R c k ≤ k := by
  intro k
  induction k with
  | zero => exact Nat.le_refl _
  | succ k ih => unfold beg; split <;> omega
theorem beg_t {R : RD} {c k : Nat} (h : ends R c k = true) : beg R c (k + 1) = k + 1 := by show (if ends R c k = true then k + 1 else _) = _; rw [if_pos h]
theorem beg_f {R : RD} {c k : Nat} (h : ends R c k = false) : beg R c (k + 1) = beg R c k := by show (if ends R c k = true then k + 1 else _) = _; rw [if_neg (by rw [h]; decide)]
theorem cls_t {R : RD} {c k : Nat} (h : ends R c k = true) : cls R c (k + 1) = cls R c k ++ [(clp R c k, (so (Cp R c k), clw R c k))] := by show (if ends R c k = true then _ else _) = _; rw [if_pos h]
theorem cls_f {R : RD} {c k : Nat} (h : ends R c k = false) : cls R c (k + 1) = cls R c k := by show (if ends R c k = true then _ else _) = _; rw [if_neg (by rw [h]; decide)]
theorem cls_len (R : RD) (c : Nat) : ∀ k, (cls R c k).length ≤ k := by
  intro k
  induction k with
  | zero => exact Nat.le_refl _
  | succ k ih => unfold cls; split; rw [List.length_append]; show _ + 1 ≤ _; omega; omega
theorem acl_len {R : RD} (hV : VR R) : ∀ c, c ≤ Cn R → (acl R c).length ≤ 30 * c := by
  intro c
  induction c with
  | zero => intro _; exact Nat.le_refl _
  | succ c ih =>
    intro h
    unfold acl clsA
    rw [List.length_append]
    have h1 := ih (by omega)
    have h2 := cls_len R c (Ck R c)
    have h3 := (hV.2.2.1 c (by omega)).2.2.2.2.2
    omega
theorem atp_le (l : List (Nat × (Nat × Nat))) (h : Nat) : atp l h ≤ l.length := List.countP_le_length
theorem atp_app {l : List (Nat × (Nat × Nat))} {x : Nat × (Nat × Nat)} {h : Nat} : atp (l ++ [x]) h = if h = x.1 then atp l h + 1 else atp l h := by
  unfold atp
  rw [List.countP_append, List.countP_singleton]
  by_cases g : h = x.1
  · rw [if_pos g, if_pos (by rw [g]; simp)]
  · rw [if_neg g, if_neg (by simp; exact fun q => g q.symm), Nat.add_zero]
theorem isE_app {α : Type} {l : List α} {x : α} : (l ++ [x]).isEmpty = false := by cases l <;> rfl
theorem aun_app {l : List (Nat × (Nat × Nat))} {x : Nat × (Nat × Nat)} : aun (l ++ [x]) = (aun l || (x.2.1 != 0)) := by unfold aun; rw [List.any_append]; simp
theorem clp_b {R : RD} (hV : VR R) {c k : Nat} (hc : c < Cn R) (hk : k < Ck R c) : 1 ≤ clp R c k ∧ clp R c k ≤ 600 := by
  have h1 := beg_le R c k
  obtain ⟨-, a1, a2, -, -⟩ := hV.2.2.2.1 c k hc hk
  obtain ⟨-, b1, b2, -, -⟩ := hV.2.2.2.1 c (beg R c k) hc (by omega)
  obtain ⟨-, -, -, ⟨-, l2⟩, -, -⟩ := hV.2.2.1 c hc
  unfold clp
  omega
theorem clw_b {R : RD} (hV : VR R) {c k : Nat} (hc : c < Cn R) (hk : k < Ck R c) : 1 ≤ clw R c k ∧ clw R c k ≤ 30 := by
  have h1 := beg_le R c k
  obtain ⟨a0, -⟩ := hV.2.2.2.1 c k hc hk
  have h30 := (hV.2.2.1 c hc).2.2.2.2.2
  unfold clw
  unfold kok at a0
  split
  · omega
  · split <;> omega
section
variable {len : Nat} {m : Mm} {Q : Option AV → Sx → Prop} {R : RD} {a c k : Nat}
theorem c_wbegin (hR : isR a) (q : Q none (up2 m (a + 25) 3 0, tl len)) : E 39 0 [some (aA (a + 25))] [] (m, tl len) Q := by
  refine E_s (p' := 1) (st' := aA (a + 25) :: _) rfl rfl ?_
  refine E_s (p' := 2) (st' := aI 0 :: _) rfl rfl ?_
  refine E_pI rfl rfl rfl (kR_25 hR) (Or.inl rfl) ?_
  refine E_ret rfl rfl ?_
  exact q
theorem c_endsAt (hR : isR a) (hC : CR R a m) (hV : VR R) (hc : c < Cn R) (hk : k < Ck R c) (hb : m (a + 25) 3 = (beg R c k : Int)) (q1 : ∀ m1 : Mm, ends R c k = true → Fx (a + 25) (a + 25) m m1 → m1 (a + 25) 0 = bi (decide (so (Cp R c k) = 0)) → m1 (a + 25) 1 = (clp R c k : Int) → m1 (a + 25) 2 = (clw R c k : Int) → m1 (a + 25) 3 = ((k + 1 : Nat) : Int) → Q (some (aI 1)) (m1, tl len)) (q0 : ∀ m1 : Mm, ends R c k = false → Fx (a + 25) (a + 25) m m1 → m1 (a + 25) 3 = (beg R c k : Int) → Q (some (aI 0)) (m1, tl len)) : E 40 0 [some (aA (a + 25)), some (aA (a + 1)), some (aI ((c : Nat) : Int)), some (aI ((k : Nat) : Int)), none, none, none, none] [] (m, tl len) Q := by
  have hn60 := hV.1
  have hab := isR_b hR
  have hk30 := (hV.2.2.1 c hc).2.2.2.2.2
  have pkl : ∀ j, j < Ck R c → Cp R c j < 2147483648 := fun j hj => by have := kok_lt hV hc hj rfl; omega
  have hbl := beg_le R c k
  have pk3 : ∀ j, j < Ck R c → ht (Cp R c j) ≤ 600 ∧ so (Cp R c j) < 4 ∧ tu (Cp R c j) < 16 := fun j hj => by have := kok_lt hV hc hj rfl; unfold ht so tu; omega
  have pk3k := pk3 k hk
  have pk3b := pk3 (beg R c k) (by omega)
  refine E_s (p' := 1) (st' := aI ((c : Nat) : Int) :: _) rfl rfl ?_
  refine E_s (p' := 3) (st' := aI 30 :: _) rfl rfl ?_
  refine E_mul (v := ((30 * c : Nat) : Int)) rfl (by omega) (by omega) ?_
  refine E_s (p' := 6) (L' := [some (aA (a + 25)), some (aA (a + 1)), some (aI ((c : Nat) : Int)), some (aI ((k : Nat) : Int)), some (aI ((30 * c : Nat) : Int)), none, none, none]) rfl rfl ?_
  refine E_s (p' := 7) (st' := aA (a + 1) :: _) rfl rfl ?_
  refine E_gA (b := a + 8) rfl rfl rfl (kR_1 hR) (hR_1_6 hR) rfl ?_
  refine E_s (p' := 12) (st' := aI ((30 * c : Nat) : Int) :: _) rfl rfl ?_
  refine E_s (p' := 13) (st' := aI ((k : Nat) : Int) :: _) rfl rfl ?_
  refine E_add (v := ((30 * c + k : Nat) : Int)) rfl (by omega) (by omega) ?_
  refine E_ald (e := 30 * c + k) (N := 1800) (v := ((Cp R c k : Nat) : Int)) rfl (kR_8 hR) (rfl) (by omega) (CR_8 hC (by omega) (by omega) (by omega)) ?_
  refine E_s (p' := 17) (L' := [some (aA (a + 25)), some (aA (a + 1)), some (aI ((c : Nat) : Int)), some (aI ((k : Nat) : Int)), some (aI ((30 * c : Nat) : Int)), some (aI ((Cp R c k : Nat) : Int)), none, none]) rfl rfl ?_
  refine E_s (p' := 19) (st' := aI ((Cp R c k : Nat) : Int) :: _) rfl rfl ?_
  refine E_callL (p' := 22) (L0 := [some (aI ((Cp R c k : Nat) : Int))]) rfl rfl rfl ?_
  refine c_sortOf (p := Cp R c k) (pkl _ (by omega)) ?_
  refine E_go (p' := 22) (L' := [some (aA (a + 25)), some (aA (a + 1)), some (aI ((c : Nat) : Int)), some (aI ((k : Nat) : Int)), some (aI ((30 * c : Nat) : Int)), some (aI ((Cp R c k : Nat) : Int)), none, none]) (st' := [aI ((so (Cp R c k) : Nat) : Int)]) rfl rfl rfl ?_
  refine E_s (p' := 24) (L' := [some (aA (a + 25)), some (aA (a + 1)), some (aI ((c : Nat) : Int)), some (aI ((k : Nat) : Int)), some (aI ((30 * c : Nat) : Int)), some (aI ((Cp R c k : Nat) : Int)), some (aI ((so (Cp R c k) : Nat) : Int)), none]) rfl rfl ?_
  refine E_s (p' := 25) (st' := aA (a + 25) :: _) rfl rfl ?_
  refine E_s (p' := 27) (st' := aI ((so (Cp R c k) : Nat) : Int) :: _) rfl rfl ?_
  refine E_if_ne (x := ((so (Cp R c k) : Nat) : Int)) rfl (by decide) (fun h_1 => ?_) (fun h_1 => ?_)
  · refine E_go (p' := 34) (L' := [some (aA (a + 25)), some (aA (a + 1)), some (aI ((c : Nat) : Int)), some (aI ((k : Nat) : Int)), some (aI ((30 * c : Nat) : Int)), some (aI ((Cp R c k : Nat) : Int)), some (aI ((so (Cp R c k) : Nat) : Int)), none]) (st' := [aA (a + 25)]) rfl rfl rfl ?_
    refine E_s (p' := 35) (st' := aI 0 :: _) rfl rfl ?_
    refine E_pI rfl rfl rfl (kR_25 hR) (Or.inr (by decide)) ?_
    refine E_s (p' := 39) (st' := aA (a + 25) :: _) rfl rfl ?_
    refine E_gI (v := 0) rfl rfl rfl (kR_25 hR) up2_eq ?_
    refine E_s (p' := 95) rfl rfl ?_
    refine E_s (p' := 96) (st' := aA (a + 25) :: _) rfl rfl ?_
    refine E_s (p' := 97) (st' := aA (a + 1) :: _) rfl rfl ?_
    refine E_gA (b := a + 8) rfl rfl rfl (kR_1 hR) (hR_1_6 hR) rfl ?_
    refine E_s (p' := 102) (st' := aI ((30 * c : Nat) : Int) :: _) rfl rfl ?_
    refine E_s (p' := 103) (st' := aA (a + 25) :: _) rfl rfl ?_
    refine E_gI (v := ((beg R c k : Nat) : Int)) rfl rfl rfl (kR_25 hR) ((up2_sl (by omega)).trans (hb)) ?_
    refine E_add (v := ((30 * c + beg R c k : Nat) : Int)) rfl (by omega) (by omega) ?_
    refine E_ald (e := 30 * c + beg R c k) (N := 1800) (v := ((Cp R c (beg R c k) : Nat) : Int)) rfl (kR_8 hR) (rfl) (by omega) ((up2_ne (by omega)).trans ((CR_8 hC (by omega) (by omega) (by omega)))) ?_
    refine E_callL (p' := 111) (L0 := [some (aI ((Cp R c (beg R c k) : Nat) : Int))]) rfl rfl rfl ?_
    refine c_heightOf (p := Cp R c (beg R c k)) (pkl _ (by omega)) ?_
    refine E_go (p' := 111) (L' := [some (aA (a + 25)), some (aA (a + 1)), some (aI ((c : Nat) : Int)), some (aI ((k : Nat) : Int)), some (aI ((30 * c : Nat) : Int)), some (aI ((Cp R c k : Nat) : Int)), some (aI ((so (Cp R c k) : Nat) : Int)), none]) (st' := [aI ((ht (Cp R c (beg R c k)) : Nat) : Int), aA (a + 25)]) rfl rfl rfl ?_
    refine E_s (p' := 113) (st' := aI ((Cp R c k : Nat) : Int) :: _) rfl rfl ?_
    refine E_callL (p' := 116) (L0 := [some (aI ((Cp R c k : Nat) : Int))]) rfl rfl rfl ?_
    refine c_heightOf (p := Cp R c k) (pkl _ (by omega)) ?_
    refine E_go (p' := 116) (L' := [some (aA (a + 25)), some (aA (a + 1)), some (aI ((c : Nat) : Int)), some (aI ((k : Nat) : Int)), some (aI ((30 * c : Nat) : Int)), some (aI ((Cp R c k : Nat) : Int)), some (aI ((so (Cp R c k) : Nat) : Int)), none]) (st' := [aI ((ht (Cp R c k) : Nat) : Int), aI ((ht (Cp R c (beg R c k)) : Nat) : Int), aA (a + 25)]) rfl rfl rfl ?_
    refine E_add (v := ((ht (Cp R c (beg R c k)) + ht (Cp R c k) : Nat) : Int)) rfl (by omega) (by omega) ?_
    refine E_s (p' := 118) (st' := aI 2 :: _) rfl rfl ?_
    refine E_div (v := (((ht (Cp R c (beg R c k)) + ht (Cp R c k)) / 2 : Nat) : Int)) rfl (by omega) (by omega) (by omega) (by omega) ?_
    refine E_pI rfl rfl rfl (kR_25 hR) (Or.inl rfl) ?_
    refine E_s (p' := 123) (st' := aA (a + 25) :: _) rfl rfl ?_
    refine E_s (p' := 124) (st' := aA (a + 25) :: _) rfl rfl ?_
    refine E_gI (v := 0) rfl rfl rfl (kR_25 hR) ((up2_sl (by omega)).trans (up2_eq)) ?_
    refine E_s (p' := 141) rfl rfl ?_
    refine E_s (p' := 143) (st' := aI ((so (Cp R c k) : Nat) : Int) :: _) rfl rfl ?_
    refine E_s (p' := 144) (st' := aI 1 :: _) rfl rfl ?_
    refine E_icmp_ne (x := ((so (Cp R c k) : Nat) : Int)) (y := 1) rfl (by decide) (fun h_2 => ?_) (fun h_2 => ?_)
    · refine E_go (p' := 155) (L' := [some (aA (a + 25)), some (aA (a + 1)), some (aI ((c : Nat) : Int)), some (aI ((k : Nat) : Int)), some (aI ((30 * c : Nat) : Int)), some (aI ((Cp R c k : Nat) : Int)), some (aI ((so (Cp R c k) : Nat) : Int)), none]) (st' := [aA (a + 25)]) rfl rfl rfl ?_
      refine E_s (p' := 156) (st' := aI 1 :: _) rfl rfl ?_
      refine E_pI rfl rfl rfl (kR_25 hR) (Or.inl rfl) ?_
      refine E_s (p' := 160) (st' := aA (a + 25) :: _) rfl rfl ?_
      refine E_s (p' := 161) (st' := aI ((k : Nat) : Int) :: _) rfl rfl ?_
      refine E_s (p' := 162) (st' := aI 1 :: _) rfl rfl ?_
      refine E_add (v := ((k + 1 : Nat) : Int)) rfl (by omega) (by omega) ?_
      refine E_pI rfl rfl rfl (kR_25 hR) (Or.inl rfl) ?_
      refine E_s (p' := 167) (st' := aI 1 :: _) rfl rfl ?_
      refine E_ret rfl rfl ?_
      refine q1 _ ?_ (fun b j hb9 => ((up2_ne (by omega)).trans ((up2_ne (by omega)).trans ((up2_ne (by omega)).trans (up2_ne (by omega)))))) ?_ ?_ ?_ (up2_eq)
      · unfold ends
        simp only [Bool.not_eq_true', Bool.and_eq_false_iff, decide_eq_false_iff_not]
        omega
      · refine ((up2_sl (by omega)).trans ((up2_sl (by omega)).trans ((up2_sl (by omega)).trans (up2_eq)))).trans ?_
        first
          | (rw [decide_eq_true (p := so (Cp R c k) = 0) (by omega)]; rfl)
          | (rw [decide_eq_false (p := so (Cp R c k) = 0) (by omega)]; rfl)
      · exact ((up2_sl (by omega)).trans ((up2_sl (by omega)).trans (up2_eq)))
      · refine ((up2_sl (by omega)).trans (up2_eq)).trans ?_
        unfold clw
        first
          | (rw [if_pos (show so (Cp R c k) = 0 by omega)]; omega)
          | (rw [if_neg (show ¬ so (Cp R c k) = 0 by omega), if_pos (show so (Cp R c k) = 1 by omega)])
          | (rw [if_neg (show ¬ so (Cp R c k) = 0 by omega), if_neg (show ¬ so (Cp R c k) = 1 by omega)]; rfl)
    · refine E_go (p' := 147) (L' := [some (aA (a + 25)), some (aA (a + 1)), some (aI ((c : Nat) : Int)), some (aI ((k : Nat) : Int)), some (aI ((30 * c : Nat) : Int)), some (aI ((Cp R c k : Nat) : Int)), some (aI ((so (Cp R c k) : Nat) : Int)), none]) (st' := [aA (a + 25)]) rfl rfl rfl ?_
      refine E_s (p' := 149) (st' := aI ((Cp R c k : Nat) : Int) :: _) rfl rfl ?_
      refine E_callL (p' := 152) (L0 := [some (aI ((Cp R c k : Nat) : Int))]) rfl rfl rfl ?_
      refine c_turnsOf (p := Cp R c k) (pkl _ (by omega)) ?_
      refine E_go (p' := 152) (L' := [some (aA (a + 25)), some (aA (a + 1)), some (aI ((c : Nat) : Int)), some (aI ((k : Nat) : Int)), some (aI ((30 * c : Nat) : Int)), some (aI ((Cp R c k : Nat) : Int)), some (aI ((so (Cp R c k) : Nat) : Int)), none]) (st' := [aI ((tu (Cp R c k) : Nat) : Int), aA (a + 25)]) rfl rfl rfl ?_
      refine E_s (p' := 156) rfl rfl ?_
      refine E_pI rfl rfl rfl (kR_25 hR) (Or.inl rfl) ?_
      refine E_s (p' := 160) (st' := aA (a + 25) :: _) rfl rfl ?_
      refine E_s (p' := 161) (st' := aI ((k : Nat) : Int) :: _) rfl rfl ?_
      refine E_s (p' := 162) (st' := aI 1 :: _) rfl rfl ?_
      refine E_add (v := ((k + 1 : Nat) : Int)) rfl (by omega) (by omega) ?_
      refine E_pI rfl rfl rfl (kR_25 hR) (Or.inl rfl) ?_
      refine E_s (p' := 167) (st' := aI 1 :: _) rfl rfl ?_
      refine E_ret rfl rfl ?_
      refine q1 _ ?_ (fun b j hb9 => ((up2_ne (by omega)).trans ((up2_ne (by omega)).trans ((up2_ne (by omega)).trans (up2_ne (by omega)))))) ?_ ?_ ?_ (up2_eq)
      · unfold ends
        simp only [Bool.not_eq_true', Bool.and_eq_false_iff, decide_eq_false_iff_not]
        omega
      · refine ((up2_sl (by omega)).trans ((up2_sl (by omega)).trans ((up2_sl (by omega)).trans (up2_eq)))).trans ?_
        first
          | (rw [decide_eq_true (p := so (Cp R c k) = 0) (by omega)]; rfl)
          | (rw [decide_eq_false (p := so (Cp R c k) = 0) (by omega)]; rfl)
      · exact ((up2_sl (by omega)).trans ((up2_sl (by omega)).trans (up2_eq)))
      · refine ((up2_sl (by omega)).trans (up2_eq)).trans ?_
        unfold clw
        first
          | (rw [if_pos (show so (Cp R c k) = 0 by omega)]; omega)
          | (rw [if_neg (show ¬ so (Cp R c k) = 0 by omega), if_pos (show so (Cp R c k) = 1 by omega)])
          | (rw [if_neg (show ¬ so (Cp R c k) = 0 by omega), if_neg (show ¬ so (Cp R c k) = 1 by omega)]; rfl)
  · refine E_go (p' := 30) (L' := [some (aA (a + 25)), some (aA (a + 1)), some (aI ((c : Nat) : Int)), some (aI ((k : Nat) : Int)), some (aI ((30 * c : Nat) : Int)), some (aI ((Cp R c k : Nat) : Int)), some (aI ((so (Cp R c k) : Nat) : Int)), none]) (st' := [aA (a + 25)]) rfl rfl rfl ?_
    refine E_s (p' := 31) (st' := aI 1 :: _) rfl rfl ?_
    refine E_s (p' := 35) rfl rfl ?_
    refine E_pI rfl rfl rfl (kR_25 hR) (Or.inr (by decide)) ?_
    refine E_s (p' := 39) (st' := aA (a + 25) :: _) rfl rfl ?_
    refine E_gI (v := 1) rfl rfl rfl (kR_25 hR) up2_eq ?_
    refine E_s (p' := 45) rfl rfl ?_
    refine E_s (p' := 46) (st' := aI ((k : Nat) : Int) :: _) rfl rfl ?_
    refine E_s (p' := 47) (st' := aI 1 :: _) rfl rfl ?_
    refine E_add (v := ((k + 1 : Nat) : Int)) rfl (by omega) (by omega) ?_
    refine E_s (p' := 49) (st' := aA (a + 1) :: _) rfl rfl ?_
    refine E_gA (b := a + 7) rfl rfl rfl (kR_1 hR) (hR_1_5 hR) rfl ?_
    refine E_s (p' := 53) (st' := aI ((c : Nat) : Int) :: _) rfl rfl ?_
    refine E_ald (e := c) (N := 60) (v := ((Ck R c : Nat) : Int)) rfl (kR_7 hR) (rfl) (by omega) ((up2_ne (by omega)).trans ((CR_7 hC (by omega)))) ?_
    refine E_icmp_ge (x := ((k + 1 : Nat) : Int)) (y := ((Ck R c : Nat) : Int)) rfl (by decide) (fun h_3 => ?_) (fun h_3 => ?_)
    · refine E_go (p' := 95) (L' := [some (aA (a + 25)), some (aA (a + 1)), some (aI ((c : Nat) : Int)), some (aI ((k : Nat) : Int)), some (aI ((30 * c : Nat) : Int)), some (aI ((Cp R c k : Nat) : Int)), some (aI ((so (Cp R c k) : Nat) : Int)), none]) (st' := []) rfl rfl rfl ?_
      refine E_s (p' := 96) (st' := aA (a + 25) :: _) rfl rfl ?_
      refine E_s (p' := 97) (st' := aA (a + 1) :: _) rfl rfl ?_
      refine E_gA (b := a + 8) rfl rfl rfl (kR_1 hR) (hR_1_6 hR) rfl ?_
      refine E_s (p' := 102) (st' := aI ((30 * c : Nat) : Int) :: _) rfl rfl ?_
      refine E_s (p' := 103) (st' := aA (a + 25) :: _) rfl rfl ?_
      refine E_gI (v := ((beg R c k : Nat) : Int)) rfl rfl rfl (kR_25 hR) ((up2_sl (by omega)).trans (hb)) ?_
      refine E_add (v := ((30 * c + beg R c k : Nat) : Int)) rfl (by omega) (by omega) ?_
      refine E_ald (e := 30 * c + beg R c k) (N := 1800) (v := ((Cp R c (beg R c k) : Nat) : Int)) rfl (kR_8 hR) (rfl) (by omega) ((up2_ne (by omega)).trans ((CR_8 hC (by omega) (by omega) (by omega)))) ?_
      refine E_callL (p' := 111) (L0 := [some (aI ((Cp R c (beg R c k) : Nat) : Int))]) rfl rfl rfl ?_
      refine c_heightOf (p := Cp R c (beg R c k)) (pkl _ (by omega)) ?_
      refine E_go (p' := 111) (L' := [some (aA (a + 25)), some (aA (a + 1)), some (aI ((c : Nat) : Int)), some (aI ((k : Nat) : Int)), some (aI ((30 * c : Nat) : Int)), some (aI ((Cp R c k : Nat) : Int)), some (aI ((so (Cp R c k) : Nat) : Int)), none]) (st' := [aI ((ht (Cp R c (beg R c k)) : Nat) : Int), aA (a + 25)]) rfl rfl rfl ?_
      refine E_s (p' := 113) (st' := aI ((Cp R c k : Nat) : Int) :: _) rfl rfl ?_
      refine E_callL (p' := 116) (L0 := [some (aI ((Cp R c k : Nat) : Int))]) rfl rfl rfl ?_
      refine c_heightOf (p := Cp R c k) (pkl _ (by omega)) ?_
      refine E_go (p' := 116) (L' := [some (aA (a + 25)), some (aA (a + 1)), some (aI ((c : Nat) : Int)), some (aI ((k : Nat) : Int)), some (aI ((30 * c : Nat) : Int)), some (aI ((Cp R c k : Nat) : Int)), some (aI ((so (Cp R c k) : Nat) : Int)), none]) (st' := [aI ((ht (Cp R c k) : Nat) : Int), aI ((ht (Cp R c (beg R c k)) : Nat) : Int), aA (a + 25)]) rfl rfl rfl ?_
      refine E_add (v := ((ht (Cp R c (beg R c k)) + ht (Cp R c k) : Nat) : Int)) rfl (by omega) (by omega) ?_
      refine E_s (p' := 118) (st' := aI 2 :: _) rfl rfl ?_
      refine E_div (v := (((ht (Cp R c (beg R c k)) + ht (Cp R c k)) / 2 : Nat) : Int)) rfl (by omega) (by omega) (by omega) (by omega) ?_
      refine E_pI rfl rfl rfl (kR_25 hR) (Or.inl rfl) ?_
      refine E_s (p' := 123) (st' := aA (a + 25) :: _) rfl rfl ?_
      refine E_s (p' := 124) (st' := aA (a + 25) :: _) rfl rfl ?_
      refine E_gI (v := 1) rfl rfl rfl (kR_25 hR) ((up2_sl (by omega)).trans (up2_eq)) ?_
      refine E_s (p' := 130) rfl rfl ?_
      refine E_s (p' := 131) (st' := aI ((k : Nat) : Int) :: _) rfl rfl ?_
      refine E_s (p' := 132) (st' := aA (a + 25) :: _) rfl rfl ?_
      refine E_gI (v := ((beg R c k : Nat) : Int)) rfl rfl rfl (kR_25 hR) ((up2_sl (by omega)).trans ((up2_sl (by omega)).trans (hb))) ?_
      refine E_sub (v := ((k : Int) - (beg R c k : Int))) rfl (by omega) (by omega) ?_
      refine E_s (p' := 137) (st' := aI 1 :: _) rfl rfl ?_
      refine E_add (v := ((k : Int) - (beg R c k : Int) + 1)) rfl (by omega) (by omega) ?_
      refine E_s (p' := 156) rfl rfl ?_
      refine E_pI rfl rfl rfl (kR_25 hR) (Or.inl rfl) ?_
      refine E_s (p' := 160) (st' := aA (a + 25) :: _) rfl rfl ?_
      refine E_s (p' := 161) (st' := aI ((k : Nat) : Int) :: _) rfl rfl ?_
      refine E_s (p' := 162) (st' := aI 1 :: _) rfl rfl ?_
      refine E_add (v := ((k + 1 : Nat) : Int)) rfl (by omega) (by omega) ?_
      refine E_pI rfl rfl rfl (kR_25 hR) (Or.inl rfl) ?_
      refine E_s (p' := 167) (st' := aI 1 :: _) rfl rfl ?_
      refine E_ret rfl rfl ?_
      refine q1 _ ?_ (fun b j hb9 => ((up2_ne (by omega)).trans ((up2_ne (by omega)).trans ((up2_ne (by omega)).trans (up2_ne (by omega)))))) ?_ ?_ ?_ (up2_eq)
      · unfold ends
        simp only [Bool.not_eq_true', Bool.and_eq_false_iff, decide_eq_false_iff_not]
        omega
      · refine ((up2_sl (by omega)).trans ((up2_sl (by omega)).trans ((up2_sl (by omega)).trans (up2_eq)))).trans ?_
        first
          | (rw [decide_eq_true (p := so (Cp R c k) = 0) (by omega)]; rfl)
          | (rw [decide_eq_false (p := so (Cp R c k) = 0) (by omega)]; rfl)
      · exact ((up2_sl (by omega)).trans ((up2_sl (by omega)).trans (up2_eq)))
      · refine ((up2_sl (by omega)).trans (up2_eq)).trans ?_
        unfold clw
        first
          | (rw [if_pos (show so (Cp R c k) = 0 by omega)]; omega)
          | (rw [if_neg (show ¬ so (Cp R c k) = 0 by omega), if_pos (show so (Cp R c k) = 1 by omega)])
          | (rw [if_neg (show ¬ so (Cp R c k) = 0 by omega), if_neg (show ¬ so (Cp R c k) = 1 by omega)]; rfl)
    · refine E_go (p' := 57) (L' := [some (aA (a + 25)), some (aA (a + 1)), some (aI ((c : Nat) : Int)), some (aI ((k : Nat) : Int)), some (aI ((30 * c : Nat) : Int)), some (aI ((Cp R c k : Nat) : Int)), some (aI ((so (Cp R c k) : Nat) : Int)), none]) (st' := []) rfl rfl rfl ?_
      have pk3n := pk3 (k + 1) (by omega)
      refine E_s (p' := 58) (st' := aA (a + 1) :: _) rfl rfl ?_
      refine E_gA (b := a + 8) rfl rfl rfl (kR_1 hR) (hR_1_6 hR) rfl ?_
      refine E_s (p' := 63) (st' := aI ((30 * c : Nat) : Int) :: _) rfl rfl ?_
      refine E_s (p' := 64) (st' := aI ((k : Nat) : Int) :: _) rfl rfl ?_
      refine E_add (v := ((30 * c + k : Nat) : Int)) rfl (by omega) (by omega) ?_
      refine E_s (p' := 66) (st' := aI 1 :: _) rfl rfl ?_
      refine E_add (v := ((30 * c + k + 1 : Nat) : Int)) rfl (by omega) (by omega) ?_
      refine E_ald (e := 30 * c + k + 1) (N := 1800) (v := ((Cp R c (k + 1) : Nat) : Int)) rfl (kR_8 hR) (rfl) (by omega) ((up2_ne (by omega)).trans ((CR_8 hC (by omega) (by omega) (by omega)))) ?_
      refine E_s (p' := 70) (L' := [some (aA (a + 25)), some (aA (a + 1)), some (aI ((c : Nat) : Int)), some (aI ((k : Nat) : Int)), some (aI ((30 * c : Nat) : Int)), some (aI ((Cp R c k : Nat) : Int)), some (aI ((so (Cp R c k) : Nat) : Int)), some (aI ((Cp R c (k + 1) : Nat) : Int))]) rfl rfl ?_
      refine E_s (p' := 72) (st' := aI ((Cp R c (k + 1) : Nat) : Int) :: _) rfl rfl ?_
      refine E_callL (p' := 75) (L0 := [some (aI ((Cp R c (k + 1) : Nat) : Int))]) rfl rfl rfl ?_
      refine c_sortOf (p := Cp R c (k + 1)) (pkl _ (by omega)) ?_
      refine E_go (p' := 75) (L' := [some (aA (a + 25)), some (aA (a + 1)), some (aI ((c : Nat) : Int)), some (aI ((k : Nat) : Int)), some (aI ((30 * c : Nat) : Int)), some (aI ((Cp R c k : Nat) : Int)), some (aI ((so (Cp R c k) : Nat) : Int)), some (aI ((Cp R c (k + 1) : Nat) : Int))]) (st' := [aI ((so (Cp R c (k + 1)) : Nat) : Int)]) rfl rfl rfl ?_
      refine E_if_ne (x := ((so (Cp R c (k + 1)) : Nat) : Int)) rfl (by decide) (fun h_4 => ?_) (fun h_4 => ?_)
      · refine E_go (p' := 95) (L' := [some (aA (a + 25)), some (aA (a + 1)), some (aI ((c : Nat) : Int)), some (aI ((k : Nat) : Int)), some (aI ((30 * c : Nat) : Int)), some (aI ((Cp R c k : Nat) : Int)), some (aI ((so (Cp R c k) : Nat) : Int)), some (aI ((Cp R c (k + 1) : Nat) : Int))]) (st' := []) rfl rfl rfl ?_
        refine E_s (p' := 96) (st' := aA (a + 25) :: _) rfl rfl ?_
        refine E_s (p' := 97) (st' := aA (a + 1) :: _) rfl rfl ?_
        refine E_gA (b := a + 8) rfl rfl rfl (kR_1 hR) (hR_1_6 hR) rfl ?_
        refine E_s (p' := 102) (st' := aI ((30 * c : Nat) : Int) :: _) rfl rfl ?_
        refine E_s (p' := 103) (st' := aA (a + 25) :: _) rfl rfl ?_
        refine E_gI (v := ((beg R c k : Nat) : Int)) rfl rfl rfl (kR_25 hR) ((up2_sl (by omega)).trans (hb)) ?_
        refine E_add (v := ((30 * c + beg R c k : Nat) : Int)) rfl (by omega) (by omega) ?_
        refine E_ald (e := 30 * c + beg R c k) (N := 1800) (v := ((Cp R c (beg R c k) : Nat) : Int)) rfl (kR_8 hR) (rfl) (by omega) ((up2_ne (by omega)).trans ((CR_8 hC (by omega) (by omega) (by omega)))) ?_
        refine E_callL (p' := 111) (L0 := [some (aI ((Cp R c (beg R c k) : Nat) : Int))]) rfl rfl rfl ?_
        refine c_heightOf (p := Cp R c (beg R c k)) (pkl _ (by omega)) ?_
        refine E_go (p' := 111) (L' := [some (aA (a + 25)), some (aA (a + 1)), some (aI ((c : Nat) : Int)), some (aI ((k : Nat) : Int)), some (aI ((30 * c : Nat) : Int)), some (aI ((Cp R c k : Nat) : Int)), some (aI ((so (Cp R c k) : Nat) : Int)), some (aI ((Cp R c (k + 1) : Nat) : Int))]) (st' := [aI ((ht (Cp R c (beg R c k)) : Nat) : Int), aA (a + 25)]) rfl rfl rfl ?_
        refine E_s (p' := 113) (st' := aI ((Cp R c k : Nat) : Int) :: _) rfl rfl ?_
        refine E_callL (p' := 116) (L0 := [some (aI ((Cp R c k : Nat) : Int))]) rfl rfl rfl ?_
        refine c_heightOf (p := Cp R c k) (pkl _ (by omega)) ?_
        refine E_go (p' := 116) (L' := [some (aA (a + 25)), some (aA (a + 1)), some (aI ((c : Nat) : Int)), some (aI ((k : Nat) : Int)), some (aI ((30 * c : Nat) : Int)), some (aI ((Cp R c k : Nat) : Int)), some (aI ((so (Cp R c k) : Nat) : Int)), some (aI ((Cp R c (k + 1) : Nat) : Int))]) (st' := [aI ((ht (Cp R c k) : Nat) : Int), aI ((ht (Cp R c (beg R c k)) : Nat) : Int), aA (a + 25)]) rfl rfl rfl ?_
        refine E_add (v := ((ht (Cp R c (beg R c k)) + ht (Cp R c k) : Nat) : Int)) rfl (by omega) (by omega) ?_
        refine E_s (p' := 118) (st' := aI 2 :: _) rfl rfl ?_
        refine E_div (v := (((ht (Cp R c (beg R c k)) + ht (Cp R c k)) / 2 : Nat) : Int)) rfl (by omega) (by omega) (by omega) (by omega) ?_
        refine E_pI rfl rfl rfl (kR_25 hR) (Or.inl rfl) ?_
        refine E_s (p' := 123) (st' := aA (a + 25) :: _) rfl rfl ?_
        refine E_s (p' := 124) (st' := aA (a + 25) :: _) rfl rfl ?_
        refine E_gI (v := 1) rfl rfl rfl (kR_25 hR) ((up2_sl (by omega)).trans (up2_eq)) ?_
        refine E_s (p' := 130) rfl rfl ?_
        refine E_s (p' := 131) (st' := aI ((k : Nat) : Int) :: _) rfl rfl ?_
        refine E_s (p' := 132) (st' := aA (a + 25) :: _) rfl rfl ?_
        refine E_gI (v := ((beg R c k : Nat) : Int)) rfl rfl rfl (kR_25 hR) ((up2_sl (by omega)).trans ((up2_sl (by omega)).trans (hb))) ?_
        refine E_sub (v := ((k : Int) - (beg R c k : Int))) rfl (by omega) (by omega) ?_
        refine E_s (p' := 137) (st' := aI 1 :: _) rfl rfl ?_
        refine E_add (v := ((k : Int) - (beg R c k : Int) + 1)) rfl (by omega) (by omega) ?_
        refine E_s (p' := 156) rfl rfl ?_
        refine E_pI rfl rfl rfl (kR_25 hR) (Or.inl rfl) ?_
        refine E_s (p' := 160) (st' := aA (a + 25) :: _) rfl rfl ?_
        refine E_s (p' := 161) (st' := aI ((k : Nat) : Int) :: _) rfl rfl ?_
        refine E_s (p' := 162) (st' := aI 1 :: _) rfl rfl ?_
        refine E_add (v := ((k + 1 : Nat) : Int)) rfl (by omega) (by omega) ?_
        refine E_pI rfl rfl rfl (kR_25 hR) (Or.inl rfl) ?_
        refine E_s (p' := 167) (st' := aI 1 :: _) rfl rfl ?_
        refine E_ret rfl rfl ?_
        refine q1 _ ?_ (fun b j hb9 => ((up2_ne (by omega)).trans ((up2_ne (by omega)).trans ((up2_ne (by omega)).trans (up2_ne (by omega)))))) ?_ ?_ ?_ (up2_eq)
        · unfold ends
          simp only [Bool.not_eq_true', Bool.and_eq_false_iff, decide_eq_false_iff_not]
          omega
        · refine ((up2_sl (by omega)).trans ((up2_sl (by omega)).trans ((up2_sl (by omega)).trans (up2_eq)))).trans ?_
          first
            | (rw [decide_eq_true (p := so (Cp R c k) = 0) (by omega)]; rfl)
            | (rw [decide_eq_false (p := so (Cp R c k) = 0) (by omega)]; rfl)
        · exact ((up2_sl (by omega)).trans ((up2_sl (by omega)).trans (up2_eq)))
        · refine ((up2_sl (by omega)).trans (up2_eq)).trans ?_
          unfold clw
          first
            | (rw [if_pos (show so (Cp R c k) = 0 by omega)]; omega)
            | (rw [if_neg (show ¬ so (Cp R c k) = 0 by omega), if_pos (show so (Cp R c k) = 1 by omega)])
            | (rw [if_neg (show ¬ so (Cp R c k) = 0 by omega), if_neg (show ¬ so (Cp R c k) = 1 by omega)]; rfl)
      · refine E_go (p' := 78) (L' := [some (aA (a + 25)), some (aA (a + 1)), some (aI ((c : Nat) : Int)), some (aI ((k : Nat) : Int)), some (aI ((30 * c : Nat) : Int)), some (aI ((Cp R c k : Nat) : Int)), some (aI ((so (Cp R c k) : Nat) : Int)), some (aI ((Cp R c (k + 1) : Nat) : Int))]) (st' := []) rfl rfl rfl ?_
        refine E_s (p' := 80) (st' := aI ((Cp R c (k + 1) : Nat) : Int) :: _) rfl rfl ?_
        refine E_callL (p' := 83) (L0 := [some (aI ((Cp R c (k + 1) : Nat) : Int))]) rfl rfl rfl ?_
        refine c_heightOf (p := Cp R c (k + 1)) (pkl _ (by omega)) ?_
        refine E_go (p' := 83) (L' := [some (aA (a + 25)), some (aA (a + 1)), some (aI ((c : Nat) : Int)), some (aI ((k : Nat) : Int)), some (aI ((30 * c : Nat) : Int)), some (aI ((Cp R c k : Nat) : Int)), some (aI ((so (Cp R c k) : Nat) : Int)), some (aI ((Cp R c (k + 1) : Nat) : Int))]) (st' := [aI ((ht (Cp R c (k + 1)) : Nat) : Int)]) rfl rfl rfl ?_
        refine E_s (p' := 85) (st' := aI ((Cp R c k : Nat) : Int) :: _) rfl rfl ?_
        refine E_callL (p' := 88) (L0 := [some (aI ((Cp R c k : Nat) : Int))]) rfl rfl rfl ?_
        refine c_heightOf (p := Cp R c k) (pkl _ (by omega)) ?_
        refine E_go (p' := 88) (L' := [some (aA (a + 25)), some (aA (a + 1)), some (aI ((c : Nat) : Int)), some (aI ((k : Nat) : Int)), some (aI ((30 * c : Nat) : Int)), some (aI ((Cp R c k : Nat) : Int)), some (aI ((so (Cp R c k) : Nat) : Int)), some (aI ((Cp R c (k + 1) : Nat) : Int))]) (st' := [aI ((ht (Cp R c k) : Nat) : Int), aI ((ht (Cp R c (k + 1)) : Nat) : Int)]) rfl rfl rfl ?_
        refine E_sub (v := ((ht (Cp R c (k + 1)) : Int) - (ht (Cp R c k) : Int))) rfl (by omega) (by omega) ?_
        refine E_s (p' := 90) (st' := aI 4 :: _) rfl rfl ?_
        refine E_icmp_gt (x := ((ht (Cp R c (k + 1)) : Int) - (ht (Cp R c k) : Int))) (y := 4) rfl (by decide) (fun h_5 => ?_) (fun h_5 => ?_)
        · refine E_go (p' := 95) (L' := [some (aA (a + 25)), some (aA (a + 1)), some (aI ((c : Nat) : Int)), some (aI ((k : Nat) : Int)), some (aI ((30 * c : Nat) : Int)), some (aI ((Cp R c k : Nat) : Int)), some (aI ((so (Cp R c k) : Nat) : Int)), some (aI ((Cp R c (k + 1) : Nat) : Int))]) (st' := []) rfl rfl rfl ?_
          refine E_s (p' := 96) (st' := aA (a + 25) :: _) rfl rfl ?_
          refine E_s (p' := 97) (st' := aA (a + 1) :: _) rfl rfl ?_
          refine E_gA (b := a + 8) rfl rfl rfl (kR_1 hR) (hR_1_6 hR) rfl ?_
          refine E_s (p' := 102) (st' := aI ((30 * c : Nat) : Int) :: _) rfl rfl ?_
          refine E_s (p' := 103) (st' := aA (a + 25) :: _) rfl rfl ?_
          refine E_gI (v := ((beg R c k : Nat) : Int)) rfl rfl rfl (kR_25 hR) ((up2_sl (by omega)).trans (hb)) ?_
          refine E_add (v := ((30 * c + beg R c k : Nat) : Int)) rfl (by omega) (by omega) ?_
          refine E_ald (e := 30 * c + beg R c k) (N := 1800) (v := ((Cp R c (beg R c k) : Nat) : Int)) rfl (kR_8 hR) (rfl) (by omega) ((up2_ne (by omega)).trans ((CR_8 hC (by omega) (by omega) (by omega)))) ?_
          refine E_callL (p' := 111) (L0 := [some (aI ((Cp R c (beg R c k) : Nat) : Int))]) rfl rfl rfl ?_
          refine c_heightOf (p := Cp R c (beg R c k)) (pkl _ (by omega)) ?_
          refine E_go (p' := 111) (L' := [some (aA (a + 25)), some (aA (a + 1)), some (aI ((c : Nat) : Int)), some (aI ((k : Nat) : Int)), some (aI ((30 * c : Nat) : Int)), some (aI ((Cp R c k : Nat) : Int)), some (aI ((so (Cp R c k) : Nat) : Int)), some (aI ((Cp R c (k + 1) : Nat) : Int))]) (st' := [aI ((ht (Cp R c (beg R c k)) : Nat) : Int), aA (a + 25)]) rfl rfl rfl ?_
          refine E_s (p' := 113) (st' := aI ((Cp R c k : Nat) : Int) :: _) rfl rfl ?_
          refine E_callL (p' := 116) (L0 := [some (aI ((Cp R c k : Nat) : Int))]) rfl rfl rfl ?_
          refine c_heightOf (p := Cp R c k) (pkl _ (by omega)) ?_
          refine E_go (p' := 116) (L' := [some (aA (a + 25)), some (aA (a + 1)), some (aI ((c : Nat) : Int)), some (aI ((k : Nat) : Int)), some (aI ((30 * c : Nat) : Int)), some (aI ((Cp R c k : Nat) : Int)), some (aI ((so (Cp R c k) : Nat) : Int)), some (aI ((Cp R c (k + 1) : Nat) : Int))]) (st' := [aI ((ht (Cp R c k) : Nat) : Int), aI ((ht (Cp R c (beg R c k)) : Nat) : Int), aA (a + 25)]) rfl rfl rfl ?_
          refine E_add (v := ((ht (Cp R c (beg R c k)) + ht (Cp R c k) : Nat) : Int)) rfl (by omega) (by omega) ?_
          refine E_s (p' := 118) (st' := aI 2 :: _) rfl rfl ?_
          refine E_div (v := (((ht (Cp R c (beg R c k)) + ht (Cp R c k)) / 2 : Nat) : Int)) rfl (by omega) (by omega) (by omega) (by omega) ?_
          refine E_pI rfl rfl rfl (kR_25 hR) (Or.inl rfl) ?_
          refine E_s (p' := 123) (st' := aA (a + 25) :: _) rfl rfl ?_
          refine E_s (p' := 124) (st' := aA (a + 25) :: _) rfl rfl ?_
          refine E_gI (v := 1) rfl rfl rfl (kR_25 hR) ((up2_sl (by omega)).trans (up2_eq)) ?_
          refine E_s (p' := 130) rfl rfl ?_
          refine E_s (p' := 131) (st' := aI ((k : Nat) : Int) :: _) rfl rfl ?_
          refine E_s (p' := 132) (st' := aA (a + 25) :: _) rfl rfl ?_
          refine E_gI (v := ((beg R c k : Nat) : Int)) rfl rfl rfl (kR_25 hR) ((up2_sl (by omega)).trans ((up2_sl (by omega)).trans (hb))) ?_
          refine E_sub (v := ((k : Int) - (beg R c k : Int))) rfl (by omega) (by omega) ?_
          refine E_s (p' := 137) (st' := aI 1 :: _) rfl rfl ?_
          refine E_add (v := ((k : Int) - (beg R c k : Int) + 1)) rfl (by omega) (by omega) ?_
          refine E_s (p' := 156) rfl rfl ?_
          refine E_pI rfl rfl rfl (kR_25 hR) (Or.inl rfl) ?_
          refine E_s (p' := 160) (st' := aA (a + 25) :: _) rfl rfl ?_
          refine E_s (p' := 161) (st' := aI ((k : Nat) : Int) :: _) rfl rfl ?_
          refine E_s (p' := 162) (st' := aI 1 :: _) rfl rfl ?_
          refine E_add (v := ((k + 1 : Nat) : Int)) rfl (by omega) (by omega) ?_
          refine E_pI rfl rfl rfl (kR_25 hR) (Or.inl rfl) ?_
          refine E_s (p' := 167) (st' := aI 1 :: _) rfl rfl ?_
          refine E_ret rfl rfl ?_
          refine q1 _ ?_ (fun b j hb9 => ((up2_ne (by omega)).trans ((up2_ne (by omega)).trans ((up2_ne (by omega)).trans (up2_ne (by omega)))))) ?_ ?_ ?_ (up2_eq)
          · unfold ends
            simp only [Bool.not_eq_true', Bool.and_eq_false_iff, decide_eq_false_iff_not]
            omega
          · refine ((up2_sl (by omega)).trans ((up2_sl (by omega)).trans ((up2_sl (by omega)).trans (up2_eq)))).trans ?_
            first
              | (rw [decide_eq_true (p := so (Cp R c k) = 0) (by omega)]; rfl)
              | (rw [decide_eq_false (p := so (Cp R c k) = 0) (by omega)]; rfl)
          · exact ((up2_sl (by omega)).trans ((up2_sl (by omega)).trans (up2_eq)))
          · refine ((up2_sl (by omega)).trans (up2_eq)).trans ?_
            unfold clw
            first
              | (rw [if_pos (show so (Cp R c k) = 0 by omega)]; omega)
              | (rw [if_neg (show ¬ so (Cp R c k) = 0 by omega), if_pos (show so (Cp R c k) = 1 by omega)])
              | (rw [if_neg (show ¬ so (Cp R c k) = 0 by omega), if_neg (show ¬ so (Cp R c k) = 1 by omega)]; rfl)
        · refine E_go (p' := 93) (L' := [some (aA (a + 25)), some (aA (a + 1)), some (aI ((c : Nat) : Int)), some (aI ((k : Nat) : Int)), some (aI ((30 * c : Nat) : Int)), some (aI ((Cp R c k : Nat) : Int)), some (aI ((so (Cp R c k) : Nat) : Int)), some (aI ((Cp R c (k + 1) : Nat) : Int))]) (st' := []) rfl rfl rfl ?_
          refine E_s (p' := 94) (st' := aI 0 :: _) rfl rfl ?_
          refine E_ret rfl rfl ?_
          exact q0 _ (by unfold ends; rw [decide_eq_true (p := so (Cp R c k) = 0) (by omega), decide_eq_true (p := k + 1 < Ck R c) (by omega), decide_eq_true (p := so (Cp R c (k + 1)) = 0) (by omega), decide_eq_true (p := ht (Cp R c (k + 1)) ≤ ht (Cp R c k) + 4) (by omega)]; rfl) (fun b j hb9 => (up2_ne (by omega))) ((up2_sl (by omega)).trans hb)
end
section
variable {len : Nat} {m0 : Mm} {Q : Option AV → Sx → Prop} {R : RD} {a : Nat}
/-- what countPlaces has counted: the CLUSTERS l, e of them the CORD's at hand -/
def CPI (R : RD) (a : Nat) (m0 m : Mm) (l : List (Nat × (Nat × Nat))) (c e : Nat) : Prop := Fx (a + 15) (a + 25) m0 m ∧ (∀ h, h < 601 → m (a + 24) h = (atp l h : Int)) ∧ (∀ d, d < c → m (a + 20) d = ((clsA R d).length : Int)) ∧ (c < 60 → m (a + 20) c = (e : Int)) ∧ (∀ d, c < d → d < 60 → m (a + 20) d = 0) ∧ m (a + 15) 10 = bi (!l.isEmpty) ∧ m (a + 15) 11 = bi (aun l)
theorem yl_cp45 (hR : isR a) (hC : CR R a m0) (hV : VR R) {c : Nat} (hc : c < Cn R) (hk : ∀ m1 : Mm, CPI R a m0 m1 (acl R (c + 1)) c (clsA R c).length → E 37 129 [some (aA (a + 15)), some (aA (a + 1)), some (aI (c : Int)), some (aI (Ck R c : Int))] [] (m1, tl len) Q) : ∀ (d : Nat) (k : Nat) (m : Mm), (Ck R c < k + d) → (k ≤ Ck R c) → (CPI R a m0 m (acl R c ++ cls R c k) c (cls R c k).length) → (m (a + 25) 3 = (beg R c k : Int)) → E 37 45 [some (aA (a + 15)), some (aA (a + 1)), some (aI ((c : Nat) : Int)), some (aI ((k : Nat) : Int))] [] (m, tl len) Q := by
  intro d
  induction d with
  | zero => intro k m hd hkk hI hb; omega
  | succ d ih =>
    intro k m hd hkk hI hb
    obtain ⟨i1, i2, i3, i4, i5, i6, i7⟩ := id hI
    have hCm : CR R a m := hC.of (fun b j g1 g2 _ => i1 b j (by omega))
    have hn60 := hV.1
    have hab := isR_b hR
    have hk30 := (hV.2.2.1 c hc).2.2.2.2.2
    have hl1 := cls_len R c k
    have hl2 := acl_len hV c (by omega)
    refine E_s (p' := 46) (st' := aI ((k : Nat) : Int) :: _) rfl rfl ?_
    refine E_s (p' := 47) (st' := aA (a + 1) :: _) rfl rfl ?_
    refine E_gA (b := a + 7) rfl rfl rfl (kR_1 hR) (hR_1_5 hR) rfl ?_
    refine E_s (p' := 51) (st' := aI ((c : Nat) : Int) :: _) rfl rfl ?_
    refine E_ald (e := c) (N := 60) (v := ((Ck R c : Nat) : Int)) rfl (kR_7 hR) (rfl) (by omega) (CR_7 hCm (by omega)) ?_
    refine E_icmp_ge (x := ((k : Nat) : Int)) (y := ((Ck R c : Nat) : Int)) rfl (by decide) (fun h_1 => ?_) (fun h_1 => ?_)
    · refine E_go (p' := 129) (L' := [some (aA (a + 15)), some (aA (a + 1)), some (aI ((c : Nat) : Int)), some (aI ((k : Nat) : Int))]) (st' := []) rfl rfl rfl ?_
      have ek : k = Ck R c := by omega
      subst ek
      exact hk m hI
    · refine E_go (p' := 55) (L' := [some (aA (a + 15)), some (aA (a + 1)), some (aI ((c : Nat) : Int)), some (aI ((k : Nat) : Int))]) (st' := []) rfl rfl rfl ?_
      have hcb := clp_b hV hc (show k < Ck R c by omega)
      have hat := atp_le (acl R c ++ cls R c k) (clp R c k)
      rw [List.length_append] at hat
      refine E_s (p' := 56) (st' := aA (a + 15) :: _) rfl rfl ?_
      refine E_gA (b := a + 25) rfl rfl rfl (kR_15 hR) (hR_15_9 hR) rfl ?_
      refine E_s (p' := 60) (st' := aA (a + 1) :: _) rfl rfl ?_
      refine E_s (p' := 61) (st' := aI ((c : Nat) : Int) :: _) rfl rfl ?_
      refine E_s (p' := 62) (st' := aI ((k : Nat) : Int) :: _) rfl rfl ?_
      refine E_callV (k' := 40) (a := a + 25) (r := []) (L0 := [some (aA (a + 25)), some (aA (a + 1)), some (aI ((c : Nat) : Int)), some (aI ((k : Nat) : Int)), none, none, none, none]) rfl rfl rfl rfl rfl (kR_25 hR) rfl rfl rfl rfl ?_
      refine c_endsAt hR hCm hV (by omega) (by omega) hb (fun m1 he1 hF1 hp0 hp1 hp2 hp3 => ?_) (fun m1 he0 hF1 hp3 => ?_)
      · refine E_go (p' := 65) (L' := [some (aA (a + 15)), some (aA (a + 1)), some (aI ((c : Nat) : Int)), some (aI ((k : Nat) : Int))]) (st' := [aI 1]) rfl rfl rfl ?_
        refine E_s (p' := 68) rfl rfl ?_
        refine E_s (p' := 69) (st' := aA (a + 15) :: _) rfl rfl ?_
        refine E_gA (b := a + 24) rfl rfl rfl (kR_15 hR) (hR_15_8 hR) rfl ?_
        refine E_s (p' := 73) (st' := aA (a + 15) :: _) rfl rfl ?_
        refine E_gA (b := a + 25) rfl rfl rfl (kR_15 hR) (hR_15_9 hR) rfl ?_
        refine E_gI (v := ((clp R c k : Nat) : Int)) rfl rfl rfl (kR_25 hR) hp1 ?_
        refine E_s (p' := 80) rfl rfl ?_
        refine E_ald (e := clp R c k) (N := 601) (v := ((atp (acl R c ++ cls R c k) (clp R c k) : Nat) : Int)) rfl (kR_24 hR) (rfl) (by omega) ((hF1 _ _ (by omega)).trans (i2 _ (by omega))) ?_
        refine E_s (p' := 82) (st' := aI 1 :: _) rfl rfl ?_
        refine E_add (v := ((atp (acl R c ++ cls R c k) (clp R c k) + 1 : Nat) : Int)) rfl (by omega) (by omega) ?_
        refine E_ast (e := clp R c k) (N := 601) rfl (kR_24 hR) (rfl) (by omega) ?_
        refine E_s (p' := 85) (st' := aA (a + 15) :: _) rfl rfl ?_
        refine E_gA (b := a + 20) rfl rfl rfl (kR_15 hR) (hR_15_4 hR) rfl ?_
        refine E_s (p' := 89) (st' := aI ((c : Nat) : Int) :: _) rfl rfl ?_
        refine E_s (p' := 90) rfl rfl ?_
        refine E_ald (e := c) (N := 60) (v := (((cls R c k).length : Nat) : Int)) rfl (kR_20 hR) (rfl) (by omega) ((up2_ne (by omega)).trans (((hF1 _ _ (by omega)).trans (i4 (by omega))))) ?_
        refine E_s (p' := 92) (st' := aI 1 :: _) rfl rfl ?_
        refine E_add (v := (((cls R c k).length + 1 : Nat) : Int)) rfl (by omega) (by omega) ?_
        refine E_ast (e := c) (N := 60) rfl (kR_20 hR) (rfl) (by omega) ?_
        refine E_s (p' := 95) (st' := aA (a + 15) :: _) rfl rfl ?_
        refine E_s (p' := 96) (st' := aI 1 :: _) rfl rfl ?_
        refine E_pI rfl rfl rfl (kR_15 hR) (Or.inr (by decide)) ?_
        refine E_s (p' := 100) (st' := aA (a + 15) :: _) rfl rfl ?_
        refine E_s (p' := 101) (st' := aA (a + 15) :: _) rfl rfl ?_
        refine E_gI (v := (bi (aun (acl R c ++ cls R c k)))) rfl rfl rfl (kR_15 hR) ((up2_sl (by omega)).trans ((up2_ne (by omega)).trans ((up2_ne (by omega)).trans (((hF1 _ _ (by omega)).trans (i7)))))) ?_
        refine E_s (p' := 105) (st' := aA (a + 15) :: _) rfl rfl ?_
        refine E_gA (b := a + 25) rfl rfl rfl (kR_15 hR) (hR_15_9 hR) rfl ?_
        refine E_gI (v := (bi (decide (so (Cp R c k) = 0)))) rfl rfl rfl (kR_25 hR) ((up2_ne (by omega)).trans ((up2_ne (by omega)).trans ((up2_ne (by omega)).trans (hp0)))) ?_
        suffices h_2 : E 37 119 [some (aA (a + 15)), some (aA (a + 1)), some (aI ((c : Nat) : Int)), some (aI ((k : Nat) : Int))] [aI (bi (!(decide (so (Cp R c k) = 0)))), aI (bi (aun (acl R c ++ cls R c k))), aA (a + 15)] (up2 (up2 (up2 m1 (a + 24) (clp R c k) ((atp (acl R c ++ cls R c k) (clp R c k) + 1 : Nat) : Int)) (a + 20) c (((cls R c k).length + 1 : Nat) : Int)) (a + 15) 10 1, tl len) Q by
          refine E_b_ne0 (b := (decide (so (Cp R c k) = 0))) rfl (by decide) (fun h_3 => ?_) (fun h_3 => ?_)
          · refine E_go (p' := 118) (L' := [some (aA (a + 15)), some (aA (a + 1)), some (aI ((c : Nat) : Int)), some (aI ((k : Nat) : Int))]) (st' := [aI (bi (aun (acl R c ++ cls R c k))), aA (a + 15)]) rfl rfl rfl ?_
            refine E_s (p' := 119) (st' := aI 0 :: _) rfl rfl ?_
            rw [h_3] at h_2
            exact h_2
          · refine E_go (p' := 114) (L' := [some (aA (a + 15)), some (aA (a + 1)), some (aI ((c : Nat) : Int)), some (aI ((k : Nat) : Int))]) (st' := [aI (bi (aun (acl R c ++ cls R c k))), aA (a + 15)]) rfl rfl rfl ?_
            refine E_s (p' := 115) (st' := aI 1 :: _) rfl rfl ?_
            refine E_s (p' := 119) rfl rfl ?_
            rw [h_3] at h_2
            exact h_2
        refine E_orb (x := (aun (acl R c ++ cls R c k))) (y := (!(decide (so (Cp R c k) = 0)))) rfl ?_
        refine E_pI rfl rfl rfl (kR_15 hR) (Or.inr (bi01 _)) ?_
        refine E_inc (x := ((k : Nat) : Int)) (w := ((k + 1 : Nat) : Int)) (L' := [some (aA (a + 15)), some (aA (a + 1)), some (aI ((c : Nat) : Int)), some (aI ((k + 1 : Nat) : Int))]) rfl rfl rfl (by omega) (by omega) rfl ?_
        refine E_s (p' := 45) rfl rfl ?_
        refine ih (k + 1) _ (by omega) (by omega) ?_ (by rw [beg_t he1]; exact ((up2_ne (by omega)).trans ((up2_ne (by omega)).trans ((up2_ne (by omega)).trans (up2_ne (by omega))))).trans hp3)
        rw [cls_t he1, ← List.append_assoc]
        refine ⟨fun b j hb9 => ((up2_ne (by omega)).trans ((up2_ne (by omega)).trans ((up2_ne (by omega)).trans (up2_ne (by omega))))).trans ((hF1 _ _ (by omega)).trans (i1 b j hb9)), fun h hh => ?_, fun d hd9 => ((up2_o (by omega)).trans ((up2_o (by omega)).trans ((up2_o (by omega)).trans (up2_o (by omega))))).trans ((hF1 _ _ (by omega)).trans (i3 d hd9)), fun g => ?_, fun d g1 g2 => ((up2_o (by omega)).trans ((up2_o (by omega)).trans ((up2_o (by omega)).trans (up2_o (by omega))))).trans ((hF1 _ _ (by omega)).trans (i5 d g1 g2)), ?_, ?_⟩
        · rw [atp_app]
          refine (up2_ne (by omega)).trans ((up2_ne (by omega)).trans ((up2_ne (by omega)).trans ?_))
          by_cases g : h = clp R c k
          · subst g; rw [if_pos rfl]; exact up2_eq
          · rw [if_neg g]; exact (up2_sl g).trans ((hF1 _ _ (by omega)).trans (i2 h hh))
        · rw [List.length_append]; exact ((up2_ne (by omega)).trans ((up2_ne (by omega)).trans (up2_eq)))
        · exact ((up2_sl (by omega)).trans (up2_eq)).trans (by rw [isE_app]; rfl)
        · rw [aun_app]
          refine up2_eq.trans ?_
          congr 2
      · refine E_go (p' := 65) (L' := [some (aA (a + 15)), some (aA (a + 1)), some (aI ((c : Nat) : Int)), some (aI ((k : Nat) : Int))]) (st' := [aI 0]) rfl rfl rfl ?_
        refine E_s (p' := 123) rfl rfl ?_
        refine E_inc (x := ((k : Nat) : Int)) (w := ((k + 1 : Nat) : Int)) (L' := [some (aA (a + 15)), some (aA (a + 1)), some (aI ((c : Nat) : Int)), some (aI ((k + 1 : Nat) : Int))]) rfl rfl rfl (by omega) (by omega) rfl ?_
        refine E_s (p' := 45) rfl rfl ?_
        refine ih (k + 1) m1 (by omega) (by omega) ?_ (by rw [beg_f he0]; exact hp3)
        rw [cls_f he0]
        exact ⟨fun b j hb9 => (hF1 _ _ (by omega)).trans (i1 b j hb9), fun h hh => (hF1 _ _ (by omega)).trans (i2 h hh), fun d hd9 => (hF1 _ _ (by omega)).trans (i3 d hd9), fun g => (hF1 _ _ (by omega)).trans (i4 g), fun d g1 g2 => (hF1 _ _ (by omega)).trans (i5 d g1 g2), (hF1 _ _ (by omega)).trans i6, (hF1 _ _ (by omega)).trans i7⟩
theorem yl_cp28 (hR : isR a) (hC : CR R a m0) (hV : VR R) (q : ∀ m1 : Mm, CPI R a m0 m1 (RA R) (Cn R) 0 → Q none (m1, tl len)) : ∀ (d : Nat) (c : Nat) (m : Mm) (x3 : Option AV), (Cn R < c + d) → (c ≤ Cn R) → (CPI R a m0 m (acl R c) c 0) → E 37 28 [some (aA (a + 15)), some (aA (a + 1)), some (aI ((c : Nat) : Int)), x3] [] (m, tl len) Q := by
  intro d
  induction d with
  | zero => intro c m x3 hd hcn hI; omega
  | succ d ih =>
    intro c m x3 hd hcn hI
    obtain ⟨i1, i2, i3, i4, i5, i6, i7⟩ := id hI
    have hCm : CR R a m := hC.of (fun b j g1 g2 _ => i1 b j (by omega))
    have hn60 := hV.1
    have hab := isR_b hR
    refine E_s (p' := 29) (st' := aI ((c : Nat) : Int) :: _) rfl rfl ?_
    refine E_s (p' := 30) (st' := aA (a + 1) :: _) rfl rfl ?_
    refine E_gI (v := ((Cn R : Nat) : Int)) rfl rfl rfl (kR_1 hR) hCm.1 ?_
    refine E_icmp_ge (x := ((c : Nat) : Int)) (y := ((Cn R : Nat) : Int)) rfl (by decide) (fun h_1 => ?_) (fun h_1 => ?_)
    · refine E_go (p' := 135) (L' := [some (aA (a + 15)), some (aA (a + 1)), some (aI ((c : Nat) : Int)), x3]) (st' := []) rfl rfl rfl ?_
      refine E_ret rfl rfl ?_
      have ec : c = Cn R := by omega
      subst ec
      exact q m hI
    · refine E_go (p' := 36) (L' := [some (aA (a + 15)), some (aA (a + 1)), some (aI ((c : Nat) : Int)), x3]) (st' := []) rfl rfl rfl ?_
      refine E_s (p' := 37) (st' := aA (a + 15) :: _) rfl rfl ?_
      refine E_gA (b := a + 25) rfl rfl rfl (kR_15 hR) (hR_15_9 hR) rfl ?_
      refine E_callV (k' := 39) (a := a + 25) (r := []) (L0 := [some (aA (a + 25))]) rfl rfl rfl rfl rfl (kR_25 hR) rfl rfl rfl rfl ?_
      refine c_wbegin hR ?_
      refine E_go (p' := 43) (L' := [some (aA (a + 15)), some (aA (a + 1)), some (aI ((c : Nat) : Int)), x3]) (st' := []) rfl rfl rfl ?_
      refine E_s (p' := 44) (st' := aI 0 :: _) rfl rfl ?_
      refine E_s (p' := 45) (L' := [some (aA (a + 15)), some (aA (a + 1)), some (aI ((c : Nat) : Int)), some (aI 0)]) rfl rfl ?_
      refine yl_cp45 hR hC hV (by omega) (fun m1 hJ => ?_) (Ck R c + 1) 0 _ (by omega) (by omega) ?_ up2_eq
      rotate_left
      · show CPI R a m0 _ (acl R c ++ []) c 0
        rw [List.append_nil]
        exact ⟨fun b j hb9 => (up2_ne (by omega)).trans (i1 b j hb9), fun h hh => (up2_ne (by omega)).trans (i2 h hh), fun d hd9 => (up2_ne (by omega)).trans (i3 d hd9), fun g => (up2_ne (by omega)).trans (i4 g), fun d g1 g2 => (up2_ne (by omega)).trans (i5 d g1 g2), (up2_ne (by omega)).trans i6, (up2_ne (by omega)).trans i7⟩
      refine E_inc (x := ((c : Nat) : Int)) (w := ((c + 1 : Nat) : Int)) (L' := [some (aA (a + 15)), some (aA (a + 1)), some (aI ((c + 1 : Nat) : Int)), some (aI ((Ck R c : Nat) : Int))]) rfl rfl rfl (by omega) (by omega) rfl ?_
      refine E_s (p' := 28) rfl rfl ?_
      refine ih (c + 1) m1 _ (by omega) (by omega) ?_
      obtain ⟨i1, i2, i3, i4, i5, i6, i7⟩ := hJ
      exact ⟨i1, i2, fun d hd9 => by
        by_cases g : d = c
        · subst g; exact i4 (by omega)
        · exact i3 d (by omega), fun g => i5 _ (by omega) g, fun d g1 g2 => i5 d (by omega) g2, i6, i7⟩
theorem c_countPlaces (hR : isR a) (hC : CR R a m0) (hV : VR R) (q : ∀ m1 : Mm, CPI R a m0 m1 (RA R) (Cn R) 0 → Q none (m1, tl len)) : E 37 0 [some (aA (a + 15)), some (aA (a + 1)), none, none] [] (m0, tl len) Q := by
  have hab := isR_b hR
  refine E_s (p' := 1) (st' := aA (a + 15) :: _) rfl rfl ?_
  refine E_gA (b := a + 24) rfl rfl rfl (kR_15 hR) (hR_15_8 hR) rfl ?_
  refine E_s (p' := 5) (st' := aI 0 :: _) rfl rfl ?_
  refine E_callL (p' := 8) (L0 := [some (aA (a + 24)), some (aI 0), none, none]) rfl rfl rfl ?_
  refine c_fillL (N := 601) (kR_24 hR) ?_
  refine E_go (p' := 8) (L' := [some (aA (a + 15)), some (aA (a + 1)), none, none]) (st' := []) rfl rfl rfl ?_
  refine E_s (p' := 9) (st' := aA (a + 15) :: _) rfl rfl ?_
  refine E_gA (b := a + 20) rfl rfl rfl (kR_15 hR) (hR_15_4 hR) rfl ?_
  refine E_s (p' := 13) (st' := aI 0 :: _) rfl rfl ?_
  refine E_callL (p' := 16) (L0 := [some (aA (a + 20)), some (aI 0), none, none]) rfl rfl rfl ?_
  refine c_fillL (N := 60) (kR_20 hR) ?_
  refine E_go (p' := 16) (L' := [some (aA (a + 15)), some (aA (a + 1)), none, none]) (st' := []) rfl rfl rfl ?_
  refine E_s (p' := 17) (st' := aA (a + 15) :: _) rfl rfl ?_
  refine E_s (p' := 18) (st' := aI 0 :: _) rfl rfl ?_
  refine E_pI rfl rfl rfl (kR_15 hR) (Or.inr (by decide)) ?_
  refine E_s (p' := 22) (st' := aA (a + 15) :: _) rfl rfl ?_
  refine E_s (p' := 23) (st' := aI 0 :: _) rfl rfl ?_
  refine E_pI rfl rfl rfl (kR_15 hR) (Or.inr (by decide)) ?_
  refine E_s (p' := 27) (st' := aI 0 :: _) rfl rfl ?_
  refine E_s (p' := 28) (L' := [some (aA (a + 15)), some (aA (a + 1)), some (aI 0), none]) rfl rfl ?_
  refine yl_cp28 hR hC hV q (Cn R + 1) 0 _ none (by omega) (by omega) ⟨((Fx.rf.fill (by omega) (by omega)).fill (by omega) (by omega)).up (by omega) (by omega) |>.up (by omega) (by omega), fun h hh => ?_, fun d hd9 => absurd hd9 (by omega), fun g => ?_, fun d g1 g2 => ?_, ?_, ?_⟩
  · exact (up2_ne (by omega)).trans ((up2_ne (by omega)).trans ((fillm_ne (by omega)).trans (fillm_in (by omega))))
  · exact (up2_ne (by omega)).trans ((up2_ne (by omega)).trans (fillm_in (by omega)))
  · exact (up2_ne (by omega)).trans ((up2_ne (by omega)).trans (fillm_in (by omega)))
  · exact (up2_sl (by decide)).trans up2_eq
  · exact up2_eq
end

def mxv (u : Bool) : Nat := bif u then 6 else 5
section
variable {f F Lx M : Nat → Nat} {g h n : Nat}
theorem lvS_0 (h0 : f h = 0) : lvS f g (h + 1) = lvS f g h := by show (if f h = 0 then _ else _) = _; rw [if_pos h0]
theorem lvS_new (hq : lvS f g h = (n, (F, (Lx, M)))) (h0 : f h ≠ 0) (h1 : n = 0 ∨ Lx (n - 1) + g < h) : lvS f g (h + 1) = (n + 1, (upf F n h, (upf Lx n h, upf M n (f h)))) := by
  show (if f h = 0 then _ else _) = _
  rw [if_neg h0, hq, if_pos h1]
theorem lvS_old (hq : lvS f g h = (n, (F, (Lx, M)))) (h0 : f h ≠ 0) (h1 : ¬ (n = 0 ∨ Lx (n - 1) + g < h)) : lvS f g (h + 1) = (n, (F, (upf Lx (n - 1) h, upf M (n - 1) (M (n - 1) + f h)))) := by
  show (if f h = 0 then _ else _) = _
  rw [if_neg h0, hq, if_neg h1]
theorem lvS_st (f : Nat → Nat) (g h : Nat) : (lvS f g h).1 ≤ (lvS f g (h + 1)).1 := by
  show _ ≤ (if f h = 0 then _ else _ : Lv).1
  split
  · exact Nat.le_refl _
  · split
    · show _ ≤ _ + 1; omega
    · exact Nat.le_refl _
theorem lvS_mono (f : Nat → Nat) (g h : Nat) : ∀ d, (lvS f g h).1 ≤ (lvS f g (h + d)).1 := by
  intro d
  induction d with
  | zero => exact Nat.le_refl _
  | succ d ih => exact Nat.le_trans ih (lvS_st f g (h + d))
theorem lvS_me (fb : ∀ h, f h ≤ 1800) : ∀ h l, (lvS f g h).2.2.2 l ≤ 1800 * h := by
  intro h
  induction h with
  | zero => intro l; exact Nat.le_refl _
  | succ h ih =>
    intro l
    have hf := fb h
    obtain ⟨n, F, Lx, M, hq⟩ : ∃ n F Lx M, lvS f g h = (n, (F, (Lx, M))) := ⟨_, _, _, _, rfl⟩
    have ih' : ∀ l, M l ≤ 1800 * h := fun l => by have := ih l; rw [hq] at this; exact this
    by_cases h0 : f h = 0
    · rw [lvS_0 h0, hq]; have := ih' l; show M l ≤ _; omega
    · by_cases h1 : n = 0 ∨ Lx (n - 1) + g < h
      · rw [lvS_new hq h0 h1]
        show upf M n (f h) l ≤ _
        unfold upf
        have := ih' l
        split <;> omega
      · rw [lvS_old hq h0 h1]
        show upf M (n - 1) (M (n - 1) + f h) l ≤ _
        unfold upf
        have := ih' l
        have := ih' (n - 1)
        split <;> omega
theorem lvS_la : ∀ h l, (lvS f g h).2.2.1 l ≤ h := by
  intro h
  induction h with
  | zero => intro l; exact Nat.le_refl _
  | succ h ih =>
    intro l
    obtain ⟨n, F, Lx, M, hq⟩ : ∃ n F Lx M, lvS f g h = (n, (F, (Lx, M))) := ⟨_, _, _, _, rfl⟩
    have ih' : ∀ l, Lx l ≤ h := fun l => by have := ih l; rw [hq] at this; exact this
    have := ih' l
    by_cases h0 : f h = 0
    · rw [lvS_0 h0, hq]; show Lx l ≤ _; omega
    · by_cases h1 : n = 0 ∨ Lx (n - 1) + g < h
      · rw [lvS_new hq h0 h1]
        show upf Lx n h l ≤ _
        unfold upf
        split <;> omega
      · rw [lvS_old hq h0 h1]
        show upf Lx (n - 1) h l ≤ _
        unfold upf
        split <;> omega
end
section
variable {len : Nat} {m : Mm} {Q : Option AV → Sx → Prop} {R : RD} {a : Nat} {u : Bool}
theorem c_mostLevels (hR : isR a) (hu : m (a + 15) 11 = bi u) (q : Q (some (aI (mxv u : Int))) (m, tl len)) : E 44 0 [some (aA (a + 15))] [] (m, tl len) Q := by
  refine E_s (p' := 1) (st' := aA (a + 15) :: _) rfl rfl ?_
  refine E_gI (v := (bi u)) rfl rfl rfl (kR_15 hR) hu ?_
  refine E_b_eq0 (b := u) rfl (by decide) (fun h_1 => ?_) (fun h_1 => ?_)
  · refine E_go (p' := 12) (L' := [some (aA (a + 15))]) (st' := []) rfl rfl rfl ?_
    refine E_s (p' := 13) (st' := aI 5 :: _) rfl rfl ?_
    refine E_ret rfl rfl ?_
    rw [h_1] at q
    exact q
  · refine E_go (p' := 7) (L' := [some (aA (a + 15))]) (st' := []) rfl rfl rfl ?_
    refine E_s (p' := 9) (st' := aI 6 :: _) rfl rfl ?_
    refine E_s (p' := 13) rfl rfl ?_
    refine E_ret rfl rfl ?_
    rw [h_1] at q
    exact q
end
section
variable {len : Nat} {m0 : Mm} {Q : Option AV → Sx → Prop} {a g : Nat} {u : Bool} {f : Nat → Nat}
theorem yl_fl (hR : isR a) (hf : ∀ h, h < 601 → m0 (a + 24) h = (f h : Int)) (hu : m0 (a + 15) 11 = bi u) (fb : ∀ h, f h ≤ 1800) (hg : g ≤ 100) (q : ∀ m1 : Mm, Fx (a + 15) (a + 19) m0 m1 → (∀ j, j ≠ 12 → m1 (a + 15) j = m0 (a + 15) j) → m1 (a + 15) 12 = ((if mxv u < (lvS f g 601).1 then 0 else (lvS f g 601).1 : Nat) : Int) → (¬ mxv u < (lvS f g 601).1 → ∀ l, l < (lvS f g 601).1 → m1 (a + 16) l = ((lvS f g 601).2.1 l : Int) ∧ m1 (a + 17) l = ((lvS f g 601).2.2.1 l : Int) ∧ m1 (a + 19) l = ((lvS f g 601).2.2.2 l : Int)) → Q none (m1, tl len)) : ∀ (d : Nat) (h n : Nat) (F Lx M : Nat → Nat) (m : Mm), (601 < h + d) → (1 ≤ h ∧ h ≤ 601) → (lvS f g h = (n, (F, (Lx, M)))) → (n ≤ mxv u) → (m (a + 15) 12 = (n : Int)) → (∀ l, l < n → m (a + 16) l = (F l : Int) ∧ m (a + 17) l = (Lx l : Int) ∧ m (a + 19) l = (M l : Int)) → (Fx (a + 15) (a + 19) m0 m) → (∀ j, j ≠ 12 → m (a + 15) j = m0 (a + 15) j) → E 43 7 [some (aA (a + 15)), some (aI ((g : Nat) : Int)), some (aI ((h : Nat) : Int))] [] (m, tl len) Q := by
  intro d
  induction d with
  | zero => intro h n F Lx M m hd hh hq hn I0 I1 I2 I3; omega
  | succ d ih =>
    intro h n F Lx M m hd hh hq hn I0 I1 I2 I3
    have hab := isR_b hR
    have hmx : mxv u = 5 ∨ mxv u = 6 := by cases u; exact Or.inl rfl; exact Or.inr rfl
    have hme : ∀ l, M l ≤ 1800 * h := fun l => by have := lvS_me (g := g) fb h l; rw [hq] at this; exact this
    have hmn := hme (n - 1)
    have hlm : Lx (n - 1) ≤ h := by have := lvS_la (f := f) (g := g) h (n - 1); rw [hq] at this; exact this
    refine E_s (p' := 8) (st' := aI ((h : Nat) : Int) :: _) rfl rfl ?_
    refine E_s (p' := 11) (st' := aI 600 :: _) rfl rfl ?_
    refine E_icmp_gt (x := ((h : Nat) : Int)) (y := 600) rfl (by decide) (fun h_1 => ?_) (fun h_1 => ?_)
    · refine E_go (p' := 135) (L' := [some (aA (a + 15)), some (aI ((g : Nat) : Int)), some (aI ((h : Nat) : Int))]) (st' := []) rfl rfl rfl ?_
      refine E_ret rfl rfl ?_
      have eh : h = 601 := by omega
      subst eh
      rw [hq] at q
      exact q m I2 I3 (I0.trans (by rw [if_neg (show ¬ mxv u < n by omega)])) (fun _ => I1)
    · refine E_go (p' := 14) (L' := [some (aA (a + 15)), some (aI ((g : Nat) : Int)), some (aI ((h : Nat) : Int))]) (st' := []) rfl rfl rfl ?_
      have hfh := fb h
      refine E_s (p' := 15) (st' := aA (a + 15) :: _) rfl rfl ?_
      refine E_gA (b := a + 24) rfl rfl rfl (kR_15 hR) (hR_15_8 hR) rfl ?_
      refine E_s (p' := 19) (st' := aI ((h : Nat) : Int) :: _) rfl rfl ?_
      refine E_ald (e := h) (N := 601) (v := ((f h : Nat) : Int)) rfl (kR_24 hR) (rfl) (by omega) ((I2 _ _ (by omega)).trans (hf _ (by omega))) ?_
      refine E_if_ne (x := ((f h : Nat) : Int)) rfl (by decide) (fun h_2 => ?_) (fun h_2 => ?_)
      · refine E_go (p' := 26) (L' := [some (aA (a + 15)), some (aI ((g : Nat) : Int)), some (aI ((h : Nat) : Int))]) (st' := []) rfl rfl rfl ?_
        refine E_s (p' := 27) (st' := aA (a + 15) :: _) rfl rfl ?_
        refine E_gI (v := ((n : Nat) : Int)) rfl rfl rfl (kR_15 hR) I0 ?_
        refine E_if_eq (x := ((n : Nat) : Int)) rfl (by decide) (fun h_3 => ?_) (fun h_3 => ?_)
        · refine E_go (p' := 50) (L' := [some (aA (a + 15)), some (aI ((g : Nat) : Int)), some (aI ((h : Nat) : Int))]) (st' := []) rfl rfl rfl ?_
          refine E_s (p' := 51) (st' := aA (a + 15) :: _) rfl rfl ?_
          refine E_gI (v := ((n : Nat) : Int)) rfl rfl rfl (kR_15 hR) I0 ?_
          refine E_s (p' := 55) (st' := aA (a + 15) :: _) rfl rfl ?_
          refine E_callV (k' := 44) (a := a + 15) (r := [aI ((n : Nat) : Int)]) (L0 := [some (aA (a + 15))]) rfl rfl rfl rfl rfl (kR_15 hR) rfl rfl rfl rfl ?_
          refine c_mostLevels hR ((I3 _ (by decide)).trans hu) ?_
          refine E_go (p' := 58) (L' := [some (aA (a + 15)), some (aI ((g : Nat) : Int)), some (aI ((h : Nat) : Int))]) (st' := [aI ((mxv u : Nat) : Int), aI ((n : Nat) : Int)]) rfl rfl rfl ?_
          refine E_icmp_ne (x := ((n : Nat) : Int)) (y := ((mxv u : Nat) : Int)) rfl (by decide) (fun h_4 => ?_) (fun h_4 => ?_)
          · refine E_go (p' := 67) (L' := [some (aA (a + 15)), some (aI ((g : Nat) : Int)), some (aI ((h : Nat) : Int))]) (st' := []) rfl rfl rfl ?_
            refine E_s (p' := 68) (st' := aA (a + 15) :: _) rfl rfl ?_
            refine E_gA (b := a + 16) rfl rfl rfl (kR_15 hR) (hR_15_0 hR) rfl ?_
            refine E_s (p' := 72) (st' := aA (a + 15) :: _) rfl rfl ?_
            refine E_gI (v := ((n : Nat) : Int)) rfl rfl rfl (kR_15 hR) I0 ?_
            refine E_s (p' := 76) (st' := aI ((h : Nat) : Int) :: _) rfl rfl ?_
            refine E_ast (e := n) (N := 6) rfl (kR_16 hR) (rfl) (by omega) ?_
            refine E_s (p' := 78) (st' := aA (a + 15) :: _) rfl rfl ?_
            refine E_gA (b := a + 19) rfl rfl rfl (kR_15 hR) (hR_15_3 hR) rfl ?_
            refine E_s (p' := 82) (st' := aA (a + 15) :: _) rfl rfl ?_
            refine E_gI (v := ((n : Nat) : Int)) rfl rfl rfl (kR_15 hR) ((up2_ne (by omega)).trans (I0)) ?_
            refine E_s (p' := 86) (st' := aI 0 :: _) rfl rfl ?_
            refine E_ast (e := n) (N := 6) rfl (kR_19 hR) (rfl) (by omega) ?_
            refine E_s (p' := 88) (st' := aA (a + 15) :: _) rfl rfl ?_
            refine E_s (p' := 89) (st' := aA (a + 15) :: _) rfl rfl ?_
            refine E_gI (v := ((n : Nat) : Int)) rfl rfl rfl (kR_15 hR) ((up2_ne (by omega)).trans ((up2_ne (by omega)).trans (I0))) ?_
            refine E_s (p' := 93) (st' := aI 1 :: _) rfl rfl ?_
            refine E_add (v := ((n + 1 : Nat) : Int)) rfl (by omega) (by omega) ?_
            refine E_pI rfl rfl rfl (kR_15 hR) (Or.inl rfl) ?_
            refine E_s (p' := 98) (st' := aA (a + 15) :: _) rfl rfl ?_
            refine E_gA (b := a + 17) rfl rfl rfl (kR_15 hR) (hR_15_1 hR) rfl ?_
            refine E_s (p' := 102) (st' := aA (a + 15) :: _) rfl rfl ?_
            refine E_gI (v := ((n + 1 : Nat) : Int)) rfl rfl rfl (kR_15 hR) up2_eq ?_
            refine E_s (p' := 106) (st' := aI 1 :: _) rfl rfl ?_
            refine E_sub (v := ((n : Nat) : Int)) rfl (by omega) (by omega) ?_
            refine E_s (p' := 108) (st' := aI ((h : Nat) : Int) :: _) rfl rfl ?_
            refine E_ast (e := n) (N := 6) rfl (kR_17 hR) (rfl) (by omega) ?_
            refine E_s (p' := 110) (st' := aA (a + 15) :: _) rfl rfl ?_
            refine E_gA (b := a + 19) rfl rfl rfl (kR_15 hR) (hR_15_3 hR) rfl ?_
            refine E_s (p' := 114) (st' := aA (a + 15) :: _) rfl rfl ?_
            refine E_gI (v := ((n + 1 : Nat) : Int)) rfl rfl rfl (kR_15 hR) ((up2_ne (by omega)).trans (up2_eq)) ?_
            refine E_s (p' := 118) (st' := aI 1 :: _) rfl rfl ?_
            refine E_sub (v := ((n : Nat) : Int)) rfl (by omega) (by omega) ?_
            refine E_s (p' := 120) rfl rfl ?_
            refine E_ald (e := n) (N := 6) (v := 0) rfl (kR_19 hR) (rfl) (by omega) ((up2_ne (by omega)).trans ((up2_ne (by omega)).trans (up2_eq))) ?_
            refine E_s (p' := 122) (st' := aA (a + 15) :: _) rfl rfl ?_
            refine E_gA (b := a + 24) rfl rfl rfl (kR_15 hR) (hR_15_8 hR) rfl ?_
            refine E_s (p' := 126) (st' := aI ((h : Nat) : Int) :: _) rfl rfl ?_
            refine E_ald (e := h) (N := 601) (v := ((f h : Nat) : Int)) rfl (kR_24 hR) (rfl) (by omega) ((up2_ne (by omega)).trans ((up2_ne (by omega)).trans ((up2_ne (by omega)).trans ((up2_ne (by omega)).trans (((I2 _ _ (by omega)).trans (hf _ (by omega)))))))) ?_
            refine E_add (v := ((f h : Nat) : Int)) rfl (by omega) (by omega) ?_
            refine E_ast (e := n) (N := 6) rfl (kR_19 hR) (rfl) (by omega) ?_
            refine E_inc (x := ((h : Nat) : Int)) (w := ((h + 1 : Nat) : Int)) (L' := [some (aA (a + 15)), some (aI ((g : Nat) : Int)), some (aI ((h + 1 : Nat) : Int))]) rfl rfl rfl (by omega) (by omega) rfl ?_
            refine E_s (p' := 7) rfl rfl ?_
            refine ih (h + 1) (n + 1) (upf F n h) (upf Lx n h) (upf M n (f h)) _ (by omega) (by omega) (lvS_new hq (by omega) (by omega)) (by omega) ((up2_ne (by omega)).trans ((up2_ne (by omega)).trans (up2_eq))) (fun l hl => ?_) (((((I2.up (by omega) (by omega)).up (by omega) (by omega)).up (by omega) (by omega)).up (by omega) (by omega)).up (by omega) (by omega)) (fun j hj => ((up2_o (by omega)).trans ((up2_o (by omega)).trans ((up2_o (by omega)).trans ((up2_o (by omega)).trans (up2_o (by omega)))))).trans (I3 j hj))
            by_cases g9 : l = n
            · subst g9
              rw [upf_eq, upf_eq, upf_eq]
              exact ⟨((up2_ne (by omega)).trans ((up2_ne (by omega)).trans ((up2_ne (by omega)).trans ((up2_ne (by omega)).trans (up2_eq))))), ((up2_ne (by omega)).trans (up2_eq)), (up2_eq)⟩
            · rw [upf_ne g9, upf_ne g9, upf_ne g9]
              obtain ⟨g1, g2, g3⟩ := I1 l (by omega)
              exact ⟨((up2_o (by omega)).trans ((up2_o (by omega)).trans ((up2_o (by omega)).trans ((up2_o (by omega)).trans (up2_o (by omega)))))).trans g1, ((up2_o (by omega)).trans ((up2_o (by omega)).trans ((up2_o (by omega)).trans ((up2_o (by omega)).trans (up2_o (by omega)))))).trans g2, ((up2_o (by omega)).trans ((up2_o (by omega)).trans ((up2_o (by omega)).trans ((up2_o (by omega)).trans (up2_o (by omega)))))).trans g3⟩
          · refine E_go (p' := 61) (L' := [some (aA (a + 15)), some (aI ((g : Nat) : Int)), some (aI ((h : Nat) : Int))]) (st' := []) rfl rfl rfl ?_
            refine E_s (p' := 62) (st' := aA (a + 15) :: _) rfl rfl ?_
            refine E_s (p' := 63) (st' := aI 0 :: _) rfl rfl ?_
            refine E_pI rfl rfl rfl (kR_15 hR) (Or.inl rfl) ?_
            refine E_ret rfl rfl ?_
            have hst : n + 1 ≤ (lvS f g 601).1 := by
              have h1 := lvS_mono f g (h + 1) (600 - h)
              rw [show h + 1 + (600 - h) = 601 by omega, lvS_new hq (by omega) (by omega)] at h1
              exact h1
            exact q _ ((I2.up (by omega) (by omega))) (fun j hj => (up2_sl hj).trans (I3 j hj)) (up2_eq.trans (by rw [if_pos (by omega)]; rfl)) (fun g9 => absurd g9 (by omega))
        · refine E_go (p' := 33) (L' := [some (aA (a + 15)), some (aI ((g : Nat) : Int)), some (aI ((h : Nat) : Int))]) (st' := []) rfl rfl rfl ?_
          refine E_s (p' := 34) (st' := aI ((h : Nat) : Int) :: _) rfl rfl ?_
          refine E_s (p' := 35) (st' := aA (a + 15) :: _) rfl rfl ?_
          refine E_gA (b := a + 17) rfl rfl rfl (kR_15 hR) (hR_15_1 hR) rfl ?_
          refine E_s (p' := 39) (st' := aA (a + 15) :: _) rfl rfl ?_
          refine E_gI (v := ((n : Nat) : Int)) rfl rfl rfl (kR_15 hR) I0 ?_
          refine E_s (p' := 43) (st' := aI 1 :: _) rfl rfl ?_
          refine E_sub (v := ((n : Int) - 1)) rfl (by omega) (by omega) ?_
          refine E_ald (e := ((n : Int) - 1).toNat) (N := 6) (v := ((Lx (n - 1) : Nat) : Int)) rfl (kR_17 hR) (by omega) (by omega) (by rw [show ((n : Int) - 1).toNat = n - 1 by omega]; exact (I1 (n - 1) (by omega)).2.1) ?_
          refine E_sub (v := ((h : Int) - (Lx (n - 1) : Int))) rfl (by omega) (by omega) ?_
          refine E_s (p' := 47) (st' := aI ((g : Nat) : Int) :: _) rfl rfl ?_
          refine E_icmp_le (x := ((h : Int) - (Lx (n - 1) : Int))) (y := ((g : Nat) : Int)) rfl (by decide) (fun h_5 => ?_) (fun h_5 => ?_)
          · refine E_go (p' := 97) (L' := [some (aA (a + 15)), some (aI ((g : Nat) : Int)), some (aI ((h : Nat) : Int))]) (st' := []) rfl rfl rfl ?_
            refine E_s (p' := 98) (st' := aA (a + 15) :: _) rfl rfl ?_
            refine E_gA (b := a + 17) rfl rfl rfl (kR_15 hR) (hR_15_1 hR) rfl ?_
            refine E_s (p' := 102) (st' := aA (a + 15) :: _) rfl rfl ?_
            refine E_gI (v := ((n : Nat) : Int)) rfl rfl rfl (kR_15 hR) I0 ?_
            refine E_s (p' := 106) (st' := aI 1 :: _) rfl rfl ?_
            refine E_sub (v := ((n : Int) - 1)) rfl (by omega) (by omega) ?_
            refine E_s (p' := 108) (st' := aI ((h : Nat) : Int) :: _) rfl rfl ?_
            refine E_ast (e := ((n : Int) - 1).toNat) (N := 6) rfl (kR_17 hR) (by omega) (by omega) ?_
            refine E_s (p' := 110) (st' := aA (a + 15) :: _) rfl rfl ?_
            refine E_gA (b := a + 19) rfl rfl rfl (kR_15 hR) (hR_15_3 hR) rfl ?_
            refine E_s (p' := 114) (st' := aA (a + 15) :: _) rfl rfl ?_
            refine E_gI (v := ((n : Nat) : Int)) rfl rfl rfl (kR_15 hR) ((up2_ne (by omega)).trans (I0)) ?_
            refine E_s (p' := 118) (st' := aI 1 :: _) rfl rfl ?_
            refine E_sub (v := ((n : Int) - 1)) rfl (by omega) (by omega) ?_
            refine E_s (p' := 120) rfl rfl ?_
            refine E_ald (e := ((n : Int) - 1).toNat) (N := 6) (v := ((M (n - 1) : Nat) : Int)) rfl (kR_19 hR) (by omega) (by omega) ((up2_ne (by omega)).trans ((by rw [show ((n : Int) - 1).toNat = n - 1 by omega]; exact (I1 (n - 1) (by omega)).2.2))) ?_
            refine E_s (p' := 122) (st' := aA (a + 15) :: _) rfl rfl ?_
            refine E_gA (b := a + 24) rfl rfl rfl (kR_15 hR) (hR_15_8 hR) rfl ?_
            refine E_s (p' := 126) (st' := aI ((h : Nat) : Int) :: _) rfl rfl ?_
            refine E_ald (e := h) (N := 601) (v := ((f h : Nat) : Int)) rfl (kR_24 hR) (rfl) (by omega) ((up2_ne (by omega)).trans (((I2 _ _ (by omega)).trans (hf _ (by omega))))) ?_
            refine E_add (v := ((M (n - 1) + f h : Nat) : Int)) rfl (by omega) (by omega) ?_
            refine E_ast (e := ((n : Int) - 1).toNat) (N := 6) rfl (kR_19 hR) (by omega) (by omega) ?_
            refine E_inc (x := ((h : Nat) : Int)) (w := ((h + 1 : Nat) : Int)) (L' := [some (aA (a + 15)), some (aI ((g : Nat) : Int)), some (aI ((h + 1 : Nat) : Int))]) rfl rfl rfl (by omega) (by omega) rfl ?_
            refine E_s (p' := 7) rfl rfl ?_
            have en : ((n : Int) - 1).toNat = n - 1 := by omega
            rw [en]
            refine ih (h + 1) n F (upf Lx (n - 1) h) (upf M (n - 1) (M (n - 1) + f h)) _ (by omega) (by omega) (lvS_old hq (by omega) (by omega)) hn (((up2_ne (by omega)).trans (up2_ne (by omega))).trans I0) (fun l hl => ⟨((up2_ne (by omega)).trans (up2_ne (by omega))).trans (I1 l hl).1, ?_, ?_⟩) ((I2.up (by omega) (by omega)).up (by omega) (by omega)) (fun j hj => ((up2_ne (by omega)).trans (up2_ne (by omega))).trans (I3 j hj))
            · refine (up2_ne (by omega)).trans ?_
              by_cases g9 : l = n - 1
              · rw [g9, upf_eq]; exact up2_eq
              · rw [upf_ne g9]; exact (up2_sl g9).trans (I1 l hl).2.1
            · by_cases g9 : l = n - 1
              · rw [g9, upf_eq]; exact up2_eq
              · rw [upf_ne g9]; exact (up2_sl g9).trans ((up2_ne (by omega)).trans (I1 l hl).2.2)
          · refine E_go (p' := 50) (L' := [some (aA (a + 15)), some (aI ((g : Nat) : Int)), some (aI ((h : Nat) : Int))]) (st' := []) rfl rfl rfl ?_
            refine E_s (p' := 51) (st' := aA (a + 15) :: _) rfl rfl ?_
            refine E_gI (v := ((n : Nat) : Int)) rfl rfl rfl (kR_15 hR) I0 ?_
            refine E_s (p' := 55) (st' := aA (a + 15) :: _) rfl rfl ?_
            refine E_callV (k' := 44) (a := a + 15) (r := [aI ((n : Nat) : Int)]) (L0 := [some (aA (a + 15))]) rfl rfl rfl rfl rfl (kR_15 hR) rfl rfl rfl rfl ?_
            refine c_mostLevels hR ((I3 _ (by decide)).trans hu) ?_
            refine E_go (p' := 58) (L' := [some (aA (a + 15)), some (aI ((g : Nat) : Int)), some (aI ((h : Nat) : Int))]) (st' := [aI ((mxv u : Nat) : Int), aI ((n : Nat) : Int)]) rfl rfl rfl ?_
            refine E_icmp_ne (x := ((n : Nat) : Int)) (y := ((mxv u : Nat) : Int)) rfl (by decide) (fun h_6 => ?_) (fun h_6 => ?_)
            · refine E_go (p' := 67) (L' := [some (aA (a + 15)), some (aI ((g : Nat) : Int)), some (aI ((h : Nat) : Int))]) (st' := []) rfl rfl rfl ?_
              refine E_s (p' := 68) (st' := aA (a + 15) :: _) rfl rfl ?_
              refine E_gA (b := a + 16) rfl rfl rfl (kR_15 hR) (hR_15_0 hR) rfl ?_
              refine E_s (p' := 72) (st' := aA (a + 15) :: _) rfl rfl ?_
              refine E_gI (v := ((n : Nat) : Int)) rfl rfl rfl (kR_15 hR) I0 ?_
              refine E_s (p' := 76) (st' := aI ((h : Nat) : Int) :: _) rfl rfl ?_
              refine E_ast (e := n) (N := 6) rfl (kR_16 hR) (rfl) (by omega) ?_
              refine E_s (p' := 78) (st' := aA (a + 15) :: _) rfl rfl ?_
              refine E_gA (b := a + 19) rfl rfl rfl (kR_15 hR) (hR_15_3 hR) rfl ?_
              refine E_s (p' := 82) (st' := aA (a + 15) :: _) rfl rfl ?_
              refine E_gI (v := ((n : Nat) : Int)) rfl rfl rfl (kR_15 hR) ((up2_ne (by omega)).trans (I0)) ?_
              refine E_s (p' := 86) (st' := aI 0 :: _) rfl rfl ?_
              refine E_ast (e := n) (N := 6) rfl (kR_19 hR) (rfl) (by omega) ?_
              refine E_s (p' := 88) (st' := aA (a + 15) :: _) rfl rfl ?_
              refine E_s (p' := 89) (st' := aA (a + 15) :: _) rfl rfl ?_
              refine E_gI (v := ((n : Nat) : Int)) rfl rfl rfl (kR_15 hR) ((up2_ne (by omega)).trans ((up2_ne (by omega)).trans (I0))) ?_
              refine E_s (p' := 93) (st' := aI 1 :: _) rfl rfl ?_
              refine E_add (v := ((n + 1 : Nat) : Int)) rfl (by omega) (by omega) ?_
              refine E_pI rfl rfl rfl (kR_15 hR) (Or.inl rfl) ?_
              refine E_s (p' := 98) (st' := aA (a + 15) :: _) rfl rfl ?_
              refine E_gA (b := a + 17) rfl rfl rfl (kR_15 hR) (hR_15_1 hR) rfl ?_
              refine E_s (p' := 102) (st' := aA (a + 15) :: _) rfl rfl ?_
              refine E_gI (v := ((n + 1 : Nat) : Int)) rfl rfl rfl (kR_15 hR) up2_eq ?_
              refine E_s (p' := 106) (st' := aI 1 :: _) rfl rfl ?_
              refine E_sub (v := ((n : Nat) : Int)) rfl (by omega) (by omega) ?_
              refine E_s (p' := 108) (st' := aI ((h : Nat) : Int) :: _) rfl rfl ?_
              refine E_ast (e := n) (N := 6) rfl (kR_17 hR) (rfl) (by omega) ?_
              refine E_s (p' := 110) (st' := aA (a + 15) :: _) rfl rfl ?_
              refine E_gA (b := a + 19) rfl rfl rfl (kR_15 hR) (hR_15_3 hR) rfl ?_
              refine E_s (p' := 114) (st' := aA (a + 15) :: _) rfl rfl ?_
              refine E_gI (v := ((n + 1 : Nat) : Int)) rfl rfl rfl (kR_15 hR) ((up2_ne (by omega)).trans (up2_eq)) ?_
              refine E_s (p' := 118) (st' := aI 1 :: _) rfl rfl ?_
              refine E_sub (v := ((n : Nat) : Int)) rfl (by omega) (by omega) ?_
              refine E_s (p' := 120) rfl rfl ?_
              refine E_ald (e := n) (N := 6) (v := 0) rfl (kR_19 hR) (rfl) (by omega) ((up2_ne (by omega)).trans ((up2_ne (by omega)).trans (up2_eq))) ?_
              refine E_s (p' := 122) (st' := aA (a + 15) :: _) rfl rfl ?_
              refine E_gA (b := a + 24) rfl rfl rfl (kR_15 hR) (hR_15_8 hR) rfl ?_
              refine E_s (p' := 126) (st' := aI ((h : Nat) : Int) :: _) rfl rfl ?_
              refine E_ald (e := h) (N := 601) (v := ((f h : Nat) : Int)) rfl (kR_24 hR) (rfl) (by omega) ((up2_ne (by omega)).trans ((up2_ne (by omega)).trans ((up2_ne (by omega)).trans ((up2_ne (by omega)).trans (((I2 _ _ (by omega)).trans (hf _ (by omega)))))))) ?_
              refine E_add (v := ((f h : Nat) : Int)) rfl (by omega) (by omega) ?_
              refine E_ast (e := n) (N := 6) rfl (kR_19 hR) (rfl) (by omega) ?_
              refine E_inc (x := ((h : Nat) : Int)) (w := ((h + 1 : Nat) : Int)) (L' := [some (aA (a + 15)), some (aI ((g : Nat) : Int)), some (aI ((h + 1 : Nat) : Int))]) rfl rfl rfl (by omega) (by omega) rfl ?_
              refine E_s (p' := 7) rfl rfl ?_
              refine ih (h + 1) (n + 1) (upf F n h) (upf Lx n h) (upf M n (f h)) _ (by omega) (by omega) (lvS_new hq (by omega) (by omega)) (by omega) ((up2_ne (by omega)).trans ((up2_ne (by omega)).trans (up2_eq))) (fun l hl => ?_) (((((I2.up (by omega) (by omega)).up (by omega) (by omega)).up (by omega) (by omega)).up (by omega) (by omega)).up (by omega) (by omega)) (fun j hj => ((up2_o (by omega)).trans ((up2_o (by omega)).trans ((up2_o (by omega)).trans ((up2_o (by omega)).trans (up2_o (by omega)))))).trans (I3 j hj))
              by_cases g9 : l = n
              · subst g9
                rw [upf_eq, upf_eq, upf_eq]
                exact ⟨((up2_ne (by omega)).trans ((up2_ne (by omega)).trans ((up2_ne (by omega)).trans ((up2_ne (by omega)).trans (up2_eq))))), ((up2_ne (by omega)).trans (up2_eq)), (up2_eq)⟩
              · rw [upf_ne g9, upf_ne g9, upf_ne g9]
                obtain ⟨g1, g2, g3⟩ := I1 l (by omega)
                exact ⟨((up2_o (by omega)).trans ((up2_o (by omega)).trans ((up2_o (by omega)).trans ((up2_o (by omega)).trans (up2_o (by omega)))))).trans g1, ((up2_o (by omega)).trans ((up2_o (by omega)).trans ((up2_o (by omega)).trans ((up2_o (by omega)).trans (up2_o (by omega)))))).trans g2, ((up2_o (by omega)).trans ((up2_o (by omega)).trans ((up2_o (by omega)).trans ((up2_o (by omega)).trans (up2_o (by omega)))))).trans g3⟩
            · refine E_go (p' := 61) (L' := [some (aA (a + 15)), some (aI ((g : Nat) : Int)), some (aI ((h : Nat) : Int))]) (st' := []) rfl rfl rfl ?_
              refine E_s (p' := 62) (st' := aA (a + 15) :: _) rfl rfl ?_
              refine E_s (p' := 63) (st' := aI 0 :: _) rfl rfl ?_
              refine E_pI rfl rfl rfl (kR_15 hR) (Or.inl rfl) ?_
              refine E_ret rfl rfl ?_
              have hst : n + 1 ≤ (lvS f g 601).1 := by
                have h1 := lvS_mono f g (h + 1) (600 - h)
                rw [show h + 1 + (600 - h) = 601 by omega, lvS_new hq (by omega) (by omega)] at h1
                exact h1
              exact q _ ((I2.up (by omega) (by omega))) (fun j hj => (up2_sl hj).trans (I3 j hj)) (up2_eq.trans (by rw [if_pos (by omega)]; rfl)) (fun g9 => absurd g9 (by omega))
      · refine E_go (p' := 23) (L' := [some (aA (a + 15)), some (aI ((g : Nat) : Int)), some (aI ((h : Nat) : Int))]) (st' := []) rfl rfl rfl ?_
        refine E_s (p' := 129) rfl rfl ?_
        refine E_inc (x := ((h : Nat) : Int)) (w := ((h + 1 : Nat) : Int)) (L' := [some (aA (a + 15)), some (aI ((g : Nat) : Int)), some (aI ((h + 1 : Nat) : Int))]) rfl rfl rfl (by omega) (by omega) rfl ?_
        refine E_s (p' := 7) rfl rfl ?_
        exact ih (h + 1) n F Lx M m (by omega) (by omega) (by rw [lvS_0 (by omega)]; exact hq) hn I0 I1 I2 I3
theorem c_findLevels (hR : isR a) (hf : ∀ h, h < 601 → m0 (a + 24) h = (f h : Int)) (hu : m0 (a + 15) 11 = bi u) (fb : ∀ h, f h ≤ 1800) (hg : g ≤ 100) (f0 : f 0 = 0) (q : ∀ m1 : Mm, Fx (a + 15) (a + 19) m0 m1 → (∀ j, j ≠ 12 → m1 (a + 15) j = m0 (a + 15) j) → m1 (a + 15) 12 = ((if mxv u < (lvS f g 601).1 then 0 else (lvS f g 601).1 : Nat) : Int) → (¬ mxv u < (lvS f g 601).1 → ∀ l, l < (lvS f g 601).1 → m1 (a + 16) l = ((lvS f g 601).2.1 l : Int) ∧ m1 (a + 17) l = ((lvS f g 601).2.2.1 l : Int) ∧ m1 (a + 19) l = ((lvS f g 601).2.2.2 l : Int)) → Q none (m1, tl len)) : E 43 0 [some (aA (a + 15)), some (aI ((g : Nat) : Int)), none] [] (m0, tl len) Q := by
  refine E_s (p' := 1) (st' := aA (a + 15) :: _) rfl rfl ?_
  refine E_s (p' := 2) (st' := aI 0 :: _) rfl rfl ?_
  refine E_pI rfl rfl rfl (kR_15 hR) (Or.inl rfl) ?_
  refine E_s (p' := 6) (st' := aI 1 :: _) rfl rfl ?_
  refine E_s (p' := 7) (L' := [some (aA (a + 15)), some (aI ((g : Nat) : Int)), some (aI 1)]) rfl rfl ?_
  exact yl_fl hR hf hu fb hg q 602 1 0 (fun _ => 0) (fun _ => 0) (fun _ => 0) _ (by omega) (by omega) (by rw [lvS_0 f0]; rfl) (Nat.zero_le _) up2_eq (fun l hl => absurd hl (by omega)) (Fx.rf.up (by omega) (by omega)) (fun j hj => up2_sl hj)
end
section
variable {len : Nat} {m0 : Mm} {Q : Option AV → Sx → Prop} {a n : Nat} {u : Bool}
def wtv (u : Bool) : Nat := bif u then 1 else 10
theorem pw_le {n l : Nat} {u : Bool} (hn : n ≤ mxv u) (hl : l ≤ n) : 10 ^ l * wtv u ≤ 1000000 := by
  have h1 : 10 ^ l ≤ 10 ^ (mxv u) := Nat.pow_le_pow_right (by decide) (by omega)
  cases u
  · exact Nat.le_trans (Nat.mul_le_mul_right _ h1) (by decide)
  · exact Nat.le_trans (Nat.mul_le_mul_right _ h1) (by decide)
theorem yl_cl (hR : isR a) (hn : n ≤ mxv u) (hl : m0 (a + 15) 12 = (n : Int)) (hu : m0 (a + 15) 11 = bi u) (q : ∀ m1 : Mm, Fx (a + 18) (a + 18) m0 m1 → (∀ l, l < n → m1 (a + 18) l = ((10 ^ (n - 1 - l) * wtv u : Nat) : Int)) → Q none (m1, tl len)) : ∀ (d : Nat) (j w : Nat) (m : Mm), (j < d) → (j ≤ n) → (w = 10 ^ (n - j) * wtv u) → (Fx (a + 18) (a + 18) m0 m) → (∀ l, j ≤ l → l < n → m (a + 18) l = ((10 ^ (n - 1 - l) * wtv u : Nat) : Int)) → E 46 21 [some (aA (a + 15)), some (aI ((w : Nat) : Int)), some (aI ((j : Int) - 1))] [] (m, tl len) Q := by
  intro d
  induction d with
  | zero => intro j w m hd hj hw I1 I2; omega
  | succ d ih =>
    intro j w m hd hj hw I1 I2
    have hab := isR_b hR
    have hwb := pw_le hn (show n - j ≤ n by omega)
    rw [← hw] at hwb
    have hm6 : mxv u ≤ 6 := by cases u <;> decide
    refine E_s (p' := 22) (st' := aI ((j : Int) - 1) :: _) rfl rfl ?_
    refine E_if_lt (x := ((j : Int) - 1)) rfl (by decide) (fun h_1 => ?_) (fun h_1 => ?_)
    · refine E_go (p' := 43) (L' := [some (aA (a + 15)), some (aI ((w : Nat) : Int)), some (aI ((j : Int) - 1))]) (st' := []) rfl rfl rfl ?_
      refine E_ret rfl rfl ?_
      exact q m I1 (fun l hl9 => I2 l (by omega) hl9)
    · refine E_go (p' := 25) (L' := [some (aA (a + 15)), some (aI ((w : Nat) : Int)), some (aI ((j : Int) - 1))]) (st' := []) rfl rfl rfl ?_
      refine E_s (p' := 26) (st' := aA (a + 15) :: _) rfl rfl ?_
      refine E_gA (b := a + 18) rfl rfl rfl (kR_15 hR) (hR_15_2 hR) rfl ?_
      refine E_s (p' := 30) (st' := aI ((j : Int) - 1) :: _) rfl rfl ?_
      refine E_s (p' := 31) (st' := aI ((w : Nat) : Int) :: _) rfl rfl ?_
      refine E_ast (e := ((j : Int) - 1).toNat) (N := 6) rfl (kR_18 hR) (by omega) (by omega) ?_
      refine E_s (p' := 33) (st' := aI ((w : Nat) : Int) :: _) rfl rfl ?_
      refine E_s (p' := 35) (st' := aI 10 :: _) rfl rfl ?_
      refine E_mul (v := ((10 * w : Nat) : Int)) rfl (by omega) (by omega) ?_
      refine E_s (p' := 37) (L' := [some (aA (a + 15)), some (aI ((10 * w : Nat) : Int)), some (aI ((j : Int) - 1))]) rfl rfl ?_
      refine E_inc (x := ((j : Int) - 1)) (w := ((j : Int) - 2)) (L' := [some (aA (a + 15)), some (aI ((10 * w : Nat) : Int)), some (aI ((j : Int) - 2))]) rfl rfl rfl (by omega) (by omega) rfl ?_
      refine E_s (p' := 21) rfl rfl ?_
      have ej : ((j : Int) - 1).toNat = j - 1 := by omega
      rw [ej, show ((j : Int) - 2) = (((j - 1 : Nat) : Int) - 1) by omega]
      refine ih (j - 1) _ _ (by omega) (by omega) ?_ (I1.up (by omega) (by omega)) (fun l g1 g2 => ?_)
      · rw [hw, show n - (j - 1) = n - j + 1 by omega, Nat.pow_succ, Nat.mul_right_comm, Nat.mul_comm]
      · by_cases g : l = j - 1
        · rw [g]; exact up2_eq.trans (by rw [hw, show n - 1 - (j - 1) = n - j by omega])
        · exact (up2_sl g).trans (I2 l (by omega) g2)
theorem c_countLevels (hR : isR a) (hn : n ≤ mxv u) (hl : m0 (a + 15) 12 = (n : Int)) (hu : m0 (a + 15) 11 = bi u) (q : ∀ m1 : Mm, Fx (a + 18) (a + 18) m0 m1 → (∀ l, l < n → m1 (a + 18) l = ((10 ^ (n - 1 - l) * wtv u : Nat) : Int)) → Q none (m1, tl len)) : E 46 0 [some (aA (a + 15)), none, none] [] (m0, tl len) Q := by
  have hm6 : mxv u ≤ 6 := by cases u <;> decide
  refine E_s (p' := 1) (st' := aA (a + 15) :: _) rfl rfl ?_
  refine E_gI (v := (bi u)) rfl rfl rfl (kR_15 hR) hu ?_
  refine E_b_eq0 (b := u) rfl (by decide) (fun h_1 => ?_) (fun h_1 => ?_)
  · refine E_go (p' := 11) (L' := [some (aA (a + 15)), none, none]) (st' := []) rfl rfl rfl ?_
    refine E_s (p' := 13) (st' := aI 10 :: _) rfl rfl ?_
    refine E_s (p' := 14) (L' := [some (aA (a + 15)), some (aI 10), none]) rfl rfl ?_
    refine E_s (p' := 15) (st' := aA (a + 15) :: _) rfl rfl ?_
    refine E_gI (v := ((n : Nat) : Int)) rfl rfl rfl (kR_15 hR) hl ?_
    refine E_s (p' := 19) (st' := aI 1 :: _) rfl rfl ?_
    refine E_sub (v := ((n : Int) - 1)) rfl (by omega) (by omega) ?_
    refine E_s (p' := 21) (L' := [some (aA (a + 15)), some (aI 10), some (aI ((n : Int) - 1))]) rfl rfl ?_
    exact yl_cl hR hn hl hu q (n + 1) n 10 m0 (by omega) (by omega) (by rw [Nat.sub_self]; show _ = 1 * wtv u; rw [h_1]; rfl) Fx.rf (fun l g1 g2 => absurd g1 (by omega))
  · refine E_go (p' := 7) (L' := [some (aA (a + 15)), none, none]) (st' := []) rfl rfl rfl ?_
    refine E_s (p' := 8) (st' := aI 1 :: _) rfl rfl ?_
    refine E_s (p' := 13) rfl rfl ?_
    refine E_s (p' := 14) (L' := [some (aA (a + 15)), some (aI 1), none]) rfl rfl ?_
    refine E_s (p' := 15) (st' := aA (a + 15) :: _) rfl rfl ?_
    refine E_gI (v := ((n : Nat) : Int)) rfl rfl rfl (kR_15 hR) hl ?_
    refine E_s (p' := 19) (st' := aI 1 :: _) rfl rfl ?_
    refine E_sub (v := ((n : Int) - 1)) rfl (by omega) (by omega) ?_
    refine E_s (p' := 21) (L' := [some (aA (a + 15)), some (aI 1), some (aI ((n : Int) - 1))]) rfl rfl ?_
    exact yl_cl hR hn hl hu q (n + 1) n 1 m0 (by omega) (by omega) (by rw [Nat.sub_self]; show _ = 1 * wtv u; rw [h_1]; rfl) Fx.rf (fun l g1 g2 => absurd g1 (by omega))
end
section
variable {len : Nat} {m : Mm} {Q : Option AV → Sx → Prop} {a n : Nat} {u : Bool} {La Co9 : Nat → Nat}
theorem yl_lo (hR : isR a) (hn : n ≤ 6) (hl : m (a + 15) 12 = (n : Int)) (hla : ∀ l, l < n → m (a + 17) l = (La l : Int)) {p : Nat} (h1 : 1 ≤ n) (q : Q (some (aI (lvo La p (n - 1) 0 : Int))) (m, tl len)) : ∀ (d : Nat) (l : Nat), (n ≤ l + d) → (l < n) → (lvo La p (n - 1) 0 = lvo La p (n - 1 - l) l) → E 48 2 [some (aA (a + 15)), some (aI ((p : Nat) : Int)), some (aI ((l : Nat) : Int))] [] (m, tl len) Q := by
  intro d
  induction d with
  | zero => intro l hd hll hv; omega
  | succ d ih =>
    intro l hd hll hv
    refine E_s (p' := 3) (st' := aI ((l : Nat) : Int) :: _) rfl rfl ?_
    refine E_s (p' := 4) (st' := aA (a + 15) :: _) rfl rfl ?_
    refine E_gI (v := ((n : Nat) : Int)) rfl rfl rfl (kR_15 hR) hl ?_
    refine E_s (p' := 8) (st' := aI 1 :: _) rfl rfl ?_
    refine E_sub (v := ((n : Int) - 1)) rfl (by omega) (by omega) ?_
    refine E_icmp_ge (x := ((l : Nat) : Int)) (y := ((n : Int) - 1)) rfl (by decide) (fun h_1 => ?_) (fun h_1 => ?_)
    · refine E_go (p' := 28) (L' := [some (aA (a + 15)), some (aI ((p : Nat) : Int)), some (aI ((l : Nat) : Int))]) (st' := []) rfl rfl rfl ?_
      refine E_s (p' := 29) (st' := aI ((l : Nat) : Int) :: _) rfl rfl ?_
      refine E_ret rfl rfl ?_
      have e9 : lvo La p (n - 1 - l) l = l := by
        first
          | (rw [show n - 1 - l = 0 by omega]; rfl)
          | (obtain ⟨x, hx⟩ : ∃ x, n - 1 - l = x + 1 := ⟨n - 1 - l - 1, by omega⟩
             rw [hx]
             show (if La l < p then _ else _) = _
             rw [if_neg (by omega)])
      rw [hv, e9] at q
      exact q
    · refine E_go (p' := 12) (L' := [some (aA (a + 15)), some (aI ((p : Nat) : Int)), some (aI ((l : Nat) : Int))]) (st' := []) rfl rfl rfl ?_
      refine E_s (p' := 13) (st' := aI ((p : Nat) : Int) :: _) rfl rfl ?_
      refine E_s (p' := 14) (st' := aA (a + 15) :: _) rfl rfl ?_
      refine E_gA (b := a + 17) rfl rfl rfl (kR_15 hR) (hR_15_1 hR) rfl ?_
      refine E_s (p' := 18) (st' := aI ((l : Nat) : Int) :: _) rfl rfl ?_
      refine E_ald (e := l) (N := 6) (v := ((La l : Nat) : Int)) rfl (kR_17 hR) (rfl) (by omega) (hla _ (by omega)) ?_
      refine E_icmp_le (x := ((p : Nat) : Int)) (y := ((La l : Nat) : Int)) rfl (by decide) (fun h_2 => ?_) (fun h_2 => ?_)
      · refine E_go (p' := 28) (L' := [some (aA (a + 15)), some (aI ((p : Nat) : Int)), some (aI ((l : Nat) : Int))]) (st' := []) rfl rfl rfl ?_
        refine E_s (p' := 29) (st' := aI ((l : Nat) : Int) :: _) rfl rfl ?_
        refine E_ret rfl rfl ?_
        have e9 : lvo La p (n - 1 - l) l = l := by
          first
            | (rw [show n - 1 - l = 0 by omega]; rfl)
            | (obtain ⟨x, hx⟩ : ∃ x, n - 1 - l = x + 1 := ⟨n - 1 - l - 1, by omega⟩
               rw [hx]
               show (if La l < p then _ else _) = _
               rw [if_neg (by omega)])
        rw [hv, e9] at q
        exact q
      · refine E_go (p' := 22) (L' := [some (aA (a + 15)), some (aI ((p : Nat) : Int)), some (aI ((l : Nat) : Int))]) (st' := []) rfl rfl rfl ?_
        refine E_inc (x := ((l : Nat) : Int)) (w := ((l + 1 : Nat) : Int)) (L' := [some (aA (a + 15)), some (aI ((p : Nat) : Int)), some (aI ((l + 1 : Nat) : Int))]) rfl rfl rfl (by omega) (by omega) rfl ?_
        refine E_s (p' := 2) rfl rfl ?_
        refine ih (l + 1) (by omega) (by omega) ?_
        rw [hv, show n - 1 - l = (n - 1 - (l + 1)) + 1 by omega]
        show (if La l < p then _ else _) = _
        rw [if_pos (by omega)]
theorem c_levelOf (hR : isR a) (hn : n ≤ 6) (hl : m (a + 15) 12 = (n : Int)) (hla : ∀ l, l < n → m (a + 17) l = (La l : Int)) {p : Nat} (h1 : 1 ≤ n) (q : Q (some (aI (lvo La p (n - 1) 0 : Int))) (m, tl len)) : E 48 0 [some (aA (a + 15)), some (aI ((p : Nat) : Int)), none] [] (m, tl len) Q := by
  refine E_s (p' := 1) (st' := aI 0 :: _) rfl rfl ?_
  refine E_s (p' := 2) (L' := [some (aA (a + 15)), some (aI ((p : Nat) : Int)), some (aI 0)]) rfl rfl ?_
  exact yl_lo hR hn hl hla h1 q (n + 1) 0 (by omega) (by omega) (by rw [Nat.sub_zero])
def lstv (La : Nat → Nat) (t l : Nat) : Bool := decide (t ≠ 0) && decide (t ≤ La l)
theorem c_isLost (hR : isR a) (hn : n ≤ 6) (hl : m (a + 15) 12 = (n : Int)) (hla : ∀ l, l < n → m (a + 17) l = (La l : Int)) {t l : Nat} (h1 : l < n) (q : Q (some (aI (bi (lstv La t l)))) (m, tl len)) : E 49 0 [some (aA (a + 15)), some (aI ((l : Nat) : Int)), some (aI ((t : Nat) : Int))] [] (m, tl len) Q := by
  refine E_s (p' := 1) (st' := aI ((t : Nat) : Int) :: _) rfl rfl ?_
  refine E_if_eq (x := ((t : Nat) : Int)) rfl (by decide) (fun h_1 => ?_) (fun h_1 => ?_)
  · refine E_go (p' := 18) (L' := [some (aA (a + 15)), some (aI ((l : Nat) : Int)), some (aI ((t : Nat) : Int))]) (st' := []) rfl rfl rfl ?_
    refine E_s (p' := 19) (st' := aI 0 :: _) rfl rfl ?_
    refine E_ret rfl rfl ?_
    rw [show lstv La t l = false by unfold lstv; simp; omega] at q
    exact q
  · refine E_go (p' := 4) (L' := [some (aA (a + 15)), some (aI ((l : Nat) : Int)), some (aI ((t : Nat) : Int))]) (st' := []) rfl rfl rfl ?_
    refine E_s (p' := 5) (st' := aA (a + 15) :: _) rfl rfl ?_
    refine E_gA (b := a + 17) rfl rfl rfl (kR_15 hR) (hR_15_1 hR) rfl ?_
    refine E_s (p' := 9) (st' := aI ((l : Nat) : Int) :: _) rfl rfl ?_
    refine E_ald (e := l) (N := 6) (v := ((La l : Nat) : Int)) rfl (kR_17 hR) (rfl) (by omega) (hla _ (by omega)) ?_
    refine E_s (p' := 11) (st' := aI ((t : Nat) : Int) :: _) rfl rfl ?_
    refine E_icmp_lt (x := ((La l : Nat) : Int)) (y := ((t : Nat) : Int)) rfl (by decide) (fun h_2 => ?_) (fun h_2 => ?_)
    · refine E_go (p' := 18) (L' := [some (aA (a + 15)), some (aI ((l : Nat) : Int)), some (aI ((t : Nat) : Int))]) (st' := []) rfl rfl rfl ?_
      refine E_s (p' := 19) (st' := aI 0 :: _) rfl rfl ?_
      refine E_ret rfl rfl ?_
      rw [show lstv La t l = false by unfold lstv; simp; omega] at q
      exact q
    · refine E_go (p' := 14) (L' := [some (aA (a + 15)), some (aI ((l : Nat) : Int)), some (aI ((t : Nat) : Int))]) (st' := []) rfl rfl rfl ?_
      refine E_s (p' := 15) (st' := aI 1 :: _) rfl rfl ?_
      refine E_s (p' := 19) rfl rfl ?_
      refine E_ret rfl rfl ?_
      rw [show lstv La t l = true by unfold lstv; simp; omega] at q
      exact q
theorem yl_lost (hR : isR a) (hn : n ≤ 6) (hl : m (a + 15) 12 = (n : Int)) (hla : ∀ l, l < n → m (a + 17) l = (La l : Int)) (hu : m (a + 15) 11 = bi u) (hco : ∀ l, l < n → m (a + 18) l = (Co9 l : Int)) (hcb : ∀ l, l < n → Co9 l ≤ 1000000) (h1 : 1 ≤ n) {t : Nat} (q : Q (some (aI ((sumN (fun l => bif lstv La t l then 9 * Co9 l else 0) n + (bif !u && lstv La t (n - 1) then 9 else 0) : Nat) : Int))) (m, tl len)) : ∀ (d : Nat) (l w : Nat), (n < l + d) → (l ≤ n) → (w = sumN (fun l => bif lstv La t l then 9 * Co9 l else 0) l) → E 50 4 [some (aA (a + 15)), some (aI ((t : Nat) : Int)), some (aI ((w : Nat) : Int)), some (aI ((l : Nat) : Int))] [] (m, tl len) Q := by
  intro d
  induction d with
  | zero => intro l w hd hll hw; omega
  | succ d ih =>
    intro l w hd hll hw
    have hwb : w ≤ 9000000 * l := by
      rw [hw]
      have := sumN_le (f := fun l => bif lstv La t l then 9 * Co9 l else 0) (b := 9000000) l (fun i hi => by have := hcb i (by omega); show (bif lstv La t i then 9 * Co9 i else 0) ≤ _; cases lstv La t i <;> simp <;> omega)
      omega
    refine E_s (p' := 5) (st' := aI ((l : Nat) : Int) :: _) rfl rfl ?_
    refine E_s (p' := 6) (st' := aA (a + 15) :: _) rfl rfl ?_
    refine E_gI (v := ((n : Nat) : Int)) rfl rfl rfl (kR_15 hR) hl ?_
    refine E_icmp_ge (x := ((l : Nat) : Int)) (y := ((n : Nat) : Int)) rfl (by decide) (fun h_1 => ?_) (fun h_1 => ?_)
    · refine E_go (p' := 39) (L' := [some (aA (a + 15)), some (aI ((t : Nat) : Int)), some (aI ((w : Nat) : Int)), some (aI ((l : Nat) : Int))]) (st' := []) rfl rfl rfl ?_
      refine E_s (p' := 40) (st' := aA (a + 15) :: _) rfl rfl ?_
      refine E_gI (v := (bi u)) rfl rfl rfl (kR_15 hR) hu ?_
      refine E_b_ne0 (b := u) rfl (by decide) (fun h_2 => ?_) (fun h_2 => ?_)
      · refine E_go (p' := 67) (L' := [some (aA (a + 15)), some (aI ((t : Nat) : Int)), some (aI ((w : Nat) : Int)), some (aI ((l : Nat) : Int))]) (st' := []) rfl rfl rfl ?_
        refine E_s (p' := 68) (st' := aI ((w : Nat) : Int) :: _) rfl rfl ?_
        refine E_ret rfl rfl ?_
        have el : l = n := by omega
        rw [el] at hw
        rw [← hw, show (bif !u && lstv La t (n - 1) then 9 else 0) = 0 by simp [*]] at q
        exact q
      · refine E_go (p' := 46) (L' := [some (aA (a + 15)), some (aI ((t : Nat) : Int)), some (aI ((w : Nat) : Int)), some (aI ((l : Nat) : Int))]) (st' := []) rfl rfl rfl ?_
        refine E_s (p' := 47) (st' := aA (a + 15) :: _) rfl rfl ?_
        refine E_s (p' := 48) (st' := aA (a + 15) :: _) rfl rfl ?_
        refine E_gI (v := ((n : Nat) : Int)) rfl rfl rfl (kR_15 hR) hl ?_
        refine E_s (p' := 52) (st' := aI 1 :: _) rfl rfl ?_
        refine E_sub (v := ((n : Int) - 1)) rfl (by omega) (by omega) ?_
        refine E_valv (show ((n : Int) - 1) = (((n - 1) : Nat) : Int) by omega) ?_
        refine E_s (p' := 54) (st' := aI ((t : Nat) : Int) :: _) rfl rfl ?_
        refine E_callV (k' := 49) (a := a + 15) (r := []) (L0 := [some (aA (a + 15)), some (aI (((n - 1) : Nat) : Int)), some (aI ((t : Nat) : Int))]) rfl rfl rfl rfl rfl (kR_15 hR) rfl rfl rfl rfl ?_
        refine c_isLost hR hn hl hla (l := (n - 1)) (t := t) (by omega) ?_
        refine E_go (p' := 57) (L' := [some (aA (a + 15)), some (aI ((t : Nat) : Int)), some (aI ((w : Nat) : Int)), some (aI ((l : Nat) : Int))]) (st' := [aI (bi (lstv La t (n - 1)))]) rfl rfl rfl ?_
        refine E_b_eq0 (b := (lstv La t (n - 1))) rfl (by decide) (fun h_3 => ?_) (fun h_3 => ?_)
        · refine E_go (p' := 67) (L' := [some (aA (a + 15)), some (aI ((t : Nat) : Int)), some (aI ((w : Nat) : Int)), some (aI ((l : Nat) : Int))]) (st' := []) rfl rfl rfl ?_
          refine E_s (p' := 68) (st' := aI ((w : Nat) : Int) :: _) rfl rfl ?_
          refine E_ret rfl rfl ?_
          have el : l = n := by omega
          rw [el] at hw
          rw [← hw, show (bif !u && lstv La t (n - 1) then 9 else 0) = 0 by simp [*]] at q
          exact q
        · refine E_go (p' := 60) (L' := [some (aA (a + 15)), some (aI ((t : Nat) : Int)), some (aI ((w : Nat) : Int)), some (aI ((l : Nat) : Int))]) (st' := []) rfl rfl rfl ?_
          refine E_s (p' := 61) (st' := aI ((w : Nat) : Int) :: _) rfl rfl ?_
          refine E_s (p' := 63) (st' := aI 9 :: _) rfl rfl ?_
          refine E_add (v := ((w + 9 : Nat) : Int)) rfl (by omega) (by omega) ?_
          refine E_s (p' := 68) rfl rfl ?_
          refine E_ret rfl rfl ?_
          have el : l = n := by omega
          rw [el] at hw
          rw [← hw, show (bif !u && lstv La t (n - 1) then 9 else 0) = 9 by simp [*]] at q
          exact q
    · refine E_go (p' := 12) (L' := [some (aA (a + 15)), some (aI ((t : Nat) : Int)), some (aI ((w : Nat) : Int)), some (aI ((l : Nat) : Int))]) (st' := []) rfl rfl rfl ?_
      refine E_s (p' := 13) (st' := aA (a + 15) :: _) rfl rfl ?_
      refine E_s (p' := 14) (st' := aI ((l : Nat) : Int) :: _) rfl rfl ?_
      refine E_s (p' := 15) (st' := aI ((t : Nat) : Int) :: _) rfl rfl ?_
      refine E_callV (k' := 49) (a := a + 15) (r := []) (L0 := [some (aA (a + 15)), some (aI ((l : Nat) : Int)), some (aI ((t : Nat) : Int))]) rfl rfl rfl rfl rfl (kR_15 hR) rfl rfl rfl rfl ?_
      refine c_isLost hR hn hl hla (l := l) (t := t) (by omega) ?_
      refine E_go (p' := 18) (L' := [some (aA (a + 15)), some (aI ((t : Nat) : Int)), some (aI ((w : Nat) : Int)), some (aI ((l : Nat) : Int))]) (st' := [aI (bi (lstv La t l))]) rfl rfl rfl ?_
      refine E_b_eq0 (b := (lstv La t l)) rfl (by decide) (fun h_4 => ?_) (fun h_4 => ?_)
      · refine E_go (p' := 33) (L' := [some (aA (a + 15)), some (aI ((t : Nat) : Int)), some (aI ((w : Nat) : Int)), some (aI ((l : Nat) : Int))]) (st' := []) rfl rfl rfl ?_
        refine E_inc (x := ((l : Nat) : Int)) (w := ((l + 1 : Nat) : Int)) (L' := [some (aA (a + 15)), some (aI ((t : Nat) : Int)), some (aI ((w : Nat) : Int)), some (aI ((l + 1 : Nat) : Int))]) rfl rfl rfl (by omega) (by omega) rfl ?_
        refine E_s (p' := 4) rfl rfl ?_
        exact ih (l + 1) _ (by omega) (by omega) (by rw [hw]; show _ = sumN _ l + (bif lstv La t l then 9 * Co9 l else 0); rw [h_4]; rfl)
      · refine E_go (p' := 21) (L' := [some (aA (a + 15)), some (aI ((t : Nat) : Int)), some (aI ((w : Nat) : Int)), some (aI ((l : Nat) : Int))]) (st' := []) rfl rfl rfl ?_
        have hcl := hcb l (by omega)
        refine E_s (p' := 22) (st' := aI ((w : Nat) : Int) :: _) rfl rfl ?_
        refine E_s (p' := 24) (st' := aI 9 :: _) rfl rfl ?_
        refine E_s (p' := 25) (st' := aA (a + 15) :: _) rfl rfl ?_
        refine E_gA (b := a + 18) rfl rfl rfl (kR_15 hR) (hR_15_2 hR) rfl ?_
        refine E_s (p' := 29) (st' := aI ((l : Nat) : Int) :: _) rfl rfl ?_
        refine E_ald (e := l) (N := 6) (v := ((Co9 l : Nat) : Int)) rfl (kR_18 hR) (rfl) (by omega) (hco _ (by omega)) ?_
        refine E_mul (v := ((9 * (Co9 l) : Nat) : Int)) rfl (by omega) (by omega) ?_
        refine E_add (v := ((w + 9 * (Co9 l) : Nat) : Int)) rfl (by omega) (by omega) ?_
        refine E_s (p' := 33) (L' := [some (aA (a + 15)), some (aI ((t : Nat) : Int)), some (aI ((w + 9 * (Co9 l) : Nat) : Int)), some (aI ((l : Nat) : Int))]) rfl rfl ?_
        refine E_inc (x := ((l : Nat) : Int)) (w := ((l + 1 : Nat) : Int)) (L' := [some (aA (a + 15)), some (aI ((t : Nat) : Int)), some (aI ((w + 9 * (Co9 l) : Nat) : Int)), some (aI ((l + 1 : Nat) : Int))]) rfl rfl rfl (by omega) (by omega) rfl ?_
        refine E_s (p' := 4) rfl rfl ?_
        exact ih (l + 1) _ (by omega) (by omega) (by rw [hw]; show _ = sumN _ l + (bif lstv La t l then 9 * Co9 l else 0); rw [h_4]; rfl)
theorem c_lostOf (hR : isR a) (hn : n ≤ 6) (hl : m (a + 15) 12 = (n : Int)) (hla : ∀ l, l < n → m (a + 17) l = (La l : Int)) (hu : m (a + 15) 11 = bi u) (hco : ∀ l, l < n → m (a + 18) l = (Co9 l : Int)) (hcb : ∀ l, l < n → Co9 l ≤ 1000000) (h1 : 1 ≤ n) {t : Nat} (q : Q (some (aI ((sumN (fun l => bif lstv La t l then 9 * Co9 l else 0) n + (bif !u && lstv La t (n - 1) then 9 else 0) : Nat) : Int))) (m, tl len)) : E 50 0 [some (aA (a + 15)), some (aI ((t : Nat) : Int)), none, none] [] (m, tl len) Q := by
  refine E_s (p' := 1) (st' := aI 0 :: _) rfl rfl ?_
  refine E_s (p' := 2) (L' := [some (aA (a + 15)), some (aI ((t : Nat) : Int)), some (aI 0), none]) rfl rfl ?_
  refine E_s (p' := 3) (st' := aI 0 :: _) rfl rfl ?_
  refine E_s (p' := 4) (L' := [some (aA (a + 15)), some (aI ((t : Nat) : Int)), some (aI 0), some (aI 0)]) rfl rfl ?_
  exact yl_lost hR hn hl hla hu hco hcb h1 q (n + 1) 0 0 (by omega) (by omega) rfl
end

section
variable {k pc n len : Nat} {L : Lc} {r : List AV} {Q : Option AV → Sx → Prop} {s : Sx} {d : Int} {x y : Bool}
theorem E_bb_ne (hi : ins k pc = some (.if_icmp .ne d, n)) (h0 : 0 ≤ (pc : Int) + d) (kt : (x == y) = false → E k ((pc : Int) + d).toNat L r s Q) (kf : (x == y) = true → E k (pc + n) L r s Q) : E k pc L (aI (bi y) :: aI (bi x) :: r) s Q := by
  cases x <;> cases y <;> refine E_icmp_ne hi h0 (fun h => ?_) (fun h => ?_)
  all_goals first
    | exact kf rfl
    | exact kt rfl
    | exact absurd rfl h
    | exact absurd h (by decide)
theorem E_bb_eq (hi : ins k pc = some (.if_icmp .eq d, n)) (h0 : 0 ≤ (pc : Int) + d) (kt : (x == y) = true → E k ((pc : Int) + d).toNat L r s Q) (kf : (x == y) = false → E k (pc + n) L r s Q) : E k pc L (aI (bi y) :: aI (bi x) :: r) s Q := by
  cases x <;> cases y <;> refine E_icmp_eq hi h0 (fun h => ?_) (fun h => ?_)
  all_goals first
    | exact kf rfl
    | exact kt rfl
    | exact absurd rfl h
    | exact absurd h (by decide)
theorem E_mulN {x y : Nat} (hi : ins k pc = some (.imul, n)) (hr : x * y ≤ 2147483647) (kk : E k (pc + n) L (aI ((x * y : Nat) : Int) :: r) s Q) : E k pc L (aI (y : Int) :: aI (x : Int) :: r) s Q := by
  refine E_mul (v := ((x * y : Nat) : Int)) hi (by simp) ?_ kk
  omega
end
theorem lvo_le (la : Nat → Nat) (p : Nat) : ∀ d l, lvo la p d l ≤ l + d := by
  intro d
  induction d with
  | zero => intro l; exact Nat.le_refl _
  | succ d ih =>
    intro l
    show (if la l < p then lvo la p d (l + 1) else l) ≤ _
    split
    · have := ih (l + 1); omega
    · omega
theorem Rlo_lt {R : RD} (h : 1 ≤ RL R) (p : Nat) : Rlo R p < RL R := by
  have := lvo_le (Rla R) p (RL R - 1) 0
  unfold Rlo
  omega
theorem RL_mx (R : RD) : RL R ≤ mxv (Run R) := by
  unfold RL
  show (if mxv (Run R) < _ then 0 else _) ≤ _
  split <;> omega
theorem Rct_le {R : RD} (h : 1 ≤ RL R) (l : Nat) : Rct R l ≤ 1000000 := pw_le (RL_mx R) (show RL R - 1 - l ≤ RL R by omega)
theorem lst_v (R : RD) (c l : Nat) : lst R c l = lstv (Rla R) (Ct R c) l := rfl
section
variable {R : RD} {c : Nat} {l : List (Nat × (Nat × Nat))} {x : Nat × (Nat × Nat)}
theorem rMany_app : rMany R (l ++ [x]) = (rMany R l || (decide (x.2.1 = 0) && decide (9 < x.2.2))) := by unfold rMany; rw [List.any_append]; simp
theorem rAs_app : rAs R (l ++ [x]) = (rAs R l || (decide (x.2.1 = 0) == (Run R && decide (Rlo R x.1 + 1 = RL R)))) := by unfold rAs; rw [List.any_append]; simp
theorem rTw_app : rTw R (l ++ [x]).reverse = (rTw R l.reverse || l.any fun p => Rlo R p.1 == Rlo R x.1) := by
  rw [List.reverse_append]
  show (rTw R l.reverse || l.reverse.any fun p => Rlo R p.1 == Rlo R x.1) = _
  rw [List.any_reverse]
theorem rSum_app : rSum R c (l ++ [x]) = rSum R c l + (bif lst R c (Rlo R x.1) then 0 else x.2.2 * Rct R (Rlo R x.1)) := by unfold rSum; rw [List.map_append, List.sum_append]; simp
theorem sn_0 {s i : Nat} {b : Bool} (h : s.testBit i = b) : (!decide (((s / 2 ^ i &&& 1 : Nat) : Int) = 0)) = b := by
  rw [← h, Nat.testBit_eq_decide_div_mod_eq, Nat.and_one_is_mod]
  have := Nat.mod_two_eq_zero_or_one (s / 2 ^ i)
  rcases this with e | e <;> rw [e] <;> rfl
theorem sn_up {s i j : Nat} {f : Nat → Bool} (h : s.testBit j = f j) : (s ||| 1 * 2 ^ i).testBit j = (f j || (i == j)) := by
  rw [Nat.testBit_or, h, Nat.one_mul, Nat.testBit_two_pow]
  congr 1
end
theorem cls_wb {R : RD} (hV : VR R) {c : Nat} (hc : c < Cn R) : ∀ k, k ≤ Ck R c → ∀ q ∈ cls R c k, q.2.2 ≤ 30 := by
  intro k
  induction k with
  | zero => intro _ q hq; cases hq
  | succ k ih =>
    intro hk q hq
    cases he : ends R c k with
    | true =>
      rw [cls_t he] at hq
      rcases List.mem_append.mp hq with g | g
      · exact ih (by omega) q g
      · rw [List.mem_singleton.mp g]; exact (clw_b hV hc (by omega)).2
    | false => rw [cls_f he] at hq; exact ih (by omega) q hq
theorem rSum_le {R : RD} (h : 1 ≤ RL R) {c : Nat} : ∀ (l : List (Nat × (Nat × Nat))), (∀ q ∈ l, q.2.2 ≤ 30) → rSum R c l ≤ 30000000 * l.length := by
  intro l
  induction l with
  | nil => intro _; exact Nat.le_refl _
  | cons q r ih =>
    intro hq
    have h1 := ih (fun p hp => hq p (List.mem_cons_of_mem _ hp))
    have h2 := hq q List.mem_cons_self
    have h3 := Rct_le h (Rlo R q.1)
    have h4 : q.2.2 * Rct R (Rlo R q.1) ≤ 30 * 1000000 := Nat.mul_le_mul h2 h3
    show (bif lst R c (Rlo R q.1) then 0 else q.2.2 * Rct R (Rlo R q.1)) + rSum R c r ≤ 30000000 * (r.length + 1)
    cases lst R c (Rlo R q.1)
    · show q.2.2 * Rct R (Rlo R q.1) + _ ≤ _; omega
    · show 0 + _ ≤ _; omega
/-- what reading a CORD rests on -/
def RL0 (R : RD) (a : Nat) (m : Mm) : Prop := m (a + 15) 11 = bi (Run R) ∧ m (a + 15) 12 = (RL R : Int) ∧ (∀ l, l < RL R → m (a + 17) l = (Rla R l : Int)) ∧ (∀ l, l < RL R → m (a + 18) l = (Rct R l : Int))
section
variable {len : Nat} {m0 : Mm} {Q : Option AV → Sx → Prop} {R : RD} {a c : Nat}
theorem yl_rc (hR : isR a) (hC : CR R a m0) (hV : VR R) (hc : c < Cn R) (h1 : 1 ≤ RL R) (hL : RL0 R a m0) (q : ∀ m1 : Mm, (∀ b j, ¬ (a + 21 ≤ b ∧ b ≤ a + 23 ∧ j = c) → b ≠ a + 25 → m1 b j = m0 b j) → m1 (a + 21) c = (Rft R c : Int) → m1 (a + 22) c = (Rvl R c : Int) → m1 (a + 23) c = (Rls R c : Int) → Q none (m1, tl len)) : ∀ (d : Nat) (k : Nat) (b1 b2 b3 : Bool) (sn w : Nat) (m : Mm) (x9 : Option AV), (Ck R c < k + d) → (k ≤ Ck R c) → (b1 = rMany R (cls R c k)) → (b2 = rTw R (cls R c k).reverse) → (b3 = rAs R (cls R c k)) → (sn < 64) → (∀ j, j < 6 → sn.testBit j = (cls R c k).any fun q => Rlo R q.1 == j) → (w = rSum R c (cls R c k)) → (Fx (a + 25) (a + 25) m0 m) → (m (a + 25) 3 = (beg R c k : Int)) → E 47 24 [some (aA (a + 15)), some (aA (a + 1)), some (aI ((c : Nat) : Int)), some (aI (bi b1)), some (aI (bi b2)), some (aI (bi b3)), some (aI ((sn : Nat) : Int)), some (aI ((w : Nat) : Int)), some (aI ((k : Nat) : Int)), x9] [] (m, tl len) Q := by
  intro d
  induction d with
  | zero => intro k b1 b2 b3 sn w m x9 hd hkk e1 e2 e3 hs64 hsb ew I1 hb; omega
  | succ d ih =>
    intro k b1 b2 b3 sn w m x9 hd hkk e1 e2 e3 hs64 hsb ew I1 hb
    have hCm : CR R a m := hC.of (fun b j g1 g2 _ => I1 b j (by omega))
    have hn60 := hV.1
    have hab := isR_b hR
    have hk30 := (hV.2.2.1 c hc).2.2.2.2.2
    have hl1 := cls_len R c k
    have hmx := RL_mx R
    have hm6 : mxv (Run R) ≤ 6 := by cases Run R <;> decide
    have hwb := rSum_le (c := c) h1 (cls R c k) (cls_wb hV hc k hkk)
    rw [← ew] at hwb
    refine E_s (p' := 26) (st' := aI ((k : Nat) : Int) :: _) rfl rfl ?_
    refine E_s (p' := 27) (st' := aA (a + 1) :: _) rfl rfl ?_
    refine E_gA (b := a + 7) rfl rfl rfl (kR_1 hR) (hR_1_5 hR) rfl ?_
    refine E_s (p' := 31) (st' := aI ((c : Nat) : Int) :: _) rfl rfl ?_
    refine E_ald (e := c) (N := 60) (v := ((Ck R c : Nat) : Int)) rfl (kR_7 hR) (rfl) (by omega) (CR_7 hCm (by omega)) ?_
    refine E_icmp_ge (x := ((k : Nat) : Int)) (y := ((Ck R c : Nat) : Int)) rfl (by decide) (fun h_1 => ?_) (fun h_1 => ?_)
    · refine E_go (p' := 212) (L' := [some (aA (a + 15)), some (aA (a + 1)), some (aI ((c : Nat) : Int)), some (aI (bi b1)), some (aI (bi b2)), some (aI (bi b3)), some (aI ((sn : Nat) : Int)), some (aI ((w : Nat) : Int)), some (aI ((k : Nat) : Int)), x9]) (st' := []) rfl rfl rfl ?_
      refine E_s (p' := 213) (st' := aA (a + 15) :: _) rfl rfl ?_
      refine E_gA (b := a + 21) rfl rfl rfl (kR_15 hR) (hR_15_5 hR) rfl ?_
      refine E_s (p' := 217) (st' := aI ((c : Nat) : Int) :: _) rfl rfl ?_
      refine E_s (p' := 218) (st' := aI (bi b1) :: _) rfl rfl ?_
      refine E_b_eq0 (b := b1) rfl (by decide) (fun h_2 => ?_) (fun h_2 => ?_)
      · refine E_go (p' := 225) (L' := [some (aA (a + 15)), some (aA (a + 1)), some (aI ((c : Nat) : Int)), some (aI (bi b1)), some (aI (bi b2)), some (aI (bi b3)), some (aI ((sn : Nat) : Int)), some (aI ((w : Nat) : Int)), some (aI ((k : Nat) : Int)), x9]) (st' := [aI ((c : Nat) : Int), aA (a + 21)]) rfl rfl rfl ?_
        refine E_s (p' := 227) (st' := aI (bi b2) :: _) rfl rfl ?_
        refine E_b_eq0 (b := b2) rfl (by decide) (fun h_3 => ?_) (fun h_3 => ?_)
        · refine E_go (p' := 234) (L' := [some (aA (a + 15)), some (aA (a + 1)), some (aI ((c : Nat) : Int)), some (aI (bi b1)), some (aI (bi b2)), some (aI (bi b3)), some (aI ((sn : Nat) : Int)), some (aI ((w : Nat) : Int)), some (aI ((k : Nat) : Int)), x9]) (st' := [aI ((c : Nat) : Int), aA (a + 21)]) rfl rfl rfl ?_
          refine E_s (p' := 236) (st' := aI (bi b3) :: _) rfl rfl ?_
          refine E_b_eq0 (b := b3) rfl (by decide) (fun h_4 => ?_) (fun h_4 => ?_)
          · refine E_go (p' := 243) (L' := [some (aA (a + 15)), some (aA (a + 1)), some (aI ((c : Nat) : Int)), some (aI (bi b1)), some (aI (bi b2)), some (aI (bi b3)), some (aI ((sn : Nat) : Int)), some (aI ((w : Nat) : Int)), some (aI ((k : Nat) : Int)), x9]) (st' := [aI ((c : Nat) : Int), aA (a + 21)]) rfl rfl rfl ?_
            refine E_s (p' := 244) (st' := aI 0 :: _) rfl rfl ?_
            refine E_ast (e := c) (N := 60) rfl (kR_21 hR) (rfl) (by omega) ?_
            refine E_s (p' := 246) (st' := aA (a + 15) :: _) rfl rfl ?_
            refine E_gA (b := a + 22) rfl rfl rfl (kR_15 hR) (hR_15_6 hR) rfl ?_
            refine E_s (p' := 250) (st' := aI ((c : Nat) : Int) :: _) rfl rfl ?_
            refine E_s (p' := 251) (st' := aA (a + 15) :: _) rfl rfl ?_
            refine E_gA (b := a + 21) rfl rfl rfl (kR_15 hR) (hR_15_5 hR) rfl ?_
            refine E_s (p' := 255) (st' := aI ((c : Nat) : Int) :: _) rfl rfl ?_
            refine E_ald (e := c) (N := 60) (v := 0) rfl (kR_21 hR) (rfl) (by omega) up2_eq ?_
            refine E_s (p' := 259) rfl rfl ?_
            refine E_s (p' := 261) (st' := aI ((w : Nat) : Int) :: _) rfl rfl ?_
            refine E_s (p' := 265) rfl rfl ?_
            refine E_ast (e := c) (N := 60) rfl (kR_22 hR) (rfl) (by omega) ?_
            refine E_s (p' := 267) (st' := aA (a + 15) :: _) rfl rfl ?_
            refine E_gA (b := a + 23) rfl rfl rfl (kR_15 hR) (hR_15_7 hR) rfl ?_
            refine E_s (p' := 271) (st' := aI ((c : Nat) : Int) :: _) rfl rfl ?_
            refine E_s (p' := 272) (st' := aA (a + 15) :: _) rfl rfl ?_
            refine E_gA (b := a + 21) rfl rfl rfl (kR_15 hR) (hR_15_5 hR) rfl ?_
            refine E_s (p' := 276) (st' := aI ((c : Nat) : Int) :: _) rfl rfl ?_
            refine E_ald (e := c) (N := 60) (v := 0) rfl (kR_21 hR) (rfl) (by omega) ((up2_ne (by omega)).trans (up2_eq)) ?_
            refine E_s (p' := 280) rfl rfl ?_
            refine E_s (p' := 281) (st' := aA (a + 15) :: _) rfl rfl ?_
            refine E_s (p' := 282) (st' := aA (a + 1) :: _) rfl rfl ?_
            refine E_gA (b := a + 6) rfl rfl rfl (kR_1 hR) (hR_1_4 hR) rfl ?_
            refine E_s (p' := 286) (st' := aI ((c : Nat) : Int) :: _) rfl rfl ?_
            refine E_ald (e := c) (N := 60) (v := ((Ct R c : Nat) : Int)) rfl (kR_6 hR) (rfl) (by omega) ((up2_ne (by omega)).trans ((up2_ne (by omega)).trans (((I1 _ _ (by omega)).trans (CR_6 hC hc))))) ?_
            refine E_callV (k' := 50) (a := a + 15) (r := [aI ((c : Nat) : Int), aA (a + 23)]) (L0 := [some (aA (a + 15)), some (aI ((Ct R c : Nat) : Int)), none, none]) rfl rfl rfl rfl rfl (kR_15 hR) rfl rfl rfl rfl ?_
            refine c_lostOf (n := RL R) (La := Rla R) (Co9 := Rct R) (u := Run R) hR (by omega) (((up2_ne (by omega)).trans (up2_ne (by omega))).trans ((I1 _ _ (by omega)).trans hL.2.1)) (fun l hl => ((up2_ne (by omega)).trans (up2_ne (by omega))).trans ((I1 _ _ (by omega)).trans (hL.2.2.1 l hl))) (((up2_ne (by omega)).trans (up2_ne (by omega))).trans ((I1 _ _ (by omega)).trans hL.1)) (fun l hl => ((up2_ne (by omega)).trans (up2_ne (by omega))).trans ((I1 _ _ (by omega)).trans (hL.2.2.2 l hl))) (fun l _ => Rct_le h1 l) h1 ?_
            refine E_go (p' := 290) (L' := [some (aA (a + 15)), some (aA (a + 1)), some (aI ((c : Nat) : Int)), some (aI (bi b1)), some (aI (bi b2)), some (aI (bi b3)), some (aI ((sn : Nat) : Int)), some (aI ((w : Nat) : Int)), some (aI ((k : Nat) : Int)), x9]) (st' := [aI ((rLost R c : Nat) : Int), aI ((c : Nat) : Int), aA (a + 23)]) rfl rfl rfl ?_
            refine E_s (p' := 294) rfl rfl ?_
            refine E_ast (e := c) (N := 60) rfl (kR_23 hR) (rfl) (by omega) ?_
            refine E_ret rfl rfl ?_
            have ek : k = Ck R c := by omega
            subst ek
            have hft : Rft R c = 0 := by unfold Rft; rw [if_neg (by omega)]; show (bif rMany R (cls R c (Ck R c)) then _ else bif rTw R (cls R c (Ck R c)).reverse then _ else bif rAs R (cls R c (Ck R c)) then _ else _) = _; rw [← e1, ← e2, ← e3]; simp [*]
            exact q _ (fun b j g1 g2 => ((up2_o (by omega)).trans ((up2_o (by omega)).trans (up2_o (by omega)))).trans (I1 b j (by omega))) (((up2_ne (by omega)).trans ((up2_ne (by omega)).trans (up2_eq))).trans (by rw [hft]; rfl)) (((up2_ne (by omega)).trans (up2_eq)).trans (by unfold Rvl; rw [if_neg (by omega), hft]; rw [if_pos rfl, ew]; rfl)) ((up2_eq).trans (by unfold Rls; rw [if_neg (by omega), hft]; rw [if_pos rfl]))
          · refine E_go (p' := 239) (L' := [some (aA (a + 15)), some (aA (a + 1)), some (aI ((c : Nat) : Int)), some (aI (bi b1)), some (aI (bi b2)), some (aI (bi b3)), some (aI ((sn : Nat) : Int)), some (aI ((w : Nat) : Int)), some (aI ((k : Nat) : Int)), x9]) (st' := [aI ((c : Nat) : Int), aA (a + 21)]) rfl rfl rfl ?_
            refine E_s (p' := 240) (st' := aI 4 :: _) rfl rfl ?_
            refine E_s (p' := 244) rfl rfl ?_
            refine E_ast (e := c) (N := 60) rfl (kR_21 hR) (rfl) (by omega) ?_
            refine E_s (p' := 246) (st' := aA (a + 15) :: _) rfl rfl ?_
            refine E_gA (b := a + 22) rfl rfl rfl (kR_15 hR) (hR_15_6 hR) rfl ?_
            refine E_s (p' := 250) (st' := aI ((c : Nat) : Int) :: _) rfl rfl ?_
            refine E_s (p' := 251) (st' := aA (a + 15) :: _) rfl rfl ?_
            refine E_gA (b := a + 21) rfl rfl rfl (kR_15 hR) (hR_15_5 hR) rfl ?_
            refine E_s (p' := 255) (st' := aI ((c : Nat) : Int) :: _) rfl rfl ?_
            refine E_ald (e := c) (N := 60) (v := 4) rfl (kR_21 hR) (rfl) (by omega) up2_eq ?_
            refine E_s (p' := 264) rfl rfl ?_
            refine E_s (p' := 265) (st' := aI 0 :: _) rfl rfl ?_
            refine E_ast (e := c) (N := 60) rfl (kR_22 hR) (rfl) (by omega) ?_
            refine E_s (p' := 267) (st' := aA (a + 15) :: _) rfl rfl ?_
            refine E_gA (b := a + 23) rfl rfl rfl (kR_15 hR) (hR_15_7 hR) rfl ?_
            refine E_s (p' := 271) (st' := aI ((c : Nat) : Int) :: _) rfl rfl ?_
            refine E_s (p' := 272) (st' := aA (a + 15) :: _) rfl rfl ?_
            refine E_gA (b := a + 21) rfl rfl rfl (kR_15 hR) (hR_15_5 hR) rfl ?_
            refine E_s (p' := 276) (st' := aI ((c : Nat) : Int) :: _) rfl rfl ?_
            refine E_ald (e := c) (N := 60) (v := 4) rfl (kR_21 hR) (rfl) (by omega) ((up2_ne (by omega)).trans (up2_eq)) ?_
            refine E_s (p' := 293) rfl rfl ?_
            refine E_s (p' := 294) (st' := aI 0 :: _) rfl rfl ?_
            refine E_ast (e := c) (N := 60) rfl (kR_23 hR) (rfl) (by omega) ?_
            refine E_ret rfl rfl ?_
            have ek : k = Ck R c := by omega
            subst ek
            have hft : Rft R c = 4 := by unfold Rft; rw [if_neg (by omega)]; show (bif rMany R (cls R c (Ck R c)) then _ else bif rTw R (cls R c (Ck R c)).reverse then _ else bif rAs R (cls R c (Ck R c)) then _ else _) = _; rw [← e1, ← e2, ← e3]; simp [*]
            exact q _ (fun b j g1 g2 => ((up2_o (by omega)).trans ((up2_o (by omega)).trans (up2_o (by omega)))).trans (I1 b j (by omega))) (((up2_ne (by omega)).trans ((up2_ne (by omega)).trans (up2_eq))).trans (by rw [hft]; rfl)) (((up2_ne (by omega)).trans (up2_eq)).trans (by unfold Rvl; rw [if_neg (by omega), hft]; rfl)) ((up2_eq).trans (by unfold Rls; rw [if_neg (by omega), hft]; rfl))
        · refine E_go (p' := 230) (L' := [some (aA (a + 15)), some (aA (a + 1)), some (aI ((c : Nat) : Int)), some (aI (bi b1)), some (aI (bi b2)), some (aI (bi b3)), some (aI ((sn : Nat) : Int)), some (aI ((w : Nat) : Int)), some (aI ((k : Nat) : Int)), x9]) (st' := [aI ((c : Nat) : Int), aA (a + 21)]) rfl rfl rfl ?_
          refine E_s (p' := 231) (st' := aI 3 :: _) rfl rfl ?_
          refine E_s (p' := 244) rfl rfl ?_
          refine E_ast (e := c) (N := 60) rfl (kR_21 hR) (rfl) (by omega) ?_
          refine E_s (p' := 246) (st' := aA (a + 15) :: _) rfl rfl ?_
          refine E_gA (b := a + 22) rfl rfl rfl (kR_15 hR) (hR_15_6 hR) rfl ?_
          refine E_s (p' := 250) (st' := aI ((c : Nat) : Int) :: _) rfl rfl ?_
          refine E_s (p' := 251) (st' := aA (a + 15) :: _) rfl rfl ?_
          refine E_gA (b := a + 21) rfl rfl rfl (kR_15 hR) (hR_15_5 hR) rfl ?_
          refine E_s (p' := 255) (st' := aI ((c : Nat) : Int) :: _) rfl rfl ?_
          refine E_ald (e := c) (N := 60) (v := 3) rfl (kR_21 hR) (rfl) (by omega) up2_eq ?_
          refine E_s (p' := 264) rfl rfl ?_
          refine E_s (p' := 265) (st' := aI 0 :: _) rfl rfl ?_
          refine E_ast (e := c) (N := 60) rfl (kR_22 hR) (rfl) (by omega) ?_
          refine E_s (p' := 267) (st' := aA (a + 15) :: _) rfl rfl ?_
          refine E_gA (b := a + 23) rfl rfl rfl (kR_15 hR) (hR_15_7 hR) rfl ?_
          refine E_s (p' := 271) (st' := aI ((c : Nat) : Int) :: _) rfl rfl ?_
          refine E_s (p' := 272) (st' := aA (a + 15) :: _) rfl rfl ?_
          refine E_gA (b := a + 21) rfl rfl rfl (kR_15 hR) (hR_15_5 hR) rfl ?_
          refine E_s (p' := 276) (st' := aI ((c : Nat) : Int) :: _) rfl rfl ?_
          refine E_ald (e := c) (N := 60) (v := 3) rfl (kR_21 hR) (rfl) (by omega) ((up2_ne (by omega)).trans (up2_eq)) ?_
          refine E_s (p' := 293) rfl rfl ?_
          refine E_s (p' := 294) (st' := aI 0 :: _) rfl rfl ?_
          refine E_ast (e := c) (N := 60) rfl (kR_23 hR) (rfl) (by omega) ?_
          refine E_ret rfl rfl ?_
          have ek : k = Ck R c := by omega
          subst ek
          have hft : Rft R c = 3 := by unfold Rft; rw [if_neg (by omega)]; show (bif rMany R (cls R c (Ck R c)) then _ else bif rTw R (cls R c (Ck R c)).reverse then _ else bif rAs R (cls R c (Ck R c)) then _ else _) = _; rw [← e1, ← e2, ← e3]; simp [*]
          exact q _ (fun b j g1 g2 => ((up2_o (by omega)).trans ((up2_o (by omega)).trans (up2_o (by omega)))).trans (I1 b j (by omega))) (((up2_ne (by omega)).trans ((up2_ne (by omega)).trans (up2_eq))).trans (by rw [hft]; rfl)) (((up2_ne (by omega)).trans (up2_eq)).trans (by unfold Rvl; rw [if_neg (by omega), hft]; rfl)) ((up2_eq).trans (by unfold Rls; rw [if_neg (by omega), hft]; rfl))
      · refine E_go (p' := 221) (L' := [some (aA (a + 15)), some (aA (a + 1)), some (aI ((c : Nat) : Int)), some (aI (bi b1)), some (aI (bi b2)), some (aI (bi b3)), some (aI ((sn : Nat) : Int)), some (aI ((w : Nat) : Int)), some (aI ((k : Nat) : Int)), x9]) (st' := [aI ((c : Nat) : Int), aA (a + 21)]) rfl rfl rfl ?_
        refine E_s (p' := 222) (st' := aI 2 :: _) rfl rfl ?_
        refine E_s (p' := 244) rfl rfl ?_
        refine E_ast (e := c) (N := 60) rfl (kR_21 hR) (rfl) (by omega) ?_
        refine E_s (p' := 246) (st' := aA (a + 15) :: _) rfl rfl ?_
        refine E_gA (b := a + 22) rfl rfl rfl (kR_15 hR) (hR_15_6 hR) rfl ?_
        refine E_s (p' := 250) (st' := aI ((c : Nat) : Int) :: _) rfl rfl ?_
        refine E_s (p' := 251) (st' := aA (a + 15) :: _) rfl rfl ?_
        refine E_gA (b := a + 21) rfl rfl rfl (kR_15 hR) (hR_15_5 hR) rfl ?_
        refine E_s (p' := 255) (st' := aI ((c : Nat) : Int) :: _) rfl rfl ?_
        refine E_ald (e := c) (N := 60) (v := 2) rfl (kR_21 hR) (rfl) (by omega) up2_eq ?_
        refine E_s (p' := 264) rfl rfl ?_
        refine E_s (p' := 265) (st' := aI 0 :: _) rfl rfl ?_
        refine E_ast (e := c) (N := 60) rfl (kR_22 hR) (rfl) (by omega) ?_
        refine E_s (p' := 267) (st' := aA (a + 15) :: _) rfl rfl ?_
        refine E_gA (b := a + 23) rfl rfl rfl (kR_15 hR) (hR_15_7 hR) rfl ?_
        refine E_s (p' := 271) (st' := aI ((c : Nat) : Int) :: _) rfl rfl ?_
        refine E_s (p' := 272) (st' := aA (a + 15) :: _) rfl rfl ?_
        refine E_gA (b := a + 21) rfl rfl rfl (kR_15 hR) (hR_15_5 hR) rfl ?_
        refine E_s (p' := 276) (st' := aI ((c : Nat) : Int) :: _) rfl rfl ?_
        refine E_ald (e := c) (N := 60) (v := 2) rfl (kR_21 hR) (rfl) (by omega) ((up2_ne (by omega)).trans (up2_eq)) ?_
        refine E_s (p' := 293) rfl rfl ?_
        refine E_s (p' := 294) (st' := aI 0 :: _) rfl rfl ?_
        refine E_ast (e := c) (N := 60) rfl (kR_23 hR) (rfl) (by omega) ?_
        refine E_ret rfl rfl ?_
        have ek : k = Ck R c := by omega
        subst ek
        have hft : Rft R c = 2 := by unfold Rft; rw [if_neg (by omega)]; show (bif rMany R (cls R c (Ck R c)) then _ else bif rTw R (cls R c (Ck R c)).reverse then _ else bif rAs R (cls R c (Ck R c)) then _ else _) = _; rw [← e1, ← e2, ← e3]; simp [*]
        exact q _ (fun b j g1 g2 => ((up2_o (by omega)).trans ((up2_o (by omega)).trans (up2_o (by omega)))).trans (I1 b j (by omega))) (((up2_ne (by omega)).trans ((up2_ne (by omega)).trans (up2_eq))).trans (by rw [hft]; rfl)) (((up2_ne (by omega)).trans (up2_eq)).trans (by unfold Rvl; rw [if_neg (by omega), hft]; rfl)) ((up2_eq).trans (by unfold Rls; rw [if_neg (by omega), hft]; rfl))
    · refine E_go (p' := 35) (L' := [some (aA (a + 15)), some (aA (a + 1)), some (aI ((c : Nat) : Int)), some (aI (bi b1)), some (aI (bi b2)), some (aI (bi b3)), some (aI ((sn : Nat) : Int)), some (aI ((w : Nat) : Int)), some (aI ((k : Nat) : Int)), x9]) (st' := []) rfl rfl rfl ?_
      refine E_s (p' := 36) (st' := aA (a + 15) :: _) rfl rfl ?_
      refine E_gA (b := a + 25) rfl rfl rfl (kR_15 hR) (hR_15_9 hR) rfl ?_
      refine E_s (p' := 40) (st' := aA (a + 1) :: _) rfl rfl ?_
      refine E_s (p' := 41) (st' := aI ((c : Nat) : Int) :: _) rfl rfl ?_
      refine E_s (p' := 43) (st' := aI ((k : Nat) : Int) :: _) rfl rfl ?_
      refine E_callV (k' := 40) (a := a + 25) (r := []) (L0 := [some (aA (a + 25)), some (aA (a + 1)), some (aI ((c : Nat) : Int)), some (aI ((k : Nat) : Int)), none, none, none, none]) rfl rfl rfl rfl rfl (kR_25 hR) rfl rfl rfl rfl ?_
      refine c_endsAt hR hCm hV hc (by omega) hb (fun m1 he1 hF1 hp0 hp1 hp2 hp3 => ?_) (fun m1 he0 hF1 hp3 => ?_)
      · refine E_go (p' := 46) (L' := [some (aA (a + 15)), some (aA (a + 1)), some (aI ((c : Nat) : Int)), some (aI (bi b1)), some (aI (bi b2)), some (aI (bi b3)), some (aI ((sn : Nat) : Int)), some (aI ((w : Nat) : Int)), some (aI ((k : Nat) : Int)), x9]) (st' := [aI 1]) rfl rfl rfl ?_
        refine E_s (p' := 52) rfl rfl ?_
        refine E_s (p' := 53) (st' := aA (a + 15) :: _) rfl rfl ?_
        refine E_s (p' := 54) (st' := aA (a + 15) :: _) rfl rfl ?_
        refine E_gA (b := a + 25) rfl rfl rfl (kR_15 hR) (hR_15_9 hR) rfl ?_
        refine E_gI (v := ((clp R c k : Nat) : Int)) rfl rfl rfl (kR_25 hR) hp1 ?_
        refine E_callV (k' := 48) (a := a + 15) (r := []) (L0 := [some (aA (a + 15)), some (aI ((clp R c k : Nat) : Int)), none]) rfl rfl rfl rfl rfl (kR_15 hR) rfl rfl rfl rfl ?_
        refine c_levelOf (n := RL R) (La := Rla R) hR (by omega) ((hF1 _ _ (by omega)).trans ((I1 _ _ (by omega)).trans hL.2.1)) (fun l hl => (hF1 _ _ (by omega)).trans ((I1 _ _ (by omega)).trans (hL.2.2.1 l hl))) h1 ?_
        refine E_go (p' := 63) (L' := [some (aA (a + 15)), some (aA (a + 1)), some (aI ((c : Nat) : Int)), some (aI (bi b1)), some (aI (bi b2)), some (aI (bi b3)), some (aI ((sn : Nat) : Int)), some (aI ((w : Nat) : Int)), some (aI ((k : Nat) : Int)), x9]) (st' := [aI ((Rlo R (clp R c k) : Nat) : Int)]) rfl rfl rfl ?_
        have hlv := Rlo_lt h1 (clp R c k)
        have hpw : 2 ^ (Rlo R (clp R c k)) ≤ 64 := Nat.le_trans (Nat.pow_le_pow_right (by decide) (show Rlo R (clp R c k) ≤ 6 by omega)) (by decide)
        have hcw := clw_b hV hc (show k < Ck R c by omega)
        have hrc := Rct_le h1 (Rlo R (clp R c k))
        have hpr : clw R c k * Rct R (Rlo R (clp R c k)) ≤ 30 * 1000000 := Nat.mul_le_mul hcw.2 hrc
        refine E_s (p' := 65) (L' := [some (aA (a + 15)), some (aA (a + 1)), some (aI ((c : Nat) : Int)), some (aI (bi b1)), some (aI (bi b2)), some (aI (bi b3)), some (aI ((sn : Nat) : Int)), some (aI ((w : Nat) : Int)), some (aI ((k : Nat) : Int)), some (aI ((Rlo R (clp R c k) : Nat) : Int))]) rfl rfl ?_
        refine E_s (p' := 66) (st' := aI (bi b1) :: _) rfl rfl ?_
        refine E_s (p' := 67) (st' := aA (a + 15) :: _) rfl rfl ?_
        refine E_gA (b := a + 25) rfl rfl rfl (kR_15 hR) (hR_15_9 hR) rfl ?_
        refine E_gI (v := (bi (decide (so (Cp R c k) = 0)))) rfl rfl rfl (kR_25 hR) hp0 ?_
        suffices h_5 : E 47 93 [some (aA (a + 15)), some (aA (a + 1)), some (aI ((c : Nat) : Int)), some (aI (bi b1)), some (aI (bi b2)), some (aI (bi b3)), some (aI ((sn : Nat) : Int)), some (aI ((w : Nat) : Int)), some (aI ((k : Nat) : Int)), some (aI ((Rlo R (clp R c k) : Nat) : Int))] [aI (bi ((decide (so (Cp R c k) = 0)) && (!decide (((clw R c k : Nat) : Int) ≤ 9)))), aI (bi b1)] (m1, tl len) Q by
          refine E_b_eq0 (b := (decide (so (Cp R c k) = 0))) rfl (by decide) (fun h_6 => ?_) (fun h_6 => ?_)
          · refine E_go (p' := 92) (L' := [some (aA (a + 15)), some (aA (a + 1)), some (aI ((c : Nat) : Int)), some (aI (bi b1)), some (aI (bi b2)), some (aI (bi b3)), some (aI ((sn : Nat) : Int)), some (aI ((w : Nat) : Int)), some (aI ((k : Nat) : Int)), some (aI ((Rlo R (clp R c k) : Nat) : Int))]) (st' := [aI (bi b1)]) rfl rfl rfl ?_
            refine E_s (p' := 93) (st' := aI 0 :: _) rfl rfl ?_
            rw [h_6] at h_5
            exact h_5
          · refine E_go (p' := 76) (L' := [some (aA (a + 15)), some (aA (a + 1)), some (aI ((c : Nat) : Int)), some (aI (bi b1)), some (aI (bi b2)), some (aI (bi b3)), some (aI ((sn : Nat) : Int)), some (aI ((w : Nat) : Int)), some (aI ((k : Nat) : Int)), some (aI ((Rlo R (clp R c k) : Nat) : Int))]) (st' := [aI (bi b1)]) rfl rfl rfl ?_
            refine E_s (p' := 77) (st' := aA (a + 15) :: _) rfl rfl ?_
            refine E_gA (b := a + 25) rfl rfl rfl (kR_15 hR) (hR_15_9 hR) rfl ?_
            refine E_gI (v := ((clw R c k : Nat) : Int)) rfl rfl rfl (kR_25 hR) hp2 ?_
            refine E_s (p' := 85) (st' := aI 9 :: _) rfl rfl ?_
            refine E_icmp_le (x := ((clw R c k : Nat) : Int)) (y := 9) rfl (by decide) (fun h_7 => ?_) (fun h_7 => ?_)
            · refine E_go (p' := 92) (L' := [some (aA (a + 15)), some (aA (a + 1)), some (aI ((c : Nat) : Int)), some (aI (bi b1)), some (aI (bi b2)), some (aI (bi b3)), some (aI ((sn : Nat) : Int)), some (aI ((w : Nat) : Int)), some (aI ((k : Nat) : Int)), some (aI ((Rlo R (clp R c k) : Nat) : Int))]) (st' := [aI (bi b1)]) rfl rfl rfl ?_
              refine E_s (p' := 93) (st' := aI 0 :: _) rfl rfl ?_
              rw [h_6] at h_5
              rw [decide_eq_true (p := ((clw R c k : Nat) : Int) ≤ 9) (by omega)] at h_5
              exact h_5
            · refine E_go (p' := 88) (L' := [some (aA (a + 15)), some (aA (a + 1)), some (aI ((c : Nat) : Int)), some (aI (bi b1)), some (aI (bi b2)), some (aI (bi b3)), some (aI ((sn : Nat) : Int)), some (aI ((w : Nat) : Int)), some (aI ((k : Nat) : Int)), some (aI ((Rlo R (clp R c k) : Nat) : Int))]) (st' := [aI (bi b1)]) rfl rfl rfl ?_
              refine E_s (p' := 89) (st' := aI 1 :: _) rfl rfl ?_
              refine E_s (p' := 93) rfl rfl ?_
              rw [h_6] at h_5
              rw [decide_eq_false (p := ((clw R c k : Nat) : Int) ≤ 9) (by omega)] at h_5
              exact h_5
        refine E_orb (x := b1) (y := ((decide (so (Cp R c k) = 0)) && (!decide (((clw R c k : Nat) : Int) ≤ 9)))) rfl ?_
        refine E_s (p' := 95) (L' := [some (aA (a + 15)), some (aA (a + 1)), some (aI ((c : Nat) : Int)), some (aI (bi (b1 || ((decide (so (Cp R c k) = 0)) && (!decide (((clw R c k : Nat) : Int) ≤ 9)))))), some (aI (bi b2)), some (aI (bi b3)), some (aI ((sn : Nat) : Int)), some (aI ((w : Nat) : Int)), some (aI ((k : Nat) : Int)), some (aI ((Rlo R (clp R c k) : Nat) : Int))]) rfl rfl ?_
        refine E_s (p' := 97) (st' := aI (bi b2) :: _) rfl rfl ?_
        refine E_s (p' := 99) (st' := aI ((sn : Nat) : Int) :: _) rfl rfl ?_
        refine E_s (p' := 101) (st' := aI ((Rlo R (clp R c k) : Nat) : Int) :: _) rfl rfl ?_
        refine E_shr (x := sn) (y := Rlo R (clp R c k)) (v := (sn) / 2 ^ (Rlo R (clp R c k))) rfl (by first | omega | (have := Nat.div_le_self sn (2 ^ (Rlo R (clp R c k))); omega)) (by omega) rfl ?_
        refine E_s (p' := 103) (st' := aI 1 :: _) rfl rfl ?_
        refine E_and (x := (sn) / 2 ^ (Rlo R (clp R c k))) (y := 1) (v := ((sn) / 2 ^ (Rlo R (clp R c k))) &&& 1) rfl (by first | omega | (have := Nat.div_le_self sn (2 ^ (Rlo R (clp R c k))); omega)) (by omega) rfl ?_
        suffices h_8 : E 47 112 [some (aA (a + 15)), some (aA (a + 1)), some (aI ((c : Nat) : Int)), some (aI (bi (b1 || ((decide (so (Cp R c k) = 0)) && (!decide (((clw R c k : Nat) : Int) ≤ 9)))))), some (aI (bi b2)), some (aI (bi b3)), some (aI ((sn : Nat) : Int)), some (aI ((w : Nat) : Int)), some (aI ((k : Nat) : Int)), some (aI ((Rlo R (clp R c k) : Nat) : Int))] [aI (bi (!decide (((((sn) / 2 ^ (Rlo R (clp R c k))) &&& 1 : Nat) : Int) = 0))), aI (bi b2)] (m1, tl len) Q by
          refine E_if_eq (x := ((((sn) / 2 ^ (Rlo R (clp R c k))) &&& 1 : Nat) : Int)) rfl (by decide) (fun h_9 => ?_) (fun h_9 => ?_)
          · refine E_go (p' := 111) (L' := [some (aA (a + 15)), some (aA (a + 1)), some (aI ((c : Nat) : Int)), some (aI (bi (b1 || ((decide (so (Cp R c k) = 0)) && (!decide (((clw R c k : Nat) : Int) ≤ 9)))))), some (aI (bi b2)), some (aI (bi b3)), some (aI ((sn : Nat) : Int)), some (aI ((w : Nat) : Int)), some (aI ((k : Nat) : Int)), some (aI ((Rlo R (clp R c k) : Nat) : Int))]) (st' := [aI (bi b2)]) rfl rfl rfl ?_
            refine E_s (p' := 112) (st' := aI 0 :: _) rfl rfl ?_
            rw [decide_eq_true (p := ((((sn) / 2 ^ (Rlo R (clp R c k))) &&& 1 : Nat) : Int) = 0) (by omega)] at h_8
            exact h_8
          · refine E_go (p' := 107) (L' := [some (aA (a + 15)), some (aA (a + 1)), some (aI ((c : Nat) : Int)), some (aI (bi (b1 || ((decide (so (Cp R c k) = 0)) && (!decide (((clw R c k : Nat) : Int) ≤ 9)))))), some (aI (bi b2)), some (aI (bi b3)), some (aI ((sn : Nat) : Int)), some (aI ((w : Nat) : Int)), some (aI ((k : Nat) : Int)), some (aI ((Rlo R (clp R c k) : Nat) : Int))]) (st' := [aI (bi b2)]) rfl rfl rfl ?_
            refine E_s (p' := 108) (st' := aI 1 :: _) rfl rfl ?_
            refine E_s (p' := 112) rfl rfl ?_
            rw [decide_eq_false (p := ((((sn) / 2 ^ (Rlo R (clp R c k))) &&& 1 : Nat) : Int) = 0) (by omega)] at h_8
            exact h_8
        refine E_orb (x := b2) (y := (!decide (((((sn) / 2 ^ (Rlo R (clp R c k))) &&& 1 : Nat) : Int) = 0))) rfl ?_
        refine E_s (p' := 115) (L' := [some (aA (a + 15)), some (aA (a + 1)), some (aI ((c : Nat) : Int)), some (aI (bi (b1 || ((decide (so (Cp R c k) = 0)) && (!decide (((clw R c k : Nat) : Int) ≤ 9)))))), some (aI (bi (b2 || (!decide (((((sn) / 2 ^ (Rlo R (clp R c k))) &&& 1 : Nat) : Int) = 0))))), some (aI (bi b3)), some (aI ((sn : Nat) : Int)), some (aI ((w : Nat) : Int)), some (aI ((k : Nat) : Int)), some (aI ((Rlo R (clp R c k) : Nat) : Int))]) rfl rfl ?_
        refine E_s (p' := 117) (st' := aI (bi b3) :: _) rfl rfl ?_
        refine E_s (p' := 118) (st' := aA (a + 15) :: _) rfl rfl ?_
        refine E_gA (b := a + 25) rfl rfl rfl (kR_15 hR) (hR_15_9 hR) rfl ?_
        refine E_gI (v := (bi (decide (so (Cp R c k) = 0)))) rfl rfl rfl (kR_25 hR) hp0 ?_
        refine E_s (p' := 125) (st' := aA (a + 15) :: _) rfl rfl ?_
        refine E_gI (v := (bi (Run R))) rfl rfl rfl (kR_15 hR) ((hF1 _ _ (by omega)).trans ((I1 _ _ (by omega)).trans (hL.1))) ?_
        suffices h_10 : E 47 147 [some (aA (a + 15)), some (aA (a + 1)), some (aI ((c : Nat) : Int)), some (aI (bi (b1 || ((decide (so (Cp R c k) = 0)) && (!decide (((clw R c k : Nat) : Int) ≤ 9)))))), some (aI (bi (b2 || (!decide (((((sn) / 2 ^ (Rlo R (clp R c k))) &&& 1 : Nat) : Int) = 0))))), some (aI (bi b3)), some (aI ((sn : Nat) : Int)), some (aI ((w : Nat) : Int)), some (aI ((k : Nat) : Int)), some (aI ((Rlo R (clp R c k) : Nat) : Int))] [aI (bi ((Run R) && (!decide (((Rlo R (clp R c k) : Nat) : Int) ≠ ((RL R : Int) - 1))))), aI (bi (decide (so (Cp R c k) = 0))), aI (bi b3)] (m1, tl len) Q by
          refine E_b_eq0 (b := (Run R)) rfl (by decide) (fun h_11 => ?_) (fun h_11 => ?_)
          · refine E_go (p' := 146) (L' := [some (aA (a + 15)), some (aA (a + 1)), some (aI ((c : Nat) : Int)), some (aI (bi (b1 || ((decide (so (Cp R c k) = 0)) && (!decide (((clw R c k : Nat) : Int) ≤ 9)))))), some (aI (bi (b2 || (!decide (((((sn) / 2 ^ (Rlo R (clp R c k))) &&& 1 : Nat) : Int) = 0))))), some (aI (bi b3)), some (aI ((sn : Nat) : Int)), some (aI ((w : Nat) : Int)), some (aI ((k : Nat) : Int)), some (aI ((Rlo R (clp R c k) : Nat) : Int))]) (st' := [aI (bi (decide (so (Cp R c k) = 0))), aI (bi b3)]) rfl rfl rfl ?_
            refine E_s (p' := 147) (st' := aI 0 :: _) rfl rfl ?_
            rw [h_11] at h_10
            exact h_10
          · refine E_go (p' := 131) (L' := [some (aA (a + 15)), some (aA (a + 1)), some (aI ((c : Nat) : Int)), some (aI (bi (b1 || ((decide (so (Cp R c k) = 0)) && (!decide (((clw R c k : Nat) : Int) ≤ 9)))))), some (aI (bi (b2 || (!decide (((((sn) / 2 ^ (Rlo R (clp R c k))) &&& 1 : Nat) : Int) = 0))))), some (aI (bi b3)), some (aI ((sn : Nat) : Int)), some (aI ((w : Nat) : Int)), some (aI ((k : Nat) : Int)), some (aI ((Rlo R (clp R c k) : Nat) : Int))]) (st' := [aI (bi (decide (so (Cp R c k) = 0))), aI (bi b3)]) rfl rfl rfl ?_
            refine E_s (p' := 133) (st' := aI ((Rlo R (clp R c k) : Nat) : Int) :: _) rfl rfl ?_
            refine E_s (p' := 134) (st' := aA (a + 15) :: _) rfl rfl ?_
            refine E_gI (v := ((RL R : Nat) : Int)) rfl rfl rfl (kR_15 hR) ((hF1 _ _ (by omega)).trans ((I1 _ _ (by omega)).trans (hL.2.1))) ?_
            refine E_s (p' := 138) (st' := aI 1 :: _) rfl rfl ?_
            refine E_sub (v := ((RL R : Int) - 1)) rfl (by omega) (by omega) ?_
            refine E_icmp_ne (x := ((Rlo R (clp R c k) : Nat) : Int)) (y := ((RL R : Int) - 1)) rfl (by decide) (fun h_12 => ?_) (fun h_12 => ?_)
            · refine E_go (p' := 146) (L' := [some (aA (a + 15)), some (aA (a + 1)), some (aI ((c : Nat) : Int)), some (aI (bi (b1 || ((decide (so (Cp R c k) = 0)) && (!decide (((clw R c k : Nat) : Int) ≤ 9)))))), some (aI (bi (b2 || (!decide (((((sn) / 2 ^ (Rlo R (clp R c k))) &&& 1 : Nat) : Int) = 0))))), some (aI (bi b3)), some (aI ((sn : Nat) : Int)), some (aI ((w : Nat) : Int)), some (aI ((k : Nat) : Int)), some (aI ((Rlo R (clp R c k) : Nat) : Int))]) (st' := [aI (bi (decide (so (Cp R c k) = 0))), aI (bi b3)]) rfl rfl rfl ?_
              refine E_s (p' := 147) (st' := aI 0 :: _) rfl rfl ?_
              rw [h_11] at h_10
              rw [decide_eq_true (p := ((Rlo R (clp R c k) : Nat) : Int) ≠ ((RL R : Int) - 1)) (by omega)] at h_10
              exact h_10
            · refine E_go (p' := 142) (L' := [some (aA (a + 15)), some (aA (a + 1)), some (aI ((c : Nat) : Int)), some (aI (bi (b1 || ((decide (so (Cp R c k) = 0)) && (!decide (((clw R c k : Nat) : Int) ≤ 9)))))), some (aI (bi (b2 || (!decide (((((sn) / 2 ^ (Rlo R (clp R c k))) &&& 1 : Nat) : Int) = 0))))), some (aI (bi b3)), some (aI ((sn : Nat) : Int)), some (aI ((w : Nat) : Int)), some (aI ((k : Nat) : Int)), some (aI ((Rlo R (clp R c k) : Nat) : Int))]) (st' := [aI (bi (decide (so (Cp R c k) = 0))), aI (bi b3)]) rfl rfl rfl ?_
              refine E_s (p' := 143) (st' := aI 1 :: _) rfl rfl ?_
              refine E_s (p' := 147) rfl rfl ?_
              rw [h_11] at h_10
              rw [decide_eq_false (p := ((Rlo R (clp R c k) : Nat) : Int) ≠ ((RL R : Int) - 1)) (by omega)] at h_10
              exact h_10
        suffices h_13 : E 47 155 [some (aA (a + 15)), some (aA (a + 1)), some (aI ((c : Nat) : Int)), some (aI (bi (b1 || ((decide (so (Cp R c k) = 0)) && (!decide (((clw R c k : Nat) : Int) ≤ 9)))))), some (aI (bi (b2 || (!decide (((((sn) / 2 ^ (Rlo R (clp R c k))) &&& 1 : Nat) : Int) = 0))))), some (aI (bi b3)), some (aI ((sn : Nat) : Int)), some (aI ((w : Nat) : Int)), some (aI ((k : Nat) : Int)), some (aI ((Rlo R (clp R c k) : Nat) : Int))] [aI (bi ((decide (so (Cp R c k) = 0)) == ((Run R) && (!decide (((Rlo R (clp R c k) : Nat) : Int) ≠ ((RL R : Int) - 1)))))), aI (bi b3)] (m1, tl len) Q by
          refine E_bb_ne (x := (decide (so (Cp R c k) = 0))) (y := ((Run R) && (!decide (((Rlo R (clp R c k) : Nat) : Int) ≠ ((RL R : Int) - 1))))) rfl (by decide) (fun h_14 => ?_) (fun h_14 => ?_)
          · refine E_go (p' := 154) (L' := [some (aA (a + 15)), some (aA (a + 1)), some (aI ((c : Nat) : Int)), some (aI (bi (b1 || ((decide (so (Cp R c k) = 0)) && (!decide (((clw R c k : Nat) : Int) ≤ 9)))))), some (aI (bi (b2 || (!decide (((((sn) / 2 ^ (Rlo R (clp R c k))) &&& 1 : Nat) : Int) = 0))))), some (aI (bi b3)), some (aI ((sn : Nat) : Int)), some (aI ((w : Nat) : Int)), some (aI ((k : Nat) : Int)), some (aI ((Rlo R (clp R c k) : Nat) : Int))]) (st' := [aI (bi b3)]) rfl rfl rfl ?_
            refine E_s (p' := 155) (st' := aI 0 :: _) rfl rfl ?_
            rw [h_14] at h_13
            exact h_13
          · refine E_go (p' := 150) (L' := [some (aA (a + 15)), some (aA (a + 1)), some (aI ((c : Nat) : Int)), some (aI (bi (b1 || ((decide (so (Cp R c k) = 0)) && (!decide (((clw R c k : Nat) : Int) ≤ 9)))))), some (aI (bi (b2 || (!decide (((((sn) / 2 ^ (Rlo R (clp R c k))) &&& 1 : Nat) : Int) = 0))))), some (aI (bi b3)), some (aI ((sn : Nat) : Int)), some (aI ((w : Nat) : Int)), some (aI ((k : Nat) : Int)), some (aI ((Rlo R (clp R c k) : Nat) : Int))]) (st' := [aI (bi b3)]) rfl rfl rfl ?_
            refine E_s (p' := 151) (st' := aI 1 :: _) rfl rfl ?_
            refine E_s (p' := 155) rfl rfl ?_
            rw [h_14] at h_13
            exact h_13
        refine E_orb (x := b3) (y := ((decide (so (Cp R c k) = 0)) == ((Run R) && (!decide (((Rlo R (clp R c k) : Nat) : Int) ≠ ((RL R : Int) - 1)))))) rfl ?_
        refine E_s (p' := 158) (L' := [some (aA (a + 15)), some (aA (a + 1)), some (aI ((c : Nat) : Int)), some (aI (bi (b1 || ((decide (so (Cp R c k) = 0)) && (!decide (((clw R c k : Nat) : Int) ≤ 9)))))), some (aI (bi (b2 || (!decide (((((sn) / 2 ^ (Rlo R (clp R c k))) &&& 1 : Nat) : Int) = 0))))), some (aI (bi (b3 || ((decide (so (Cp R c k) = 0)) == ((Run R) && (!decide (((Rlo R (clp R c k) : Nat) : Int) ≠ ((RL R : Int) - 1)))))))), some (aI ((sn : Nat) : Int)), some (aI ((w : Nat) : Int)), some (aI ((k : Nat) : Int)), some (aI ((Rlo R (clp R c k) : Nat) : Int))]) rfl rfl ?_
        refine E_s (p' := 160) (st' := aI ((sn : Nat) : Int) :: _) rfl rfl ?_
        refine E_s (p' := 161) (st' := aI 1 :: _) rfl rfl ?_
        refine E_s (p' := 163) (st' := aI ((Rlo R (clp R c k) : Nat) : Int) :: _) rfl rfl ?_
        refine E_shl (x := 1) (y := Rlo R (clp R c k)) (v := (1) * 2 ^ (Rlo R (clp R c k))) rfl (by first | omega | (have := Nat.div_le_self sn (2 ^ (Rlo R (clp R c k))); omega)) (by omega) rfl ?_
        refine E_or (x := sn) (y := (1) * 2 ^ (Rlo R (clp R c k))) (v := (sn) ||| ((1) * 2 ^ (Rlo R (clp R c k)))) rfl (by first | omega | (have := Nat.div_le_self sn (2 ^ (Rlo R (clp R c k))); omega)) (by omega) rfl ?_
        refine E_s (p' := 167) (L' := [some (aA (a + 15)), some (aA (a + 1)), some (aI ((c : Nat) : Int)), some (aI (bi (b1 || ((decide (so (Cp R c k) = 0)) && (!decide (((clw R c k : Nat) : Int) ≤ 9)))))), some (aI (bi (b2 || (!decide (((((sn) / 2 ^ (Rlo R (clp R c k))) &&& 1 : Nat) : Int) = 0))))), some (aI (bi (b3 || ((decide (so (Cp R c k) = 0)) == ((Run R) && (!decide (((Rlo R (clp R c k) : Nat) : Int) ≠ ((RL R : Int) - 1)))))))), some (aI (((sn) ||| ((1) * 2 ^ (Rlo R (clp R c k))) : Nat) : Int)), some (aI ((w : Nat) : Int)), some (aI ((k : Nat) : Int)), some (aI ((Rlo R (clp R c k) : Nat) : Int))]) rfl rfl ?_
        refine E_s (p' := 169) (st' := aI ((w : Nat) : Int) :: _) rfl rfl ?_
        refine E_s (p' := 170) (st' := aA (a + 15) :: _) rfl rfl ?_
        refine E_s (p' := 172) (st' := aI ((Rlo R (clp R c k) : Nat) : Int) :: _) rfl rfl ?_
        refine E_s (p' := 173) (st' := aA (a + 1) :: _) rfl rfl ?_
        refine E_gA (b := a + 6) rfl rfl rfl (kR_1 hR) (hR_1_4 hR) rfl ?_
        refine E_s (p' := 177) (st' := aI ((c : Nat) : Int) :: _) rfl rfl ?_
        refine E_ald (e := c) (N := 60) (v := ((Ct R c : Nat) : Int)) rfl (kR_6 hR) (rfl) (by omega) ((hF1 _ _ (by omega)).trans ((I1 _ _ (by omega)).trans (CR_6 hC hc))) ?_
        refine E_callV (k' := 49) (a := a + 15) (r := [aI ((w : Nat) : Int)]) (L0 := [some (aA (a + 15)), some (aI ((Rlo R (clp R c k) : Nat) : Int)), some (aI ((Ct R c : Nat) : Int))]) rfl rfl rfl rfl rfl (kR_15 hR) rfl rfl rfl rfl ?_
        refine c_isLost (n := RL R) (La := Rla R) hR (by omega) ((hF1 _ _ (by omega)).trans ((I1 _ _ (by omega)).trans hL.2.1)) (fun l hl => (hF1 _ _ (by omega)).trans ((I1 _ _ (by omega)).trans (hL.2.2.1 l hl))) (l := Rlo R (clp R c k)) (t := Ct R c) (by omega) ?_
        refine E_go (p' := 181) (L' := [some (aA (a + 15)), some (aA (a + 1)), some (aI ((c : Nat) : Int)), some (aI (bi (b1 || ((decide (so (Cp R c k) = 0)) && (!decide (((clw R c k : Nat) : Int) ≤ 9)))))), some (aI (bi (b2 || (!decide (((((sn) / 2 ^ (Rlo R (clp R c k))) &&& 1 : Nat) : Int) = 0))))), some (aI (bi (b3 || ((decide (so (Cp R c k) = 0)) == ((Run R) && (!decide (((Rlo R (clp R c k) : Nat) : Int) ≠ ((RL R : Int) - 1)))))))), some (aI (((sn) ||| ((1) * 2 ^ (Rlo R (clp R c k))) : Nat) : Int)), some (aI ((w : Nat) : Int)), some (aI ((k : Nat) : Int)), some (aI ((Rlo R (clp R c k) : Nat) : Int))]) (st' := [aI (bi (lstv (Rla R) (Ct R c) (Rlo R (clp R c k)))), aI ((w : Nat) : Int)]) rfl rfl rfl ?_
        refine E_b_eq0 (b := (lstv (Rla R) (Ct R c) (Rlo R (clp R c k)))) rfl (by decide) (fun h_15 => ?_) (fun h_15 => ?_)
        · refine E_go (p' := 188) (L' := [some (aA (a + 15)), some (aA (a + 1)), some (aI ((c : Nat) : Int)), some (aI (bi (b1 || ((decide (so (Cp R c k) = 0)) && (!decide (((clw R c k : Nat) : Int) ≤ 9)))))), some (aI (bi (b2 || (!decide (((((sn) / 2 ^ (Rlo R (clp R c k))) &&& 1 : Nat) : Int) = 0))))), some (aI (bi (b3 || ((decide (so (Cp R c k) = 0)) == ((Run R) && (!decide (((Rlo R (clp R c k) : Nat) : Int) ≠ ((RL R : Int) - 1)))))))), some (aI (((sn) ||| ((1) * 2 ^ (Rlo R (clp R c k))) : Nat) : Int)), some (aI ((w : Nat) : Int)), some (aI ((k : Nat) : Int)), some (aI ((Rlo R (clp R c k) : Nat) : Int))]) (st' := [aI ((w : Nat) : Int)]) rfl rfl rfl ?_
          refine E_s (p' := 189) (st' := aA (a + 15) :: _) rfl rfl ?_
          refine E_gA (b := a + 25) rfl rfl rfl (kR_15 hR) (hR_15_9 hR) rfl ?_
          refine E_gI (v := ((clw R c k : Nat) : Int)) rfl rfl rfl (kR_25 hR) hp2 ?_
          refine E_s (p' := 196) (st' := aA (a + 15) :: _) rfl rfl ?_
          refine E_gA (b := a + 18) rfl rfl rfl (kR_15 hR) (hR_15_2 hR) rfl ?_
          refine E_s (p' := 201) (st' := aI ((Rlo R (clp R c k) : Nat) : Int) :: _) rfl rfl ?_
          refine E_ald (e := Rlo R (clp R c k)) (N := 6) (v := ((Rct R (Rlo R (clp R c k)) : Nat) : Int)) rfl (kR_18 hR) (rfl) (by omega) ((hF1 _ _ (by omega)).trans ((I1 _ _ (by omega)).trans (hL.2.2.2 _ (by omega)))) ?_
          refine E_mulN (x := clw R c k) (y := Rct R (Rlo R (clp R c k))) rfl (by omega) ?_
          refine E_add (v := ((w + (clw R c k) * (Rct R (Rlo R (clp R c k))) : Nat) : Int)) rfl (by omega) (by omega) ?_
          refine E_s (p' := 206) (L' := [some (aA (a + 15)), some (aA (a + 1)), some (aI ((c : Nat) : Int)), some (aI (bi (b1 || ((decide (so (Cp R c k) = 0)) && (!decide (((clw R c k : Nat) : Int) ≤ 9)))))), some (aI (bi (b2 || (!decide (((((sn) / 2 ^ (Rlo R (clp R c k))) &&& 1 : Nat) : Int) = 0))))), some (aI (bi (b3 || ((decide (so (Cp R c k) = 0)) == ((Run R) && (!decide (((Rlo R (clp R c k) : Nat) : Int) ≠ ((RL R : Int) - 1)))))))), some (aI (((sn) ||| ((1) * 2 ^ (Rlo R (clp R c k))) : Nat) : Int)), some (aI ((w + (clw R c k) * (Rct R (Rlo R (clp R c k))) : Nat) : Int)), some (aI ((k : Nat) : Int)), some (aI ((Rlo R (clp R c k) : Nat) : Int))]) rfl rfl ?_
          refine E_inc (x := ((k : Nat) : Int)) (w := ((k + 1 : Nat) : Int)) (L' := [some (aA (a + 15)), some (aA (a + 1)), some (aI ((c : Nat) : Int)), some (aI (bi (b1 || ((decide (so (Cp R c k) = 0)) && (!decide (((clw R c k : Nat) : Int) ≤ 9)))))), some (aI (bi (b2 || (!decide (((((sn) / 2 ^ (Rlo R (clp R c k))) &&& 1 : Nat) : Int) = 0))))), some (aI (bi (b3 || ((decide (so (Cp R c k) = 0)) == ((Run R) && (!decide (((Rlo R (clp R c k) : Nat) : Int) ≠ ((RL R : Int) - 1)))))))), some (aI (((sn) ||| ((1) * 2 ^ (Rlo R (clp R c k))) : Nat) : Int)), some (aI ((w + (clw R c k) * (Rct R (Rlo R (clp R c k))) : Nat) : Int)), some (aI ((k + 1 : Nat) : Int)), some (aI ((Rlo R (clp R c k) : Nat) : Int))]) rfl rfl rfl (by omega) (by omega) rfl ?_
          refine E_s (p' := 24) rfl rfl ?_
          refine ih (k + 1) _ _ _ _ _ m1 _ (by omega) (by omega) ?_ ?_ ?_ ?_ (fun j hj => ?_) ?_ (fun b j hb9 => (hF1 _ _ (by omega)).trans (I1 b j hb9)) (by rw [beg_t he1]; exact hp3)
          · rw [cls_t he1, rMany_app, e1]
            congr 2
            by_cases g : 9 < clw R c k
            · rw [decide_eq_true g, decide_eq_false (by omega)]; rfl
            · rw [decide_eq_false g, decide_eq_true (by omega)]; rfl
          · rw [cls_t he1, rTw_app, e2, sn_0 (hsb (Rlo R (clp R c k)) (by omega))]
          · rw [cls_t he1, rAs_app, e3]
            congr 2
            congr 1
            by_cases g : Rlo R (clp R c k) + 1 = RL R
            · rw [decide_eq_true g, decide_eq_false (by omega)]; rfl
            · rw [decide_eq_false g, decide_eq_true (by omega)]; rfl
          · exact Nat.or_lt_two_pow (n := 6) hs64 (by have := Nat.pow_lt_pow_right (a := 2) (by decide) (show Rlo R (clp R c k) < 6 by omega); omega)
          · rw [cls_t he1, List.any_append, sn_up (f := fun j => (cls R c k).any fun q => Rlo R q.1 == j) (hsb j hj)]; simp
          · rw [cls_t he1, rSum_app, ew, lst_v, show lstv (Rla R) (Ct R c) (Rlo R (clp R c k, so (Cp R c k), clw R c k).fst) = false by assumption]; rfl
        · refine E_go (p' := 184) (L' := [some (aA (a + 15)), some (aA (a + 1)), some (aI ((c : Nat) : Int)), some (aI (bi (b1 || ((decide (so (Cp R c k) = 0)) && (!decide (((clw R c k : Nat) : Int) ≤ 9)))))), some (aI (bi (b2 || (!decide (((((sn) / 2 ^ (Rlo R (clp R c k))) &&& 1 : Nat) : Int) = 0))))), some (aI (bi (b3 || ((decide (so (Cp R c k) = 0)) == ((Run R) && (!decide (((Rlo R (clp R c k) : Nat) : Int) ≠ ((RL R : Int) - 1)))))))), some (aI (((sn) ||| ((1) * 2 ^ (Rlo R (clp R c k))) : Nat) : Int)), some (aI ((w : Nat) : Int)), some (aI ((k : Nat) : Int)), some (aI ((Rlo R (clp R c k) : Nat) : Int))]) (st' := [aI ((w : Nat) : Int)]) rfl rfl rfl ?_
          refine E_s (p' := 185) (st' := aI 0 :: _) rfl rfl ?_
          refine E_s (p' := 203) rfl rfl ?_
          refine E_add (v := ((w : Nat) : Int)) rfl (by omega) (by omega) ?_
          refine E_s (p' := 206) (L' := [some (aA (a + 15)), some (aA (a + 1)), some (aI ((c : Nat) : Int)), some (aI (bi (b1 || ((decide (so (Cp R c k) = 0)) && (!decide (((clw R c k : Nat) : Int) ≤ 9)))))), some (aI (bi (b2 || (!decide (((((sn) / 2 ^ (Rlo R (clp R c k))) &&& 1 : Nat) : Int) = 0))))), some (aI (bi (b3 || ((decide (so (Cp R c k) = 0)) == ((Run R) && (!decide (((Rlo R (clp R c k) : Nat) : Int) ≠ ((RL R : Int) - 1)))))))), some (aI (((sn) ||| ((1) * 2 ^ (Rlo R (clp R c k))) : Nat) : Int)), some (aI ((w : Nat) : Int)), some (aI ((k : Nat) : Int)), some (aI ((Rlo R (clp R c k) : Nat) : Int))]) rfl rfl ?_
          refine E_inc (x := ((k : Nat) : Int)) (w := ((k + 1 : Nat) : Int)) (L' := [some (aA (a + 15)), some (aA (a + 1)), some (aI ((c : Nat) : Int)), some (aI (bi (b1 || ((decide (so (Cp R c k) = 0)) && (!decide (((clw R c k : Nat) : Int) ≤ 9)))))), some (aI (bi (b2 || (!decide (((((sn) / 2 ^ (Rlo R (clp R c k))) &&& 1 : Nat) : Int) = 0))))), some (aI (bi (b3 || ((decide (so (Cp R c k) = 0)) == ((Run R) && (!decide (((Rlo R (clp R c k) : Nat) : Int) ≠ ((RL R : Int) - 1)))))))), some (aI (((sn) ||| ((1) * 2 ^ (Rlo R (clp R c k))) : Nat) : Int)), some (aI ((w : Nat) : Int)), some (aI ((k + 1 : Nat) : Int)), some (aI ((Rlo R (clp R c k) : Nat) : Int))]) rfl rfl rfl (by omega) (by omega) rfl ?_
          refine E_s (p' := 24) rfl rfl ?_
          refine ih (k + 1) _ _ _ _ _ m1 _ (by omega) (by omega) ?_ ?_ ?_ ?_ (fun j hj => ?_) ?_ (fun b j hb9 => (hF1 _ _ (by omega)).trans (I1 b j hb9)) (by rw [beg_t he1]; exact hp3)
          · rw [cls_t he1, rMany_app, e1]
            congr 2
            by_cases g : 9 < clw R c k
            · rw [decide_eq_true g, decide_eq_false (by omega)]; rfl
            · rw [decide_eq_false g, decide_eq_true (by omega)]; rfl
          · rw [cls_t he1, rTw_app, e2, sn_0 (hsb (Rlo R (clp R c k)) (by omega))]
          · rw [cls_t he1, rAs_app, e3]
            congr 2
            congr 1
            by_cases g : Rlo R (clp R c k) + 1 = RL R
            · rw [decide_eq_true g, decide_eq_false (by omega)]; rfl
            · rw [decide_eq_false g, decide_eq_true (by omega)]; rfl
          · exact Nat.or_lt_two_pow (n := 6) hs64 (by have := Nat.pow_lt_pow_right (a := 2) (by decide) (show Rlo R (clp R c k) < 6 by omega); omega)
          · rw [cls_t he1, List.any_append, sn_up (f := fun j => (cls R c k).any fun q => Rlo R q.1 == j) (hsb j hj)]; simp
          · rw [cls_t he1, rSum_app, ew, lst_v, show lstv (Rla R) (Ct R c) (Rlo R (clp R c k, so (Cp R c k), clw R c k).fst) = true by assumption]; rfl
      · refine E_go (p' := 46) (L' := [some (aA (a + 15)), some (aA (a + 1)), some (aI ((c : Nat) : Int)), some (aI (bi b1)), some (aI (bi b2)), some (aI (bi b3)), some (aI ((sn : Nat) : Int)), some (aI ((w : Nat) : Int)), some (aI ((k : Nat) : Int)), x9]) (st' := [aI 0]) rfl rfl rfl ?_
        refine E_s (p' := 49) rfl rfl ?_
        refine E_s (p' := 206) rfl rfl ?_
        refine E_inc (x := ((k : Nat) : Int)) (w := ((k + 1 : Nat) : Int)) (L' := [some (aA (a + 15)), some (aA (a + 1)), some (aI ((c : Nat) : Int)), some (aI (bi b1)), some (aI (bi b2)), some (aI (bi b3)), some (aI ((sn : Nat) : Int)), some (aI ((w : Nat) : Int)), some (aI ((k + 1 : Nat) : Int)), x9]) rfl rfl rfl (by omega) (by omega) rfl ?_
        refine E_s (p' := 24) rfl rfl ?_
        exact ih (k + 1) b1 b2 b3 sn w m1 _ (by omega) (by omega) (by rw [cls_f he0]; exact e1) (by rw [cls_f he0]; exact e2) (by rw [cls_f he0]; exact e3) hs64 (by rw [cls_f he0]; exact hsb) (by rw [cls_f he0]; exact ew) (fun b j hb9 => (hF1 _ _ (by omega)).trans (I1 b j hb9)) (by rw [beg_f he0]; exact hp3)
theorem c_readCord (hR : isR a) (hC : CR R a m0) (hV : VR R) (hc : c < Cn R) (h1 : 1 ≤ RL R) (hL : RL0 R a m0) (q : ∀ m1 : Mm, (∀ b j, ¬ (a + 21 ≤ b ∧ b ≤ a + 23 ∧ j = c) → b ≠ a + 25 → m1 b j = m0 b j) → m1 (a + 21) c = (Rft R c : Int) → m1 (a + 22) c = (Rvl R c : Int) → m1 (a + 23) c = (Rls R c : Int) → Q none (m1, tl len)) : E 47 0 [some (aA (a + 15)), some (aA (a + 1)), some (aI ((c : Nat) : Int)), none, none, none, none, none, none, none] [] (m0, tl len) Q := by
  refine E_s (p' := 1) (st' := aI 0 :: _) rfl rfl ?_
  refine E_s (p' := 2) (L' := [some (aA (a + 15)), some (aA (a + 1)), some (aI ((c : Nat) : Int)), some (aI 0), none, none, none, none, none, none]) rfl rfl ?_
  refine E_s (p' := 3) (st' := aI 0 :: _) rfl rfl ?_
  refine E_s (p' := 5) (L' := [some (aA (a + 15)), some (aA (a + 1)), some (aI ((c : Nat) : Int)), some (aI 0), some (aI 0), none, none, none, none, none]) rfl rfl ?_
  refine E_s (p' := 6) (st' := aI 0 :: _) rfl rfl ?_
  refine E_s (p' := 8) (L' := [some (aA (a + 15)), some (aA (a + 1)), some (aI ((c : Nat) : Int)), some (aI 0), some (aI 0), some (aI 0), none, none, none, none]) rfl rfl ?_
  refine E_s (p' := 9) (st' := aI 0 :: _) rfl rfl ?_
  refine E_s (p' := 11) (L' := [some (aA (a + 15)), some (aA (a + 1)), some (aI ((c : Nat) : Int)), some (aI 0), some (aI 0), some (aI 0), some (aI 0), none, none, none]) rfl rfl ?_
  refine E_s (p' := 12) (st' := aI 0 :: _) rfl rfl ?_
  refine E_s (p' := 14) (L' := [some (aA (a + 15)), some (aA (a + 1)), some (aI ((c : Nat) : Int)), some (aI 0), some (aI 0), some (aI 0), some (aI 0), some (aI 0), none, none]) rfl rfl ?_
  refine E_s (p' := 15) (st' := aA (a + 15) :: _) rfl rfl ?_
  refine E_gA (b := a + 25) rfl rfl rfl (kR_15 hR) (hR_15_9 hR) rfl ?_
  refine E_callV (k' := 39) (a := a + 25) (r := []) (L0 := [some (aA (a + 25))]) rfl rfl rfl rfl rfl (kR_25 hR) rfl rfl rfl rfl ?_
  refine c_wbegin hR ?_
  refine E_go (p' := 21) (L' := [some (aA (a + 15)), some (aA (a + 1)), some (aI ((c : Nat) : Int)), some (aI 0), some (aI 0), some (aI 0), some (aI 0), some (aI 0), none, none]) (st' := []) rfl rfl rfl ?_
  refine E_s (p' := 22) (st' := aI 0 :: _) rfl rfl ?_
  refine E_s (p' := 24) (L' := [some (aA (a + 15)), some (aA (a + 1)), some (aI ((c : Nat) : Int)), some (aI 0), some (aI 0), some (aI 0), some (aI 0), some (aI 0), some (aI 0), none]) rfl rfl ?_
  have hab := isR_b hR
  exact yl_rc hR (hC.of (fun b j g1 g2 _ => up2_ne (by omega))) hV hc h1 ⟨(up2_ne (by omega)).trans hL.1, (up2_ne (by omega)).trans hL.2.1, fun l hl => (up2_ne (by omega)).trans (hL.2.2.1 l hl), fun l hl => (up2_ne (by omega)).trans (hL.2.2.2 l hl)⟩ (fun m1 g1 g2 g3 g4 => q m1 (fun b j k1 k2 => (g1 b j k1 k2).trans (up2_ne k2)) g2 g3 g4) (Ck R c + 1) 0 false false false 0 0 _ none (by omega) (by omega) rfl rfl rfl (by omega) (fun j _ => Nat.zero_testBit j) rfl Fx.rf up2_eq
end

theorem cls_pl {R : RD} (hV : VR R) {c : Nat} (hc : c < Cn R) : ∀ k, k ≤ Ck R c → ∀ q ∈ cls R c k, 1 ≤ q.1 ∧ q.1 ≤ 600 := by
  intro k
  induction k with
  | zero => intro _ q hq; cases hq
  | succ k ih =>
    intro hk q hq
    cases he : ends R c k with
    | true =>
      rw [cls_t he] at hq
      rcases List.mem_append.mp hq with g | g
      · exact ih (by omega) q g
      · rw [List.mem_singleton.mp g]; exact clp_b hV hc (by omega)
    | false => rw [cls_f he] at hq; exact ih (by omega) q hq
theorem acl_pl {R : RD} (hV : VR R) : ∀ c, c ≤ Cn R → ∀ q ∈ acl R c, 1 ≤ q.1 ∧ q.1 ≤ 600 := by
  intro c
  induction c with
  | zero => intro _ q hq; cases hq
  | succ c ih =>
    intro hc q hq
    have hq' : q ∈ acl R c ++ clsA R c := hq
    rcases List.mem_append.mp hq' with g | g
    · exact ih (by omega) q g
    · exact cls_pl hV (by omega) _ (Nat.le_refl _) q g
theorem atp_0 {R : RD} (hV : VR R) : atp (RA R) 0 = 0 := by
  unfold atp
  rw [List.countP_eq_zero]
  intro q hq
  have := acl_pl hV (Cn R) (Nat.le_refl _) q hq
  simp
  omega
theorem atp_b {R : RD} (hV : VR R) (h : Nat) : atp (RA R) h ≤ 1800 := by
  have h1 := atp_le (RA R) h
  have h2 := acl_len hV (Cn R) (Nat.le_refl _)
  have h3 := hV.1
  have h4 : (RA R).length = (acl R (Cn R)).length := rfl
  omega
def Rtd (R : RD) (c : Nat) : Int := if Rft R c = 0 then (Rvl R c : Int) else -10 - (Rft R c : Int)
theorem Rft_b (R : RD) (c : Nat) : Rft R c ≤ 4 := by
  unfold Rft
  split
  · have := bn_le (Rkt R); omega
  · cases rMany R (clsA R c)
    · cases rTw R (clsA R c).reverse
      · cases rAs R (clsA R c)
        · exact Nat.zero_le 4
        · exact Nat.le_refl 4
      · show 3 ≤ 4; omega
    · show 2 ≤ 4; omega
theorem Rvl_b {R : RD} (hV : VR R) {c : Nat} (hc : c < Cn R) : Rvl R c ≤ 900000000 := by
  unfold Rvl
  split
  · omega
  · split
    · have h1 := rSum_le (c := c) (show 1 ≤ RL R by omega) (clsA R c) (cls_wb hV hc _ (Nat.le_refl _))
      have h2 := cls_len R c (Ck R c)
      have h3 := (hV.2.2.1 c hc).2.2.2.2.2
      have h4 : (clsA R c).length = (cls R c (Ck R c)).length := rfl
      omega
    · omega
section
variable {len : Nat} {m : Mm} {Q : Option AV → Sx → Prop} {R : RD} {a c : Nat}
theorem c_rwl {u : Bool} (hR : isR a) (hu : m (a + 15) 10 = bi u) (q : Q none (fillm (fillm (fillm m (a + 21) 0 60 (bn u : Int)) (a + 22) 0 60 0) (a + 23) 0 60 0, tl len)) : E 45 0 [some (aA (a + 15))] [] (m, tl len) Q := by
  refine E_s (p' := 1) (st' := aA (a + 15) :: _) rfl rfl ?_
  refine E_gA (b := a + 21) rfl rfl rfl (kR_15 hR) (hR_15_5 hR) rfl ?_
  refine E_s (p' := 5) (st' := aA (a + 15) :: _) rfl rfl ?_
  refine E_gI (v := (bi u)) rfl rfl rfl (kR_15 hR) hu ?_
  refine E_b_eq0 (b := u) rfl (by decide) (fun h_1 => ?_) (fun h_1 => ?_)
  · refine E_go (p' := 15) (L' := [some (aA (a + 15))]) (st' := [aA (a + 21)]) rfl rfl rfl ?_
    refine E_s (p' := 16) (st' := aI 0 :: _) rfl rfl ?_
    refine E_callL (p' := 19) (L0 := [some (aA (a + 21)), some (aI 0), none, none]) rfl rfl rfl ?_
    refine c_fillL (N := 60) (kR_21 hR) ?_
    refine E_go (p' := 19) (L' := [some (aA (a + 15))]) (st' := []) rfl rfl rfl ?_
    refine E_s (p' := 20) (st' := aA (a + 15) :: _) rfl rfl ?_
    refine E_gA (b := a + 22) rfl rfl rfl (kR_15 hR) (hR_15_6 hR) rfl ?_
    refine E_s (p' := 24) (st' := aI 0 :: _) rfl rfl ?_
    refine E_callL (p' := 27) (L0 := [some (aA (a + 22)), some (aI 0), none, none]) rfl rfl rfl ?_
    refine c_fillL (N := 60) (kR_22 hR) ?_
    refine E_go (p' := 27) (L' := [some (aA (a + 15))]) (st' := []) rfl rfl rfl ?_
    refine E_s (p' := 28) (st' := aA (a + 15) :: _) rfl rfl ?_
    refine E_gA (b := a + 23) rfl rfl rfl (kR_15 hR) (hR_15_7 hR) rfl ?_
    refine E_s (p' := 32) (st' := aI 0 :: _) rfl rfl ?_
    refine E_callL (p' := 35) (L0 := [some (aA (a + 23)), some (aI 0), none, none]) rfl rfl rfl ?_
    refine c_fillL (N := 60) (kR_23 hR) ?_
    refine E_go (p' := 35) (L' := [some (aA (a + 15))]) (st' := []) rfl rfl rfl ?_
    refine E_ret rfl rfl ?_
    rw [h_1] at q
    exact q
  · refine E_go (p' := 11) (L' := [some (aA (a + 15))]) (st' := [aA (a + 21)]) rfl rfl rfl ?_
    refine E_s (p' := 12) (st' := aI 1 :: _) rfl rfl ?_
    refine E_s (p' := 16) rfl rfl ?_
    refine E_callL (p' := 19) (L0 := [some (aA (a + 21)), some (aI 1), none, none]) rfl rfl rfl ?_
    refine c_fillL (N := 60) (kR_21 hR) ?_
    refine E_go (p' := 19) (L' := [some (aA (a + 15))]) (st' := []) rfl rfl rfl ?_
    refine E_s (p' := 20) (st' := aA (a + 15) :: _) rfl rfl ?_
    refine E_gA (b := a + 22) rfl rfl rfl (kR_15 hR) (hR_15_6 hR) rfl ?_
    refine E_s (p' := 24) (st' := aI 0 :: _) rfl rfl ?_
    refine E_callL (p' := 27) (L0 := [some (aA (a + 22)), some (aI 0), none, none]) rfl rfl rfl ?_
    refine c_fillL (N := 60) (kR_22 hR) ?_
    refine E_go (p' := 27) (L' := [some (aA (a + 15))]) (st' := []) rfl rfl rfl ?_
    refine E_s (p' := 28) (st' := aA (a + 15) :: _) rfl rfl ?_
    refine E_gA (b := a + 23) rfl rfl rfl (kR_15 hR) (hR_15_7 hR) rfl ?_
    refine E_s (p' := 32) (st' := aI 0 :: _) rfl rfl ?_
    refine E_callL (p' := 35) (L0 := [some (aA (a + 23)), some (aI 0), none, none]) rfl rfl rfl ?_
    refine c_fillL (N := 60) (kR_23 hR) ?_
    refine E_go (p' := 35) (L' := [some (aA (a + 15))]) (st' := []) rfl rfl rfl ?_
    refine E_ret rfl rfl ?_
    rw [h_1] at q
    exact q
end
section
variable {len : Nat} {m0 : Mm} {Q : Option AV → Sx → Prop} {R : RD} {a : Nat}
theorem yl_rd (hR : isR a) (hC : CR R a m0) (hV : VR R) (q : ∀ m1 : Mm, Fx (a + 15) (a + 25) m0 m1 → RdC R a m1 → Q none (m1, tl len)) (h1 : 1 ≤ RL R) : ∀ (d : Nat) (c g : Nat) (m : Mm), (Cn R < c + d) → (c ≤ Cn R) → (Fx (a + 15) (a + 25) m0 m) → (RL0 R a m) → (∀ l, l < RL R → m (a + 16) l = (RF R l : Int) ∧ m (a + 19) l = (Rme R l : Int)) → (∀ e, e < Cn R → m (a + 20) e = ((clsA R e).length : Int)) → (∀ e, e < c → m (a + 21) e = (Rft R e : Int) ∧ m (a + 22) e = (Rvl R e : Int) ∧ m (a + 23) e = (Rls R e : Int)) → E 36 28 [some (aA (a + 15)), some (aA (a + 1)), some (aI ((g : Nat) : Int)), some (aI ((c : Nat) : Int))] [] (m, tl len) Q := by
  intro d
  induction d with
  | zero => intro c g m hd hcn I1 hL I2 I3 I4; omega
  | succ d ih =>
    intro c g m hd hcn I1 hL I2 I3 I4
    have hab := isR_b hR
    have hn60 := hV.1
    have hCm : CR R a m := hC.of (fun b j g1 g2 _ => I1 b j (by omega))
    refine E_s (p' := 29) (st' := aI ((c : Nat) : Int) :: _) rfl rfl ?_
    refine E_s (p' := 30) (st' := aA (a + 1) :: _) rfl rfl ?_
    refine E_gI (v := ((Cn R : Nat) : Int)) rfl rfl rfl (kR_1 hR) hCm.1 ?_
    refine E_icmp_ge (x := ((c : Nat) : Int)) (y := ((Cn R : Nat) : Int)) rfl (by decide) (fun h_1 => ?_) (fun h_1 => ?_)
    · refine E_go (p' := 48) (L' := [some (aA (a + 15)), some (aA (a + 1)), some (aI ((g : Nat) : Int)), some (aI ((c : Nat) : Int))]) (st' := []) rfl rfl rfl ?_
      refine E_ret rfl rfl ?_
      have ec : c = Cn R := by omega
      subst ec
      exact q m I1 ⟨hL.1, hL.2.1, fun l hl => ⟨(I2 l hl).1, hL.2.2.1 l hl, hL.2.2.2 l hl, (I2 l hl).2⟩, fun e he => ⟨I3 e he, I4 e he⟩⟩
    · refine E_go (p' := 36) (L' := [some (aA (a + 15)), some (aA (a + 1)), some (aI ((g : Nat) : Int)), some (aI ((c : Nat) : Int))]) (st' := []) rfl rfl rfl ?_
      refine E_s (p' := 37) (st' := aA (a + 15) :: _) rfl rfl ?_
      refine E_s (p' := 38) (st' := aA (a + 1) :: _) rfl rfl ?_
      refine E_s (p' := 39) (st' := aI ((c : Nat) : Int) :: _) rfl rfl ?_
      refine E_callV (k' := 47) (a := a + 15) (r := []) (L0 := [some (aA (a + 15)), some (aA (a + 1)), some (aI ((c : Nat) : Int)), none, none, none, none, none, none, none]) rfl rfl rfl rfl rfl (kR_15 hR) rfl rfl rfl rfl ?_
      refine c_readCord hR hCm hV (by omega) h1 hL (fun m1 J1 J2 J3 J4 => ?_)
      refine E_go (p' := 42) (L' := [some (aA (a + 15)), some (aA (a + 1)), some (aI ((g : Nat) : Int)), some (aI ((c : Nat) : Int))]) (st' := []) rfl rfl rfl ?_
      refine E_inc (x := ((c : Nat) : Int)) (w := ((c + 1 : Nat) : Int)) (L' := [some (aA (a + 15)), some (aA (a + 1)), some (aI ((g : Nat) : Int)), some (aI ((c + 1 : Nat) : Int))]) rfl rfl rfl (by omega) (by omega) rfl ?_
      refine E_s (p' := 28) rfl rfl ?_
      refine ih (c + 1) g m1 (by omega) (by omega) (fun b j hb => (J1 b j (by omega) (by omega)).trans (I1 b j hb)) ⟨(J1 _ _ (by omega) (by omega)).trans hL.1, (J1 _ _ (by omega) (by omega)).trans hL.2.1, fun l hl => (J1 _ _ (by omega) (by omega)).trans (hL.2.2.1 l hl), fun l hl => (J1 _ _ (by omega) (by omega)).trans (hL.2.2.2 l hl)⟩ (fun l hl => ⟨(J1 _ _ (by omega) (by omega)).trans (I2 l hl).1, (J1 _ _ (by omega) (by omega)).trans (I2 l hl).2⟩) (fun e he => (J1 _ _ (by omega) (by omega)).trans (I3 e he)) (fun e he => ?_)
      by_cases g9 : e = c
      · subst g9; exact ⟨J2, J3, J4⟩
      · obtain ⟨k1, k2, k3⟩ := I4 e (by omega)
        exact ⟨(J1 _ _ (by omega) (by omega)).trans k1, (J1 _ _ (by omega) (by omega)).trans k2, (J1 _ _ (by omega) (by omega)).trans k3⟩
theorem c_read (hR : isR a) (hC : CR R a m0) (hV : VR R) (q : ∀ m1 : Mm, Fx (a + 15) (a + 25) m0 m1 → RdC R a m1 → Q none (m1, tl len)) : E 36 0 [some (aA (a + 15)), some (aA (a + 1)), some (aI ((Cq R : Nat) : Int)), none] [] (m0, tl len) Q := by
  have hab := isR_b hR
  have hgp := hV.2.1
  have hn60 := hV.1
  refine E_s (p' := 1) (st' := aA (a + 15) :: _) rfl rfl ?_
  refine E_s (p' := 2) (st' := aA (a + 1) :: _) rfl rfl ?_
  refine E_callV (k' := 37) (a := a + 15) (r := []) (L0 := [some (aA (a + 15)), some (aA (a + 1)), none, none]) rfl rfl rfl rfl rfl (kR_15 hR) rfl rfl rfl rfl ?_
  refine c_countPlaces hR hC hV (fun m1 hI => ?_)
  refine E_go (p' := 5) (L' := [some (aA (a + 15)), some (aA (a + 1)), some (aI ((Cq R : Nat) : Int)), none]) (st' := []) rfl rfl rfl ?_
  obtain ⟨i1, i2, i3, i4, i5, i6, i7⟩ := id hI
  refine E_s (p' := 6) (st' := aA (a + 15) :: _) rfl rfl ?_
  refine E_s (p' := 7) (st' := aI ((Cq R : Nat) : Int) :: _) rfl rfl ?_
  refine E_callV (k' := 43) (a := a + 15) (r := []) (L0 := [some (aA (a + 15)), some (aI ((Cq R : Nat) : Int)), none]) rfl rfl rfl rfl rfl (kR_15 hR) rfl rfl rfl rfl ?_
  refine c_findLevels (f := atp (RA R)) (u := Run R) (g := Cq R) hR i2 i7 (atp_b hV) (by omega) (atp_0 hV) (fun m2 F2 K2 L2 A2 => ?_)
  refine E_go (p' := 10) (L' := [some (aA (a + 15)), some (aA (a + 1)), some (aI ((Cq R : Nat) : Int)), none]) (st' := []) rfl rfl rfl ?_
  refine E_s (p' := 11) (st' := aA (a + 15) :: _) rfl rfl ?_
  refine E_gI (v := ((RL R : Nat) : Int)) rfl rfl rfl (kR_15 hR) L2 ?_
  refine E_if_ne (x := ((RL R : Nat) : Int)) rfl (by decide) (fun h_1 => ?_) (fun h_1 => ?_)
  · refine E_go (p' := 22) (L' := [some (aA (a + 15)), some (aA (a + 1)), some (aI ((Cq R : Nat) : Int)), none]) (st' := []) rfl rfl rfl ?_
    have h1 : 1 ≤ RL R := by omega
    have hnm : ¬ mxv (Run R) < (lvS (atp (RA R)) (Cq R) 601).1 := fun g => by have : RL R = 0 := if_pos g; omega
    have hrl : (lvS (atp (RA R)) (Cq R) 601).1 = RL R := (if_neg hnm).symm
    have A2b := A2 hnm
    rw [hrl] at A2b
    refine E_s (p' := 23) (st' := aA (a + 15) :: _) rfl rfl ?_
    refine E_callV (k' := 46) (a := a + 15) (r := []) (L0 := [some (aA (a + 15)), none, none]) rfl rfl rfl rfl rfl (kR_15 hR) rfl rfl rfl rfl ?_
    refine c_countLevels (n := RL R) (u := Run R) hR (RL_mx R) L2 ((K2 _ (by decide)).trans i7) (fun m3 F3 C3 => ?_)
    refine E_go (p' := 26) (L' := [some (aA (a + 15)), some (aA (a + 1)), some (aI ((Cq R : Nat) : Int)), none]) (st' := []) rfl rfl rfl ?_
    refine E_s (p' := 27) (st' := aI 0 :: _) rfl rfl ?_
    refine E_s (p' := 28) (L' := [some (aA (a + 15)), some (aA (a + 1)), some (aI ((Cq R : Nat) : Int)), some (aI 0)]) rfl rfl ?_
    exact yl_rd hR hC hV q h1 (Cn R + 1) 0 _ m3 (by omega) (by omega) (fun b j hb => (F3 _ _ (by omega)).trans ((F2 _ _ (by omega)).trans (i1 b j hb))) ⟨(F3 _ _ (by omega)).trans ((K2 _ (by decide)).trans i7), (F3 _ _ (by omega)).trans L2, fun l hl => (F3 _ _ (by omega)).trans (A2b l hl).2.1, fun l hl => C3 l hl⟩ (fun l hl => ⟨(F3 _ _ (by omega)).trans (A2b l hl).1, (F3 _ _ (by omega)).trans (A2b l hl).2.2⟩) (fun e he => (F3 _ _ (by omega)).trans ((F2 _ _ (by omega)).trans (i3 e he))) (fun e he => absurd he (by omega))
  · refine E_go (p' := 17) (L' := [some (aA (a + 15)), some (aA (a + 1)), some (aI ((Cq R : Nat) : Int)), none]) (st' := []) rfl rfl rfl ?_
    have h0 : RL R = 0 := by omega
    refine E_s (p' := 18) (st' := aA (a + 15) :: _) rfl rfl ?_
    refine E_callV (k' := 45) (a := a + 15) (r := []) (L0 := [some (aA (a + 15))]) rfl rfl rfl rfl rfl (kR_15 hR) rfl rfl rfl rfl ?_
    refine c_rwl (u := Rkt R) hR ((K2 _ (by decide)).trans i6) ?_
    refine E_go (p' := 21) (L' := [some (aA (a + 15)), some (aA (a + 1)), some (aI ((Cq R : Nat) : Int)), none]) (st' := []) rfl rfl rfl ?_
    refine E_ret rfl rfl ?_
    refine q _ (((((i1.tr (F2.wide (by omega) (by omega))).fill (by omega) (by omega)).fill (by omega) (by omega)).fill (by omega) (by omega))) ⟨?_, ?_, fun l hl => absurd hl (by omega), fun e he => ⟨?_, ?_, ?_, ?_⟩⟩
    · exact (fillm_ne (by omega)).trans ((fillm_ne (by omega)).trans ((fillm_ne (by omega)).trans ((K2 _ (by decide)).trans i7)))
    · exact (fillm_ne (by omega)).trans ((fillm_ne (by omega)).trans ((fillm_ne (by omega)).trans L2))
    · exact (fillm_ne (by omega)).trans ((fillm_ne (by omega)).trans ((fillm_ne (by omega)).trans ((F2 _ _ (by omega)).trans (i3 e he))))
    · refine (fillm_ne (by omega)).trans ((fillm_ne (by omega)).trans ((fillm_in (by omega)).trans ?_))
      unfold Rft; rw [if_pos h0]
    · refine (fillm_ne (by omega)).trans ((fillm_in (by omega)).trans ?_)
      unfold Rvl; rw [if_pos h0]; rfl
    · refine (fillm_in (by omega)).trans ?_
      unfold Rls; rw [if_pos h0]; rfl
end
section
variable {len : Nat} {m : Mm} {Q : Option AV → Sx → Prop} {R : RD} {a c : Nat} {S : Nat → RD} {r : Int}
theorem c_readNow (hR : isR a) (h : CS1 R a m) (q : ∀ m1 : Mm, CS1 R a m1 → RdC R a m1 → Fx a (a + 25) m m1 → Q (some (aA (a + 15))) (m1, tl len)) : E 35 0 [some (aA a)] [] (m, tl len) Q := by
  obtain ⟨hV, hC, hrd⟩ := id h
  have hab := isR_b hR
  refine E_s (p' := 1) (st' := aA a :: _) rfl rfl ?_
  refine E_gI (v := ((m a 7))) rfl rfl rfl (kR_0 hR) rfl ?_
  refine E_if_ne (x := ((m a 7))) rfl (by decide) (fun h_1 => ?_) (fun h_1 => ?_)
  · refine E_go (p' := 27) (L' := [some (aA a)]) (st' := []) rfl rfl rfl ?_
    refine E_s (p' := 28) (st' := aA a :: _) rfl rfl ?_
    refine E_gA (b := a + 15) rfl rfl rfl (kR_0 hR) (hR_0_4 hR) rfl ?_
    refine E_ret rfl rfl ?_
    rcases hrd with g | ⟨g, g2⟩
    · omega
    · exact q m h g2 Fx.rf
  · refine E_go (p' := 7) (L' := [some (aA a)]) (st' := []) rfl rfl rfl ?_
    refine E_s (p' := 8) (st' := aA a :: _) rfl rfl ?_
    refine E_gA (b := a + 15) rfl rfl rfl (kR_0 hR) (hR_0_4 hR) rfl ?_
    refine E_s (p' := 12) (st' := aA a :: _) rfl rfl ?_
    refine E_gA (b := a + 1) rfl rfl rfl (kR_0 hR) (hR_0_0 hR) rfl ?_
    refine E_s (p' := 16) (st' := aA a :: _) rfl rfl ?_
    refine E_gI (v := ((Cq R : Nat) : Int)) rfl rfl rfl (kR_0 hR) hC.2.1 ?_
    refine E_callV (k' := 36) (a := a + 15) (r := []) (L0 := [some (aA (a + 15)), some (aA (a + 1)), some (aI ((Cq R : Nat) : Int)), none]) rfl rfl rfl rfl rfl (kR_15 hR) rfl rfl rfl rfl ?_
    refine c_read hR hC hV (fun m1 F1 D1 => ?_)
    refine E_go (p' := 22) (L' := [some (aA a)]) (st' := []) rfl rfl rfl ?_
    refine E_s (p' := 23) (st' := aA a :: _) rfl rfl ?_
    refine E_s (p' := 24) (st' := aI 1 :: _) rfl rfl ?_
    refine E_pI rfl rfl rfl (kR_0 hR) (Or.inr (by decide)) ?_
    refine E_s (p' := 28) (st' := aA a :: _) rfl rfl ?_
    refine E_gA (b := a + 15) rfl rfl rfl (kR_0 hR) (hR_0_4 hR) rfl ?_
    refine E_ret rfl rfl ?_
    exact q _ ⟨hV, hC.of (fun b j g1 g2 g3 => (up2_o (by omega)).trans (F1 b j (by omega))), Or.inr ⟨up2_eq, D1.of (fun b j g1 g2 => up2_ne (by omega))⟩⟩ (D1.of (fun b j g1 g2 => up2_ne (by omega))) (fun b j hb => (up2_ne (by omega)).trans (F1 b j (by omega)))
theorem c_readOf (hS : CS S m) (q1 : ∀ (i a : Nat) (m1 : Mm), i < 4 → r = i → a = tgA i → isR a → CS S m1 → CS1 (S i) a m1 → RdC (S i) a m1 → Mo m m1 → Q (some (aA a)) (m1, tl len)) (q0 : (r < 0 ∨ 3 < r) → Q (some aN) (m, tl len)) : E 34 0 [some (aA 1), some (aI (r)), none] [] (m, tl len) Q := by
  refine E_s (p' := 1) (st' := aA 1 :: _) rfl rfl ?_
  refine E_s (p' := 2) (st' := aI (r) :: _) rfl rfl ?_
  refine E_callV (k' := 12) (a := 1) (r := []) (L0 := [some (aA 1), some (aI (r))]) rfl rfl rfl rfl rfl rfl rfl rfl rfl rfl ?_
  refine c_recordOf' (fun i a hi hr ha hR => ?_) (fun hr => ?_)
  · refine E_go (p' := 5) (L' := [some (aA 1), some (aI (r)), none]) (st' := [aA a]) rfl rfl rfl ?_
    refine E_s (p' := 6) (L' := [some (aA 1), some (aI (r)), some (aA a)]) rfl rfl ?_
    refine E_s (p' := 7) (st' := aA a :: _) rfl rfl ?_
    refine E_s (p' := 10) rfl rfl ?_
    refine E_s (p' := 11) (st' := aA a :: _) rfl rfl ?_
    refine E_callV (k' := 35) (a := a) (r := []) (L0 := [some (aA a)]) rfl rfl rfl rfl rfl (kR_0 hR) rfl rfl rfl rfl ?_
    refine c_readNow hR (ha ▸ hS i hi) (fun m1 h1 hd1 hF1 => ?_)
    refine E_go (p' := 14) (L' := [some (aA 1), some (aI (r)), some (aA a)]) (st' := [aA (a + 15)]) rfl rfl rfl ?_
    refine E_s (p' := 15) rfl rfl ?_
    refine E_s (p' := 16) (st' := aA a :: _) rfl rfl ?_
    refine E_ret rfl rfl ?_
    have hab := isR_b hR
    have e9 : upf S i (S i) = S := upf_self
    exact q1 i a m1 hi hr ha hR (e9 ▸ hS.set hi ha h1 (fun b j hb => hF1 b j (by omega))) h1 hd1 (fun b j hb => hF1 b j (by omega))
  · refine E_go (p' := 5) (L' := [some (aA 1), some (aI (r)), none]) (st' := [aN]) rfl rfl rfl ?_
    refine E_s (p' := 6) (L' := [some (aA 1), some (aI (r)), some (aN)]) rfl rfl ?_
    refine E_s (p' := 7) (st' := aN :: _) rfl rfl ?_
    refine E_s (p' := 15) rfl rfl ?_
    refine E_s (p' := 16) (st' := aN :: _) rfl rfl ?_
    refine E_ret rfl rfl ?_
    exact q0 hr
theorem c_told (hR : isR a) (hn : Cn R ≤ 60) (hd : RdC R a m) (hc : c < Cn R) (q : Q (some (aI (Rtd R c))) (m, tl len)) : E 55 0 [some (aA (a + 15)), some (aI ((c : Nat) : Int))] [] (m, tl len) Q := by
  have hfb := Rft_b R c
  refine E_s (p' := 1) (st' := aA (a + 15) :: _) rfl rfl ?_
  refine E_gA (b := a + 21) rfl rfl rfl (kR_15 hR) (hR_15_5 hR) rfl ?_
  refine E_s (p' := 5) (st' := aI ((c : Nat) : Int) :: _) rfl rfl ?_
  refine E_ald (e := c) (N := 60) (v := ((Rft R c : Nat) : Int)) rfl (kR_21 hR) (rfl) (by omega) (hd.2.2.2 _ hc).2.1 ?_
  refine E_if_ne (x := ((Rft R c : Nat) : Int)) rfl (by decide) (fun h_1 => ?_) (fun h_1 => ?_)
  · refine E_go (p' := 18) (L' := [some (aA (a + 15)), some (aI ((c : Nat) : Int))]) (st' := []) rfl rfl rfl ?_
    refine E_s (p' := 20) (st' := aI (-10) :: _) rfl rfl ?_
    refine E_s (p' := 21) (st' := aA (a + 15) :: _) rfl rfl ?_
    refine E_gA (b := a + 21) rfl rfl rfl (kR_15 hR) (hR_15_5 hR) rfl ?_
    refine E_s (p' := 25) (st' := aI ((c : Nat) : Int) :: _) rfl rfl ?_
    refine E_ald (e := c) (N := 60) (v := ((Rft R c : Nat) : Int)) rfl (kR_21 hR) (rfl) (by omega) (hd.2.2.2 _ hc).2.1 ?_
    refine E_sub (v := (-(Rft R c : Int) - 10)) rfl (by omega) (by omega) ?_
    refine E_ret rfl rfl ?_
    rw [show Rtd R c = (-(Rft R c : Int) - 10) by unfold Rtd; rw [if_neg (by omega)]; omega] at q
    exact q
  · refine E_go (p' := 9) (L' := [some (aA (a + 15)), some (aI ((c : Nat) : Int))]) (st' := []) rfl rfl rfl ?_
    refine E_s (p' := 10) (st' := aA (a + 15) :: _) rfl rfl ?_
    refine E_gA (b := a + 22) rfl rfl rfl (kR_15 hR) (hR_15_6 hR) rfl ?_
    refine E_s (p' := 14) (st' := aI ((c : Nat) : Int) :: _) rfl rfl ?_
    refine E_ald (e := c) (N := 60) (v := ((Rvl R c : Nat) : Int)) rfl (kR_22 hR) (rfl) (by omega) (hd.2.2.2 _ hc).2.2.1 ?_
    refine E_s (p' := 27) rfl rfl ?_
    refine E_ret rfl rfl ?_
    rw [show Rtd R c = ((Rvl R c : Nat) : Int) by unfold Rtd; rw [if_pos (by omega)]] at q
    exact q
theorem c_isSound (hR : isR a) (hn : Cn R ≤ 60) (hC : CR R a m) (hd : RdC R a m) (hc : c < Cn R) (q1 : Ct R c = 0 → Rft R c = 0 → Q (some (aI 1)) (m, tl len)) (q0 : (Ct R c ≠ 0 ∨ Rft R c ≠ 0) → Q (some (aI 0)) (m, tl len)) : E 74 0 [some (aA a), some (aI ((c : Nat) : Int))] [] (m, tl len) Q := by
  refine E_s (p' := 1) (st' := aA a :: _) rfl rfl ?_
  refine E_gA (b := a + 1) rfl rfl rfl (kR_0 hR) (hR_0_0 hR) rfl ?_
  refine E_gA (b := a + 6) rfl rfl rfl (kR_1 hR) (hR_1_4 hR) rfl ?_
  refine E_s (p' := 8) (st' := aI ((c : Nat) : Int) :: _) rfl rfl ?_
  refine E_ald (e := c) (N := 60) (v := ((Ct R c : Nat) : Int)) rfl (kR_6 hR) (rfl) (by omega) (CR_6 hC (by omega)) ?_
  refine E_if_ne (x := ((Ct R c : Nat) : Int)) rfl (by decide) (fun h_1 => ?_) (fun h_1 => ?_)
  · refine E_go (p' := 28) (L' := [some (aA a), some (aI ((c : Nat) : Int))]) (st' := []) rfl rfl rfl ?_
    refine E_s (p' := 29) (st' := aI 0 :: _) rfl rfl ?_
    refine E_ret rfl rfl ?_
    exact q0 (by omega)
  · refine E_go (p' := 12) (L' := [some (aA a), some (aI ((c : Nat) : Int))]) (st' := []) rfl rfl rfl ?_
    refine E_s (p' := 13) (st' := aA a :: _) rfl rfl ?_
    refine E_gA (b := a + 15) rfl rfl rfl (kR_0 hR) (hR_0_4 hR) rfl ?_
    refine E_gA (b := a + 21) rfl rfl rfl (kR_15 hR) (hR_15_5 hR) rfl ?_
    refine E_s (p' := 20) (st' := aI ((c : Nat) : Int) :: _) rfl rfl ?_
    refine E_ald (e := c) (N := 60) (v := ((Rft R c : Nat) : Int)) rfl (kR_21 hR) (rfl) (by omega) (hd.2.2.2 _ hc).2.1 ?_
    refine E_if_ne (x := ((Rft R c : Nat) : Int)) rfl (by decide) (fun h_2 => ?_) (fun h_2 => ?_)
    · refine E_go (p' := 28) (L' := [some (aA a), some (aI ((c : Nat) : Int))]) (st' := []) rfl rfl rfl ?_
      refine E_s (p' := 29) (st' := aI 0 :: _) rfl rfl ?_
      refine E_ret rfl rfl ?_
      exact q0 (by omega)
    · refine E_go (p' := 24) (L' := [some (aA a), some (aI ((c : Nat) : Int))]) (st' := []) rfl rfl rfl ?_
      refine E_s (p' := 25) (st' := aI 1 :: _) rfl rfl ?_
      refine E_s (p' := 29) rfl rfl ?_
      refine E_ret rfl rfl ?_
      exact q1 (by omega) (by omega)
end

/-! calls that change nothing: what they answer -/
def qy (S : Nat → RD) (r d : Int) (f : RD → Int) : Int := if 0 ≤ r ∧ r ≤ 3 then f (S r.toNat) else d
theorem qy_in {S : Nat → RD} {r d : Int} {f : RD → Int} {i : Nat} (hi : i < 4) (hr : r = (i : Int)) : qy S r d f = f (S i) := by
  unfold qy
  rw [if_pos (by omega), show r.toNat = i by omega]
theorem qy_out {S : Nat → RD} {r d : Int} {f : RD → Int} (h : r < 0 ∨ 3 < r) : qy S r d f = d := by
  unfold qy
  rw [if_neg (by omega)]
section
variable {S : Nat → RD} {m m1 : Mm} {r d v : Int} {f : RD → Int} {i len : Nat} {Q : Option AV → Sx → Prop}
theorem fq_in (hS : CS S m1) (hi : i < 4) (hr : r = (i : Int)) (q : ∀ m1, CS S m1 → Mo m m1 → Q (some (aI (qy S r d f))) (m1, tl len)) (e : f (S i) = v) (hm : Mo m m1) : Q (some (aI v)) (m1, tl len) := by
  rw [qy_in hi hr, e] at q
  exact q m1 hS hm
theorem fq_out (hS : CS S m) (q : ∀ m1, CS S m1 → Mo m m1 → Q (some (aI (qy S r d f))) (m1, tl len)) (h : r < 0 ∨ 3 < r) : Q (some (aI d)) (m, tl len) := by
  rw [qy_out h] at q
  exact q m hS (fun _ _ _ => rfl)
theorem mq_in (hS : MS S m1) (hi : i < 4) (hr : r = (i : Int)) (q : ∀ m1, MS S m1 → Co1 m m1 → Q (some (aI (qy S r d f))) (m1, tl len)) (e : f (S i) = v) (hm : Co1 m m1) : Q (some (aI v)) (m1, tl len) := by
  rw [qy_in hi hr, e] at q
  exact q m1 hS hm
theorem mq_out (hS : MS S m) (q : ∀ m1, MS S m1 → Co1 m m1 → Q (some (aI (qy S r d f))) (m1, tl len)) (h : r < 0 ∨ 3 < r) : Q (some (aI d)) (m, tl len) := by
  rw [qy_out h] at q
  exact q m hS (fun _ _ _ => rfl)
theorem Mo.rf : Mo m m := fun _ _ _ => rfl
theorem Co1.rf : Co1 m m := fun _ _ _ => rfl
end
def sdR (R : RD) (c : Nat) : Bool := decide (Ct R c = 0) && decide (Rft R c = 0)
noncomputable def aAbout (c w : Int) (R : RD) : Int := cif (inC R c) (if w = 0 then Cg R c.toNat else if w = 1 then Co R c.toNat else if w = 2 then (Cc R c.toNat : Int) else if w = 3 then (Cl R c.toNat : Int) else if w = 4 then (Ck R c.toNat : Int) else if w = 5 then Ctz R c.toNat else if w = 6 then ((clsA R c.toNat).length : Int) else if w = 7 then (Rft R c.toNat : Int) else if w = 8 then (cntN (fun d => decide (Co R d = c)) (Cn R) : Int) else -1) (-1)
noncomputable def aKnotAt (c k w : Int) (R : RD) : Int := cif (inC R c ∧ 0 ≤ k ∧ k < (Ck R c.toNat : Int)) (if w = 0 then (ht (Cp R c.toNat k.toNat) : Int) else if w = 1 then (so (Cp R c.toNat k.toNat) : Int) else if w = 2 then (tu (Cp R c.toNat k.toNat) : Int) else -1) (-1)
def aLevels (R : RD) : Int := if RL R = 0 then -1 else (RL R : Int)
noncomputable def aLevel (l w : Int) (R : RD) : Int := cif (0 ≤ l ∧ l < (RL R : Int)) (if w = 0 then (RF R l.toNat : Int) else if w = 1 then (Rla R l.toNat : Int) else if w = 2 then (Rct R l.toNat : Int) else if w = 3 then (Rme R l.toNat : Int) else -1) (-1)
noncomputable def aNumber (c : Int) (R : RD) : Int := cif (inC R c) (Rtd R c.toNat) (-1)
def unB (R : RD) (c : Int) (n : Nat) : Nat := cntN (fun d => decide (Co R d = c) && !sdR R d) n
def unS (R : RD) (c : Int) (n : Nat) : Nat := sumN (fun d => bif decide (Co R d = c) then Rvl R d else 0) n
noncomputable def aUnder (c : Int) (R : RD) : Int := cif (inC R c ∧ unB R c (Cn R) = 0) (unS R c (Cn R) : Int) (-1)
def spB (R : RD) (s n : Nat) : Nat := cntN (fun p => !sdR R (Sq R s p)) n
def spS (R : RD) (s n : Nat) : Nat := sumN (fun p => Rvl R (Sq R s p)) n
noncomputable def kps (R : RD) (s : Nat) : Int := cif (2 ≤ Sp R s ∧ sdR R (Sw R s) = true ∧ spB R s (Sp R s) = 0) (if spS R s (Sp R s) = Rvl R (Sw R s) then 1 else 0) (-1)
noncomputable def aSumAt (s w : Int) (R : RD) : Int := cif (0 ≤ s ∧ s < (Sn R : Int)) (if w = 0 then (Sw R s.toNat : Int) else if w = 1 then (Sp R s.toNat : Int) else if w = 2 then kps R s.toNat else cif (10 ≤ w ∧ w - 10 < (Sp R s.toNat : Int)) (Sq R s.toNat (w - 10).toNat : Int) (-1)) (-1)
def aCount (w : Int) (R : RD) : Int := if w = 0 then (Cn R : Int) else if w = 1 then (sumN (Ck R) (Cn R) : Int) else if w = 2 then (Sn R : Int) else if w = 3 then (Cq R : Int) else if w = 4 then (cntN (fun d => decide (Ct R d ≠ 0)) (Cn R) : Int) else if w = 5 then (cntN (fun d => decide (Rft R d ≠ 0)) (Cn R) : Int) else if w = 6 then (cntN (fun d => decide (Co R d = -1)) (Cn R) : Int) else -1
theorem cntN_mono (p : Nat → Bool) (n : Nat) : ∀ d, cntN p n ≤ cntN p (n + d) := by
  intro d
  induction d with
  | zero => exact Nat.le_refl _
  | succ d ih => show _ ≤ cntN p (n + d) + bn (p (n + d)); omega
theorem cntN_pos {p : Nat → Bool} {i n : Nat} (h : i < n) (hp : p i = true) : cntN p n ≠ 0 := by
  have h1 := cntN_mono p (i + 1) (n - (i + 1))
  rw [show i + 1 + (n - (i + 1)) = n by omega] at h1
  have h2 : cntN p (i + 1) = cntN p i + 1 := by show cntN p i + bn (p i) = _; rw [hp]; rfl
  omega
theorem sdR_t {R : RD} {c : Nat} (h1 : Ct R c = 0) (h2 : Rft R c = 0) : sdR R c = true := by unfold sdR; rw [decide_eq_true h1, decide_eq_true h2]; rfl
theorem sdR_f {R : RD} {c : Nat} (h : Ct R c ≠ 0 ∨ Rft R c ≠ 0) : sdR R c = false := by
  unfold sdR
  rcases h with h | h
  · rw [decide_eq_false h]; rfl
  · rw [decide_eq_false h]; simp
section
variable {len : Nat} {m : Mm} {Q : Option AV → Sx → Prop} {S : Nat → RD} {r c k l s w : Int}
theorem C_about (hS : CS S m) (q : ∀ m1, CS S m1 → Mo m m1 → Q (some (aI (qy S r (-1) (aAbout c w)))) (m1, tl len)) : E 67 0 [some (aA 1), some (aI (r)), some (aI (c)), some (aI (w)), none, none] [] (m, tl len) Q := by
  refine E_s (p' := 1) (st' := aA 1 :: _) rfl rfl ?_
  refine E_s (p' := 2) (st' := aI (r) :: _) rfl rfl ?_
  refine E_callV (k' := 12) (a := 1) (r := []) (L0 := [some (aA 1), some (aI (r))]) rfl rfl rfl rfl rfl rfl rfl rfl rfl rfl ?_
  refine c_recordOf' (fun i a hi hr ha hR => ?_) (fun hr => ?_)
  · refine E_go (p' := 5) (L' := [some (aA 1), some (aI (r)), some (aI (c)), some (aI (w)), none, none]) (st' := [aA a]) rfl rfl rfl ?_
    obtain ⟨hV, hC, hrd⟩ := hS i hi
    rw [← ha] at hC hrd
    have hn60 := hV.1
    have hab := isR_b hR
    have hs40 := hV.2.2.2.2.1
    have hS1 := hS
    have hMo : Mo m m := Mo.rf
    refine E_s (p' := 7) (L' := [some (aA 1), some (aI (r)), some (aI (c)), some (aI (w)), some (aA a), none]) rfl rfl ?_
    refine E_s (p' := 9) (st' := aA a :: _) rfl rfl ?_
    refine E_s (p' := 12) rfl rfl ?_
    refine E_s (p' := 14) (st' := aA a :: _) rfl rfl ?_
    refine E_gA (b := a + 1) rfl rfl rfl (kR_0 hR) (hR_0_0 hR) rfl ?_
    refine E_s (p' := 18) (st' := aI (c) :: _) rfl rfl ?_
    refine E_callV (k' := 17) (a := a + 1) (r := []) (L0 := [some (aA (a + 1)), some (aI (c))]) rfl rfl rfl rfl rfl (kR_1 hR) rfl rfl rfl rfl ?_
    refine c_has hR hC (fun ci he_ci hc_ci => ?_) (fun hno => ?_)
    · refine E_go (p' := 21) (L' := [some (aA 1), some (aI (r)), some (aI (c)), some (aI (w)), some (aA a), none]) (st' := [aI 1]) rfl rfl rfl ?_
      subst he_ci
      refine E_s (p' := 26) rfl rfl ?_
      refine E_s (p' := 28) (st' := aA a :: _) rfl rfl ?_
      refine E_gA (b := a + 1) rfl rfl rfl (kR_0 hR) (hR_0_0 hR) rfl ?_
      refine E_s (p' := 33) (L' := [some (aA 1), some (aI (r)), some (aI ((ci : Nat) : Int)), some (aI (w)), some (aA a), some (aA (a + 1))]) rfl rfl ?_
      refine E_s (p' := 34) (st' := aI (w) :: _) rfl rfl ?_
      rcases (show (w) = 0 ∨ (w) = 1 ∨ (w) = 2 ∨ (w) = 3 ∨ (w) = 4 ∨ (w) = 5 ∨ (w) = 6 ∨ (w) = 7 ∨ (w) = 8 ∨ ((w) ≠ 0 ∧ (w) ≠ 1 ∧ (w) ≠ 2 ∧ (w) ≠ 3 ∧ (w) ≠ 4 ∧ (w) ≠ 5 ∧ (w) ≠ 6 ∧ (w) ≠ 7 ∧ (w) ≠ 8) by omega) with h_1 | h_2 | h_3 | h_4 | h_5 | h_6 | h_7 | h_8 | h_9 | h_10
      · refine E_valv h_1 ?_
        refine E_s (p' := 84) rfl rfl ?_
        refine E_s (p' := 86) (st' := aA (a + 1) :: _) rfl rfl ?_
        refine E_gA (b := a + 2) rfl rfl rfl (kR_1 hR) (hR_1_0 hR) rfl ?_
        refine E_s (p' := 90) (st' := aI ((ci : Nat) : Int) :: _) rfl rfl ?_
        refine E_ald (e := ci) (N := 60) (v := ((Cg (S i) ci))) rfl (kR_2 hR) (rfl) (by omega) (CR_2 hC (by omega)) ?_
        refine E_ret rfl rfl ?_
        exact fq_in hS1 hi hr q (by unfold aAbout; rw [cif_pos (by unfold inC; omega)]; (try simp only [Int.toNat_natCast]); rw [if_pos (by omega)]) hMo
      · refine E_valv h_2 ?_
        refine E_s (p' := 92) rfl rfl ?_
        refine E_s (p' := 94) (st' := aA (a + 1) :: _) rfl rfl ?_
        refine E_gA (b := a + 3) rfl rfl rfl (kR_1 hR) (hR_1_1 hR) rfl ?_
        refine E_s (p' := 98) (st' := aI ((ci : Nat) : Int) :: _) rfl rfl ?_
        refine E_ald (e := ci) (N := 60) (v := ((Co (S i) ci))) rfl (kR_3 hR) (rfl) (by omega) (CR_3 hC (by omega)) ?_
        refine E_ret rfl rfl ?_
        exact fq_in hS1 hi hr q (by unfold aAbout; rw [cif_pos (by unfold inC; omega)]; (try simp only [Int.toNat_natCast]); rw [if_neg (by omega), if_pos (by omega)]) hMo
      · refine E_valv h_3 ?_
        refine E_s (p' := 100) rfl rfl ?_
        refine E_s (p' := 102) (st' := aA (a + 1) :: _) rfl rfl ?_
        refine E_gA (b := a + 4) rfl rfl rfl (kR_1 hR) (hR_1_2 hR) rfl ?_
        refine E_s (p' := 106) (st' := aI ((ci : Nat) : Int) :: _) rfl rfl ?_
        refine E_ald (e := ci) (N := 60) (v := ((Cc (S i) ci : Nat) : Int)) rfl (kR_4 hR) (rfl) (by omega) (CR_4 hC (by omega)) ?_
        refine E_ret rfl rfl ?_
        exact fq_in hS1 hi hr q (by unfold aAbout; rw [cif_pos (by unfold inC; omega)]; (try simp only [Int.toNat_natCast]); rw [if_neg (by omega), if_neg (by omega), if_pos (by omega)]) hMo
      · refine E_valv h_4 ?_
        refine E_s (p' := 108) rfl rfl ?_
        refine E_s (p' := 110) (st' := aA (a + 1) :: _) rfl rfl ?_
        refine E_gA (b := a + 5) rfl rfl rfl (kR_1 hR) (hR_1_3 hR) rfl ?_
        refine E_s (p' := 114) (st' := aI ((ci : Nat) : Int) :: _) rfl rfl ?_
        refine E_ald (e := ci) (N := 60) (v := ((Cl (S i) ci : Nat) : Int)) rfl (kR_5 hR) (rfl) (by omega) (CR_5 hC (by omega)) ?_
        refine E_ret rfl rfl ?_
        exact fq_in hS1 hi hr q (by unfold aAbout; rw [cif_pos (by unfold inC; omega)]; (try simp only [Int.toNat_natCast]); rw [if_neg (by omega), if_neg (by omega), if_neg (by omega), if_pos (by omega)]) hMo
      · refine E_valv h_5 ?_
        refine E_s (p' := 116) rfl rfl ?_
        refine E_s (p' := 118) (st' := aA (a + 1) :: _) rfl rfl ?_
        refine E_gA (b := a + 7) rfl rfl rfl (kR_1 hR) (hR_1_5 hR) rfl ?_
        refine E_s (p' := 122) (st' := aI ((ci : Nat) : Int) :: _) rfl rfl ?_
        refine E_ald (e := ci) (N := 60) (v := ((Ck (S i) ci : Nat) : Int)) rfl (kR_7 hR) (rfl) (by omega) (CR_7 hC (by omega)) ?_
        refine E_ret rfl rfl ?_
        exact fq_in hS1 hi hr q (by unfold aAbout; rw [cif_pos (by unfold inC; omega)]; (try simp only [Int.toNat_natCast]); rw [if_neg (by omega), if_neg (by omega), if_neg (by omega), if_neg (by omega), if_pos (by omega)]) hMo
      · refine E_valv h_6 ?_
        refine E_s (p' := 124) rfl rfl ?_
        refine E_s (p' := 126) (st' := aA (a + 1) :: _) rfl rfl ?_
        refine E_gA (b := a + 6) rfl rfl rfl (kR_1 hR) (hR_1_4 hR) rfl ?_
        refine E_s (p' := 130) (st' := aI ((ci : Nat) : Int) :: _) rfl rfl ?_
        refine E_ald (e := ci) (N := 60) (v := ((Ct (S i) ci : Nat) : Int)) rfl (kR_6 hR) (rfl) (by omega) (CR_6 hC (by omega)) ?_
        refine E_if_ne (x := ((Ct (S i) ci : Nat) : Int)) rfl (by decide) (fun h_11 => ?_) (fun h_11 => ?_)
        · refine E_go (p' := 138) (L' := [some (aA 1), some (aI (r)), some (aI ((ci : Nat) : Int)), some (aI (w)), some (aA a), some (aA (a + 1))]) (st' := []) rfl rfl rfl ?_
          refine E_s (p' := 140) (st' := aA (a + 1) :: _) rfl rfl ?_
          refine E_gA (b := a + 6) rfl rfl rfl (kR_1 hR) (hR_1_4 hR) rfl ?_
          refine E_s (p' := 144) (st' := aI ((ci : Nat) : Int) :: _) rfl rfl ?_
          refine E_ald (e := ci) (N := 60) (v := ((Ct (S i) ci : Nat) : Int)) rfl (kR_6 hR) (rfl) (by omega) (CR_6 hC (by omega)) ?_
          refine E_ret rfl rfl ?_
          exact fq_in hS1 hi hr q (by unfold aAbout; rw [cif_pos (by unfold inC; omega)]; (try simp only [Int.toNat_natCast]); rw [if_neg (by omega), if_neg (by omega), if_neg (by omega), if_neg (by omega), if_neg (by omega), if_pos (by omega)]; unfold Ctz; rw [if_neg (by omega)]) hMo
        · refine E_go (p' := 134) (L' := [some (aA 1), some (aI (r)), some (aI ((ci : Nat) : Int)), some (aI (w)), some (aA a), some (aA (a + 1))]) (st' := []) rfl rfl rfl ?_
          refine E_s (p' := 135) (st' := aI (-1) :: _) rfl rfl ?_
          refine E_s (p' := 145) rfl rfl ?_
          refine E_ret rfl rfl ?_
          exact fq_in hS1 hi hr q (by unfold aAbout; rw [cif_pos (by unfold inC; omega)]; (try simp only [Int.toNat_natCast]); rw [if_neg (by omega), if_neg (by omega), if_neg (by omega), if_neg (by omega), if_neg (by omega), if_pos (by omega)]; unfold Ctz; rw [if_pos (by omega)]) hMo
      · refine E_valv h_7 ?_
        refine E_s (p' := 146) rfl rfl ?_
        refine E_s (p' := 148) (st' := aA a :: _) rfl rfl ?_
        refine E_callV (k' := 35) (a := a) (r := []) (L0 := [some (aA a)]) rfl rfl rfl rfl rfl (kR_0 hR) rfl rfl rfl rfl ?_
        refine c_readNow hR (ha ▸ hS i hi) (fun m1 h1 hd hF1 => ?_)
        refine E_go (p' := 151) (L' := [some (aA 1), some (aI (r)), some (aI ((ci : Nat) : Int)), some (aI (w)), some (aA a), some (aA (a + 1))]) (st' := [aA (a + 15)]) rfl rfl rfl ?_
        have hS1 : CS S m1 := by have := hS.set hi ha h1 (fun b j hb => hF1 b j (by omega)); rw [upf_self] at this; exact this
        have hMo : Mo m m1 := fun b j hb => hF1 b j (by omega)
        have hC := h1.2.1
        refine E_gA (b := a + 20) rfl rfl rfl (kR_15 hR) (hR_15_4 hR) rfl ?_
        refine E_s (p' := 155) (st' := aI ((ci : Nat) : Int) :: _) rfl rfl ?_
        refine E_ald (e := ci) (N := 60) (v := (((clsA (S i) ci).length : Nat) : Int)) rfl (kR_20 hR) (rfl) (by omega) (hd.2.2.2 _ (by omega)).1 ?_
        refine E_ret rfl rfl ?_
        exact fq_in hS1 hi hr q (by unfold aAbout; rw [cif_pos (by unfold inC; omega)]; (try simp only [Int.toNat_natCast]); rw [if_neg (by omega), if_neg (by omega), if_neg (by omega), if_neg (by omega), if_neg (by omega), if_neg (by omega), if_pos (by omega)]) hMo
      · refine E_valv h_8 ?_
        refine E_s (p' := 157) rfl rfl ?_
        refine E_s (p' := 159) (st' := aA a :: _) rfl rfl ?_
        refine E_callV (k' := 35) (a := a) (r := []) (L0 := [some (aA a)]) rfl rfl rfl rfl rfl (kR_0 hR) rfl rfl rfl rfl ?_
        refine c_readNow hR (ha ▸ hS i hi) (fun m1 h1 hd hF1 => ?_)
        refine E_go (p' := 162) (L' := [some (aA 1), some (aI (r)), some (aI ((ci : Nat) : Int)), some (aI (w)), some (aA a), some (aA (a + 1))]) (st' := [aA (a + 15)]) rfl rfl rfl ?_
        have hS1 : CS S m1 := by have := hS.set hi ha h1 (fun b j hb => hF1 b j (by omega)); rw [upf_self] at this; exact this
        have hMo : Mo m m1 := fun b j hb => hF1 b j (by omega)
        have hC := h1.2.1
        refine E_gA (b := a + 21) rfl rfl rfl (kR_15 hR) (hR_15_5 hR) rfl ?_
        refine E_s (p' := 166) (st' := aI ((ci : Nat) : Int) :: _) rfl rfl ?_
        refine E_ald (e := ci) (N := 60) (v := ((Rft (S i) ci : Nat) : Int)) rfl (kR_21 hR) (rfl) (by omega) (hd.2.2.2 _ (by omega)).2.1 ?_
        refine E_ret rfl rfl ?_
        exact fq_in hS1 hi hr q (by unfold aAbout; rw [cif_pos (by unfold inC; omega)]; (try simp only [Int.toNat_natCast]); rw [if_neg (by omega), if_neg (by omega), if_neg (by omega), if_neg (by omega), if_neg (by omega), if_neg (by omega), if_neg (by omega), if_pos (by omega)]) hMo
      · refine E_valv h_9 ?_
        refine E_s (p' := 168) rfl rfl ?_
        refine E_s (p' := 170) (st' := aA (a + 1) :: _) rfl rfl ?_
        refine E_s (p' := 171) (st' := aI ((ci : Nat) : Int) :: _) rfl rfl ?_
        refine E_callV (k' := 68) (a := a + 1) (r := []) (L0 := [some (aA (a + 1)), some (aI ((ci : Nat) : Int)), none, none]) rfl rfl rfl rfl rfl (kR_1 hR) rfl rfl rfl rfl ?_
        refine c_howManyOn hR hC hV ?_
        refine E_go (p' := 174) (L' := [some (aA 1), some (aI (r)), some (aI ((ci : Nat) : Int)), some (aI (w)), some (aA a), some (aA (a + 1))]) (st' := [aI ((cntN (fun d => decide (Co (S i) d = ((ci : Nat) : Int))) (Cn (S i)) : Nat) : Int)]) rfl rfl rfl ?_
        refine E_ret rfl rfl ?_
        exact fq_in hS1 hi hr q (by unfold aAbout; rw [cif_pos (by unfold inC; omega)]; (try simp only [Int.toNat_natCast]); rw [if_neg (by omega), if_neg (by omega), if_neg (by omega), if_neg (by omega), if_neg (by omega), if_neg (by omega), if_neg (by omega), if_neg (by omega), if_pos (by omega)]) hMo
      · refine E_tabO rfl (by omega) (by decide) ?_
        refine E_go (p' := 175) (L' := [some (aA 1), some (aI (r)), some (aI ((ci : Nat) : Int)), some (aI (w)), some (aA a), some (aA (a + 1))]) (st' := []) rfl rfl rfl ?_
        refine E_s (p' := 176) (st' := aI (-1) :: _) rfl rfl ?_
        refine E_ret rfl rfl ?_
        exact fq_in hS1 hi hr q (by unfold aAbout; rw [cif_pos (by unfold inC; omega)]; (try simp only [Int.toNat_natCast]); rw [if_neg (by omega), if_neg (by omega), if_neg (by omega), if_neg (by omega), if_neg (by omega), if_neg (by omega), if_neg (by omega), if_neg (by omega), if_neg (by omega)]) hMo
    · refine E_go (p' := 21) (L' := [some (aA 1), some (aI (r)), some (aI (c)), some (aI (w)), some (aA a), none]) (st' := [aI 0]) rfl rfl rfl ?_
      refine E_s (p' := 24) rfl rfl ?_
      refine E_s (p' := 25) (st' := aI (-1) :: _) rfl rfl ?_
      refine E_ret rfl rfl ?_
      exact fq_in hS1 hi hr q (by unfold aAbout; rw [cif_neg (by unfold inC; omega)]) hMo
  · refine E_go (p' := 5) (L' := [some (aA 1), some (aI (r)), some (aI (c)), some (aI (w)), none, none]) (st' := [aN]) rfl rfl rfl ?_
    refine E_s (p' := 7) (L' := [some (aA 1), some (aI (r)), some (aI (c)), some (aI (w)), some (aN), none]) rfl rfl ?_
    refine E_s (p' := 9) (st' := aN :: _) rfl rfl ?_
    refine E_s (p' := 24) rfl rfl ?_
    refine E_s (p' := 25) (st' := aI (-1) :: _) rfl rfl ?_
    refine E_ret rfl rfl ?_
    exact fq_out hS q hr
theorem C_knotAt (hS : CS S m) (q : ∀ m1, CS S m1 → Mo m m1 → Q (some (aI (qy S r (-1) (aKnotAt c k w)))) (m1, tl len)) : E 69 0 [some (aA 1), some (aI (r)), some (aI (c)), some (aI (k)), some (aI (w)), none, none] [] (m, tl len) Q := by
  refine E_s (p' := 1) (st' := aA 1 :: _) rfl rfl ?_
  refine E_s (p' := 2) (st' := aI (r) :: _) rfl rfl ?_
  refine E_callV (k' := 12) (a := 1) (r := []) (L0 := [some (aA 1), some (aI (r))]) rfl rfl rfl rfl rfl rfl rfl rfl rfl rfl ?_
  refine c_recordOf' (fun i a hi hr ha hR => ?_) (fun hr => ?_)
  · refine E_go (p' := 5) (L' := [some (aA 1), some (aI (r)), some (aI (c)), some (aI (k)), some (aI (w)), none, none]) (st' := [aA a]) rfl rfl rfl ?_
    obtain ⟨hV, hC, hrd⟩ := hS i hi
    rw [← ha] at hC hrd
    have hn60 := hV.1
    have hab := isR_b hR
    have hs40 := hV.2.2.2.2.1
    have hS1 := hS
    have hMo : Mo m m := Mo.rf
    refine E_s (p' := 7) (L' := [some (aA 1), some (aI (r)), some (aI (c)), some (aI (k)), some (aI (w)), some (aA a), none]) rfl rfl ?_
    refine E_s (p' := 9) (st' := aA a :: _) rfl rfl ?_
    refine E_s (p' := 12) rfl rfl ?_
    refine E_s (p' := 14) (st' := aA a :: _) rfl rfl ?_
    refine E_gA (b := a + 1) rfl rfl rfl (kR_0 hR) (hR_0_0 hR) rfl ?_
    refine E_s (p' := 18) (st' := aI (c) :: _) rfl rfl ?_
    refine E_callV (k' := 17) (a := a + 1) (r := []) (L0 := [some (aA (a + 1)), some (aI (c))]) rfl rfl rfl rfl rfl (kR_1 hR) rfl rfl rfl rfl ?_
    refine c_has hR hC (fun ci he_ci hc_ci => ?_) (fun hno => ?_)
    · refine E_go (p' := 21) (L' := [some (aA 1), some (aI (r)), some (aI (c)), some (aI (k)), some (aI (w)), some (aA a), none]) (st' := [aI 1]) rfl rfl rfl ?_
      subst he_ci
      refine E_s (p' := 24) rfl rfl ?_
      have hvk := (hV.2.2.1 ci hc_ci).2.2.2.2.2
      refine E_s (p' := 25) (st' := aI (k) :: _) rfl rfl ?_
      refine E_if_lt (x := (k)) rfl (by decide) (fun h_1 => ?_) (fun h_1 => ?_)
      · refine E_go (p' := 42) (L' := [some (aA 1), some (aI (r)), some (aI ((ci : Nat) : Int)), some (aI (k)), some (aI (w)), some (aA a), none]) (st' := []) rfl rfl rfl ?_
        refine E_s (p' := 43) (st' := aI (-1) :: _) rfl rfl ?_
        refine E_ret rfl rfl ?_
        exact fq_in hS1 hi hr q (by unfold aKnotAt; (try simp only [Int.toNat_natCast]); rw [cif_neg (by unfold inC; omega)]) hMo
      · refine E_go (p' := 28) (L' := [some (aA 1), some (aI (r)), some (aI ((ci : Nat) : Int)), some (aI (k)), some (aI (w)), some (aA a), none]) (st' := []) rfl rfl rfl ?_
        refine E_s (p' := 29) (st' := aI (k) :: _) rfl rfl ?_
        refine E_s (p' := 31) (st' := aA a :: _) rfl rfl ?_
        refine E_gA (b := a + 1) rfl rfl rfl (kR_0 hR) (hR_0_0 hR) rfl ?_
        refine E_gA (b := a + 7) rfl rfl rfl (kR_1 hR) (hR_1_5 hR) rfl ?_
        refine E_s (p' := 38) (st' := aI ((ci : Nat) : Int) :: _) rfl rfl ?_
        refine E_ald (e := ci) (N := 60) (v := ((Ck (S i) ci : Nat) : Int)) rfl (kR_7 hR) (rfl) (by omega) (CR_7 hC (by omega)) ?_
        refine E_icmp_lt (x := (k)) (y := ((Ck (S i) ci : Nat) : Int)) rfl (by decide) (fun h_2 => ?_) (fun h_2 => ?_)
        · refine E_go (p' := 44) (L' := [some (aA 1), some (aI (r)), some (aI ((ci : Nat) : Int)), some (aI (k)), some (aI (w)), some (aA a), none]) (st' := []) rfl rfl rfl ?_
          obtain ⟨kn, ek⟩ : ∃ x : Nat, k = (x : Int) := ⟨k.toNat, by omega⟩
          subst ek
          have pkl : Cp (S i) ci kn < 2147483648 := by have := kok_lt hV hc_ci (show kn < Ck (S i) ci by omega) rfl; omega
          refine E_s (p' := 46) (st' := aA a :: _) rfl rfl ?_
          refine E_gA (b := a + 1) rfl rfl rfl (kR_0 hR) (hR_0_0 hR) rfl ?_
          refine E_gA (b := a + 8) rfl rfl rfl (kR_1 hR) (hR_1_6 hR) rfl ?_
          refine E_s (p' := 53) (st' := aI ((ci : Nat) : Int) :: _) rfl rfl ?_
          refine E_s (p' := 55) (st' := aI 30 :: _) rfl rfl ?_
          refine E_mul (v := ((30 * ci : Nat) : Int)) rfl (by omega) (by omega) ?_
          refine E_s (p' := 57) (st' := aI ((kn : Nat) : Int) :: _) rfl rfl ?_
          refine E_add (v := ((30 * ci + kn : Nat) : Int)) rfl (by omega) (by omega) ?_
          refine E_ald (e := 30 * ci + kn) (N := 1800) (v := ((Cp (S i) ci kn : Nat) : Int)) rfl (kR_8 hR) (rfl) (by omega) (CR_8 hC (by omega) (by omega) (by omega)) ?_
          refine E_s (p' := 61) (L' := [some (aA 1), some (aI (r)), some (aI ((ci : Nat) : Int)), some (aI ((kn : Nat) : Int)), some (aI (w)), some (aA a), some (aI ((Cp (S i) ci kn : Nat) : Int))]) rfl rfl ?_
          refine E_s (p' := 63) (st' := aI (w) :: _) rfl rfl ?_
          rcases (show (w) = 0 ∨ (w) = 1 ∨ (w) = 2 ∨ ((w) ≠ 0 ∧ (w) ≠ 1 ∧ (w) ≠ 2) by omega) with h_3 | h_4 | h_5 | h_6
          · refine E_valv h_3 ?_
            refine E_s (p' := 88) rfl rfl ?_
            refine E_s (p' := 90) (st' := aI ((Cp (S i) ci kn : Nat) : Int) :: _) rfl rfl ?_
            refine E_callL (p' := 93) (L0 := [some (aI ((Cp (S i) ci kn : Nat) : Int))]) rfl rfl rfl ?_
            refine c_heightOf (p := Cp (S i) ci kn) (pkl) ?_
            refine E_go (p' := 93) (L' := [some (aA 1), some (aI (r)), some (aI ((ci : Nat) : Int)), some (aI ((kn : Nat) : Int)), some (aI (w)), some (aA a), some (aI ((Cp (S i) ci kn : Nat) : Int))]) (st' := [aI ((ht (Cp (S i) ci kn) : Nat) : Int)]) rfl rfl rfl ?_
            refine E_ret rfl rfl ?_
            exact fq_in hS1 hi hr q (by unfold aKnotAt; (try simp only [Int.toNat_natCast]); rw [cif_pos (by unfold inC; omega), if_pos (by omega)]) hMo
          · refine E_valv h_4 ?_
            refine E_s (p' := 94) rfl rfl ?_
            refine E_s (p' := 96) (st' := aI ((Cp (S i) ci kn : Nat) : Int) :: _) rfl rfl ?_
            refine E_callL (p' := 99) (L0 := [some (aI ((Cp (S i) ci kn : Nat) : Int))]) rfl rfl rfl ?_
            refine c_sortOf (p := Cp (S i) ci kn) (pkl) ?_
            refine E_go (p' := 99) (L' := [some (aA 1), some (aI (r)), some (aI ((ci : Nat) : Int)), some (aI ((kn : Nat) : Int)), some (aI (w)), some (aA a), some (aI ((Cp (S i) ci kn : Nat) : Int))]) (st' := [aI ((so (Cp (S i) ci kn) : Nat) : Int)]) rfl rfl rfl ?_
            refine E_ret rfl rfl ?_
            exact fq_in hS1 hi hr q (by unfold aKnotAt; (try simp only [Int.toNat_natCast]); rw [cif_pos (by unfold inC; omega), if_neg (by omega), if_pos (by omega)]) hMo
          · refine E_valv h_5 ?_
            refine E_s (p' := 100) rfl rfl ?_
            refine E_s (p' := 102) (st' := aI ((Cp (S i) ci kn : Nat) : Int) :: _) rfl rfl ?_
            refine E_callL (p' := 105) (L0 := [some (aI ((Cp (S i) ci kn : Nat) : Int))]) rfl rfl rfl ?_
            refine c_turnsOf (p := Cp (S i) ci kn) (pkl) ?_
            refine E_go (p' := 105) (L' := [some (aA 1), some (aI (r)), some (aI ((ci : Nat) : Int)), some (aI ((kn : Nat) : Int)), some (aI (w)), some (aA a), some (aI ((Cp (S i) ci kn : Nat) : Int))]) (st' := [aI ((tu (Cp (S i) ci kn) : Nat) : Int)]) rfl rfl rfl ?_
            refine E_ret rfl rfl ?_
            exact fq_in hS1 hi hr q (by unfold aKnotAt; (try simp only [Int.toNat_natCast]); rw [cif_pos (by unfold inC; omega), if_neg (by omega), if_neg (by omega), if_pos (by omega)]) hMo
          · refine E_tabO rfl (by omega) (by decide) ?_
            refine E_go (p' := 106) (L' := [some (aA 1), some (aI (r)), some (aI ((ci : Nat) : Int)), some (aI ((kn : Nat) : Int)), some (aI (w)), some (aA a), some (aI ((Cp (S i) ci kn : Nat) : Int))]) (st' := []) rfl rfl rfl ?_
            refine E_s (p' := 107) (st' := aI (-1) :: _) rfl rfl ?_
            refine E_ret rfl rfl ?_
            exact fq_in hS1 hi hr q (by unfold aKnotAt; (try simp only [Int.toNat_natCast]); rw [cif_pos (by unfold inC; omega), if_neg (by omega), if_neg (by omega), if_neg (by omega)]) hMo
        · refine E_go (p' := 42) (L' := [some (aA 1), some (aI (r)), some (aI ((ci : Nat) : Int)), some (aI (k)), some (aI (w)), some (aA a), none]) (st' := []) rfl rfl rfl ?_
          refine E_s (p' := 43) (st' := aI (-1) :: _) rfl rfl ?_
          refine E_ret rfl rfl ?_
          exact fq_in hS1 hi hr q (by unfold aKnotAt; (try simp only [Int.toNat_natCast]); rw [cif_neg (by unfold inC; omega)]) hMo
    · refine E_go (p' := 21) (L' := [some (aA 1), some (aI (r)), some (aI (c)), some (aI (k)), some (aI (w)), some (aA a), none]) (st' := [aI 0]) rfl rfl rfl ?_
      refine E_s (p' := 42) rfl rfl ?_
      refine E_s (p' := 43) (st' := aI (-1) :: _) rfl rfl ?_
      refine E_ret rfl rfl ?_
      exact fq_in hS1 hi hr q (by unfold aKnotAt; (try simp only [Int.toNat_natCast]); rw [cif_neg (by unfold inC; omega)]) hMo
  · refine E_go (p' := 5) (L' := [some (aA 1), some (aI (r)), some (aI (c)), some (aI (k)), some (aI (w)), none, none]) (st' := [aN]) rfl rfl rfl ?_
    refine E_s (p' := 7) (L' := [some (aA 1), some (aI (r)), some (aI (c)), some (aI (k)), some (aI (w)), some (aN), none]) rfl rfl ?_
    refine E_s (p' := 9) (st' := aN :: _) rfl rfl ?_
    refine E_s (p' := 42) rfl rfl ?_
    refine E_s (p' := 43) (st' := aI (-1) :: _) rfl rfl ?_
    refine E_ret rfl rfl ?_
    exact fq_out hS q hr
theorem C_levels (hS : CS S m) (q : ∀ m1, CS S m1 → Mo m m1 → Q (some (aI (qy S r (-2) (aLevels)))) (m1, tl len)) : E 70 0 [some (aA 1), some (aI (r)), none] [] (m, tl len) Q := by
  refine E_s (p' := 1) (st' := aA 1 :: _) rfl rfl ?_
  refine E_s (p' := 2) (st' := aI (r) :: _) rfl rfl ?_
  refine E_callV (k' := 34) (a := 1) (r := []) (L0 := [some (aA 1), some (aI (r)), none]) rfl rfl rfl rfl rfl rfl rfl rfl rfl rfl ?_
  refine c_readOf hS (fun i a m1 hi hr ha hR hS1 hCS hd hMo => ?_) (fun hr => ?_)
  · refine E_go (p' := 5) (L' := [some (aA 1), some (aI (r)), none]) (st' := [aA a]) rfl rfl rfl ?_
    obtain ⟨hV, hC, -⟩ := hCS
    have hn60 := hV.1
    have hab := isR_b hR
    have hs40 := hV.2.2.2.2.1
    refine E_s (p' := 6) (L' := [some (aA 1), some (aI (r)), some (aA a)]) rfl rfl ?_
    refine E_s (p' := 7) (st' := aA a :: _) rfl rfl ?_
    refine E_s (p' := 13) rfl rfl ?_
    refine E_s (p' := 14) (st' := aA a :: _) rfl rfl ?_
    refine E_gA (b := a + 15) rfl rfl rfl (kR_0 hR) (hR_0_4 hR) rfl ?_
    refine E_gI (v := ((RL (S i) : Nat) : Int)) rfl rfl rfl (kR_15 hR) hd.2.1 ?_
    refine E_if_ne (x := ((RL (S i) : Nat) : Int)) rfl (by decide) (fun h_1 => ?_) (fun h_1 => ?_)
    · refine E_go (p' := 27) (L' := [some (aA 1), some (aI (r)), some (aA a)]) (st' := []) rfl rfl rfl ?_
      refine E_s (p' := 28) (st' := aA a :: _) rfl rfl ?_
      refine E_gA (b := a + 15) rfl rfl rfl (kR_0 hR) (hR_0_4 hR) rfl ?_
      refine E_gI (v := ((RL (S i) : Nat) : Int)) rfl rfl rfl (kR_15 hR) hd.2.1 ?_
      refine E_ret rfl rfl ?_
      exact fq_in hS1 hi hr q (by unfold aLevels; rw [if_neg (by omega)]) hMo
    · refine E_go (p' := 23) (L' := [some (aA 1), some (aI (r)), some (aA a)]) (st' := []) rfl rfl rfl ?_
      refine E_s (p' := 24) (st' := aI (-1) :: _) rfl rfl ?_
      refine E_s (p' := 34) rfl rfl ?_
      refine E_ret rfl rfl ?_
      exact fq_in hS1 hi hr q (by unfold aLevels; rw [if_pos (by omega)]) hMo
  · refine E_go (p' := 5) (L' := [some (aA 1), some (aI (r)), none]) (st' := [aN]) rfl rfl rfl ?_
    refine E_s (p' := 6) (L' := [some (aA 1), some (aI (r)), some (aN)]) rfl rfl ?_
    refine E_s (p' := 7) (st' := aN :: _) rfl rfl ?_
    refine E_s (p' := 10) rfl rfl ?_
    refine E_s (p' := 12) (st' := aI (-2) :: _) rfl rfl ?_
    refine E_ret rfl rfl ?_
    exact fq_out hS q hr
theorem C_level (hS : CS S m) (q : ∀ m1, CS S m1 → Mo m m1 → Q (some (aI (qy S r (-1) (aLevel l w)))) (m1, tl len)) : E 71 0 [some (aA 1), some (aI (r)), some (aI (l)), some (aI (w)), none, none] [] (m, tl len) Q := by
  refine E_s (p' := 1) (st' := aA 1 :: _) rfl rfl ?_
  refine E_s (p' := 2) (st' := aI (r) :: _) rfl rfl ?_
  refine E_callV (k' := 34) (a := 1) (r := []) (L0 := [some (aA 1), some (aI (r)), none]) rfl rfl rfl rfl rfl rfl rfl rfl rfl rfl ?_
  refine c_readOf hS (fun i a m1 hi hr ha hR hS1 hCS hd hMo => ?_) (fun hr => ?_)
  · refine E_go (p' := 5) (L' := [some (aA 1), some (aI (r)), some (aI (l)), some (aI (w)), none, none]) (st' := [aA a]) rfl rfl rfl ?_
    obtain ⟨hV, hC, -⟩ := hCS
    have hn60 := hV.1
    have hab := isR_b hR
    have hs40 := hV.2.2.2.2.1
    refine E_s (p' := 7) (L' := [some (aA 1), some (aI (r)), some (aI (l)), some (aI (w)), some (aA a), none]) rfl rfl ?_
    refine E_s (p' := 9) (st' := aA a :: _) rfl rfl ?_
    refine E_s (p' := 12) rfl rfl ?_
    refine E_s (p' := 13) (st' := aI (l) :: _) rfl rfl ?_
    refine E_if_lt (x := (l)) rfl (by decide) (fun h_1 => ?_) (fun h_1 => ?_)
    · refine E_go (p' := 28) (L' := [some (aA 1), some (aI (r)), some (aI (l)), some (aI (w)), some (aA a), none]) (st' := []) rfl rfl rfl ?_
      refine E_s (p' := 29) (st' := aI (-1) :: _) rfl rfl ?_
      refine E_ret rfl rfl ?_
      exact fq_in hS1 hi hr q (by unfold aLevel; rw [cif_neg (by omega)]) hMo
    · refine E_go (p' := 16) (L' := [some (aA 1), some (aI (r)), some (aI (l)), some (aI (w)), some (aA a), none]) (st' := []) rfl rfl rfl ?_
      refine E_s (p' := 17) (st' := aI (l) :: _) rfl rfl ?_
      refine E_s (p' := 19) (st' := aA a :: _) rfl rfl ?_
      refine E_gA (b := a + 15) rfl rfl rfl (kR_0 hR) (hR_0_4 hR) rfl ?_
      refine E_gI (v := ((RL (S i) : Nat) : Int)) rfl rfl rfl (kR_15 hR) hd.2.1 ?_
      refine E_icmp_lt (x := (l)) (y := ((RL (S i) : Nat) : Int)) rfl (by decide) (fun h_2 => ?_) (fun h_2 => ?_)
      · refine E_go (p' := 30) (L' := [some (aA 1), some (aI (r)), some (aI (l)), some (aI (w)), some (aA a), none]) (st' := []) rfl rfl rfl ?_
        obtain ⟨ln, el⟩ : ∃ x : Nat, l = (x : Int) := ⟨l.toNat, by omega⟩
        subst el
        have hmx := RL_mx (S i)
        have hm6 : mxv (Run (S i)) ≤ 6 := by cases Run (S i) <;> decide
        refine E_s (p' := 32) (st' := aA a :: _) rfl rfl ?_
        refine E_gA (b := a + 15) rfl rfl rfl (kR_0 hR) (hR_0_4 hR) rfl ?_
        refine E_s (p' := 37) (L' := [some (aA 1), some (aI (r)), some (aI ((ln : Nat) : Int)), some (aI (w)), some (aA a), some (aA (a + 15))]) rfl rfl ?_
        refine E_s (p' := 38) (st' := aI (w) :: _) rfl rfl ?_
        rcases (show (w) = 0 ∨ (w) = 1 ∨ (w) = 2 ∨ (w) = 3 ∨ ((w) ≠ 0 ∧ (w) ≠ 1 ∧ (w) ≠ 2 ∧ (w) ≠ 3) by omega) with h_3 | h_4 | h_5 | h_6 | h_7
        · refine E_valv h_3 ?_
          refine E_s (p' := 68) rfl rfl ?_
          refine E_s (p' := 70) (st' := aA (a + 15) :: _) rfl rfl ?_
          refine E_gA (b := a + 16) rfl rfl rfl (kR_15 hR) (hR_15_0 hR) rfl ?_
          refine E_s (p' := 74) (st' := aI ((ln : Nat) : Int) :: _) rfl rfl ?_
          refine E_ald (e := ln) (N := 6) (v := ((RF (S i) ln : Nat) : Int)) rfl (kR_16 hR) (rfl) (by omega) (hd.2.2.1 _ (by omega)).1 ?_
          refine E_ret rfl rfl ?_
          exact fq_in hS1 hi hr q (by unfold aLevel; (try simp only [Int.toNat_natCast]); rw [cif_pos (by omega), if_pos (by omega)]) hMo
        · refine E_valv h_4 ?_
          refine E_s (p' := 76) rfl rfl ?_
          refine E_s (p' := 78) (st' := aA (a + 15) :: _) rfl rfl ?_
          refine E_gA (b := a + 17) rfl rfl rfl (kR_15 hR) (hR_15_1 hR) rfl ?_
          refine E_s (p' := 82) (st' := aI ((ln : Nat) : Int) :: _) rfl rfl ?_
          refine E_ald (e := ln) (N := 6) (v := ((Rla (S i) ln : Nat) : Int)) rfl (kR_17 hR) (rfl) (by omega) (hd.2.2.1 _ (by omega)).2.1 ?_
          refine E_ret rfl rfl ?_
          exact fq_in hS1 hi hr q (by unfold aLevel; (try simp only [Int.toNat_natCast]); rw [cif_pos (by omega), if_neg (by omega), if_pos (by omega)]) hMo
        · refine E_valv h_5 ?_
          refine E_s (p' := 84) rfl rfl ?_
          refine E_s (p' := 86) (st' := aA (a + 15) :: _) rfl rfl ?_
          refine E_gA (b := a + 18) rfl rfl rfl (kR_15 hR) (hR_15_2 hR) rfl ?_
          refine E_s (p' := 90) (st' := aI ((ln : Nat) : Int) :: _) rfl rfl ?_
          refine E_ald (e := ln) (N := 6) (v := ((Rct (S i) ln : Nat) : Int)) rfl (kR_18 hR) (rfl) (by omega) (hd.2.2.1 _ (by omega)).2.2.1 ?_
          refine E_ret rfl rfl ?_
          exact fq_in hS1 hi hr q (by unfold aLevel; (try simp only [Int.toNat_natCast]); rw [cif_pos (by omega), if_neg (by omega), if_neg (by omega), if_pos (by omega)]) hMo
        · refine E_valv h_6 ?_
          refine E_s (p' := 92) rfl rfl ?_
          refine E_s (p' := 94) (st' := aA (a + 15) :: _) rfl rfl ?_
          refine E_gA (b := a + 19) rfl rfl rfl (kR_15 hR) (hR_15_3 hR) rfl ?_
          refine E_s (p' := 98) (st' := aI ((ln : Nat) : Int) :: _) rfl rfl ?_
          refine E_ald (e := ln) (N := 6) (v := ((Rme (S i) ln : Nat) : Int)) rfl (kR_19 hR) (rfl) (by omega) (hd.2.2.1 _ (by omega)).2.2.2 ?_
          refine E_ret rfl rfl ?_
          exact fq_in hS1 hi hr q (by unfold aLevel; (try simp only [Int.toNat_natCast]); rw [cif_pos (by omega), if_neg (by omega), if_neg (by omega), if_neg (by omega), if_pos (by omega)]) hMo
        · refine E_tabO rfl (by omega) (by decide) ?_
          refine E_go (p' := 100) (L' := [some (aA 1), some (aI (r)), some (aI ((ln : Nat) : Int)), some (aI (w)), some (aA a), some (aA (a + 15))]) (st' := []) rfl rfl rfl ?_
          refine E_s (p' := 101) (st' := aI (-1) :: _) rfl rfl ?_
          refine E_ret rfl rfl ?_
          exact fq_in hS1 hi hr q (by unfold aLevel; (try simp only [Int.toNat_natCast]); rw [cif_pos (by omega), if_neg (by omega), if_neg (by omega), if_neg (by omega), if_neg (by omega)]) hMo
      · refine E_go (p' := 28) (L' := [some (aA 1), some (aI (r)), some (aI (l)), some (aI (w)), some (aA a), none]) (st' := []) rfl rfl rfl ?_
        refine E_s (p' := 29) (st' := aI (-1) :: _) rfl rfl ?_
        refine E_ret rfl rfl ?_
        exact fq_in hS1 hi hr q (by unfold aLevel; rw [cif_neg (by omega)]) hMo
  · refine E_go (p' := 5) (L' := [some (aA 1), some (aI (r)), some (aI (l)), some (aI (w)), none, none]) (st' := [aN]) rfl rfl rfl ?_
    refine E_s (p' := 7) (L' := [some (aA 1), some (aI (r)), some (aI (l)), some (aI (w)), some (aN), none]) rfl rfl ?_
    refine E_s (p' := 9) (st' := aN :: _) rfl rfl ?_
    refine E_s (p' := 28) rfl rfl ?_
    refine E_s (p' := 29) (st' := aI (-1) :: _) rfl rfl ?_
    refine E_ret rfl rfl ?_
    exact fq_out hS q hr
theorem C_number (hS : CS S m) (q : ∀ m1, CS S m1 → Mo m m1 → Q (some (aI (qy S r (-1) (aNumber c)))) (m1, tl len)) : E 72 0 [some (aA 1), some (aI (r)), some (aI (c)), none] [] (m, tl len) Q := by
  refine E_s (p' := 1) (st' := aA 1 :: _) rfl rfl ?_
  refine E_s (p' := 2) (st' := aI (r) :: _) rfl rfl ?_
  refine E_callV (k' := 34) (a := 1) (r := []) (L0 := [some (aA 1), some (aI (r)), none]) rfl rfl rfl rfl rfl rfl rfl rfl rfl rfl ?_
  refine c_readOf hS (fun i a m1 hi hr ha hR hS1 hCS hd hMo => ?_) (fun hr => ?_)
  · refine E_go (p' := 5) (L' := [some (aA 1), some (aI (r)), some (aI (c)), none]) (st' := [aA a]) rfl rfl rfl ?_
    obtain ⟨hV, hC, -⟩ := hCS
    have hn60 := hV.1
    have hab := isR_b hR
    have hs40 := hV.2.2.2.2.1
    refine E_s (p' := 6) (L' := [some (aA 1), some (aI (r)), some (aI (c)), some (aA a)]) rfl rfl ?_
    refine E_s (p' := 7) (st' := aA a :: _) rfl rfl ?_
    refine E_s (p' := 10) rfl rfl ?_
    refine E_s (p' := 11) (st' := aA a :: _) rfl rfl ?_
    refine E_gA (b := a + 1) rfl rfl rfl (kR_0 hR) (hR_0_0 hR) rfl ?_
    refine E_s (p' := 15) (st' := aI (c) :: _) rfl rfl ?_
    refine E_callV (k' := 17) (a := a + 1) (r := []) (L0 := [some (aA (a + 1)), some (aI (c))]) rfl rfl rfl rfl rfl (kR_1 hR) rfl rfl rfl rfl ?_
    refine c_has hR hC (fun ci he_ci hc_ci => ?_) (fun hno => ?_)
    · refine E_go (p' := 18) (L' := [some (aA 1), some (aI (r)), some (aI (c)), some (aA a)]) (st' := [aI 1]) rfl rfl rfl ?_
      subst he_ci
      refine E_s (p' := 25) rfl rfl ?_
      refine E_s (p' := 26) (st' := aA a :: _) rfl rfl ?_
      refine E_gA (b := a + 15) rfl rfl rfl (kR_0 hR) (hR_0_4 hR) rfl ?_
      refine E_s (p' := 30) (st' := aI ((ci : Nat) : Int) :: _) rfl rfl ?_
      refine E_callV (k' := 55) (a := a + 15) (r := []) (L0 := [some (aA (a + 15)), some (aI ((ci : Nat) : Int))]) rfl rfl rfl rfl rfl (kR_15 hR) rfl rfl rfl rfl ?_
      refine c_told hR hn60 hd hc_ci ?_
      refine E_go (p' := 33) (L' := [some (aA 1), some (aI (r)), some (aI ((ci : Nat) : Int)), some (aA a)]) (st' := [aI ((Rtd (S i) ci))]) rfl rfl rfl ?_
      refine E_ret rfl rfl ?_
      exact fq_in hS1 hi hr q (by unfold aNumber; (try simp only [Int.toNat_natCast]); rw [cif_pos (by unfold inC; omega)]) hMo
    · refine E_go (p' := 18) (L' := [some (aA 1), some (aI (r)), some (aI (c)), some (aA a)]) (st' := [aI 0]) rfl rfl rfl ?_
      refine E_s (p' := 21) rfl rfl ?_
      refine E_s (p' := 22) (st' := aI (-1) :: _) rfl rfl ?_
      refine E_s (p' := 33) rfl rfl ?_
      refine E_ret rfl rfl ?_
      exact fq_in hS1 hi hr q (by unfold aNumber; rw [cif_neg (by unfold inC; omega)]) hMo
  · refine E_go (p' := 5) (L' := [some (aA 1), some (aI (r)), some (aI (c)), none]) (st' := [aN]) rfl rfl rfl ?_
    refine E_s (p' := 6) (L' := [some (aA 1), some (aI (r)), some (aI (c)), some (aN)]) rfl rfl ?_
    refine E_s (p' := 7) (st' := aN :: _) rfl rfl ?_
    refine E_s (p' := 21) rfl rfl ?_
    refine E_s (p' := 22) (st' := aI (-1) :: _) rfl rfl ?_
    refine E_s (p' := 33) rfl rfl ?_
    refine E_ret rfl rfl ?_
    exact fq_out hS q hr
theorem yl_hmf {a : Nat} {R : RD} (hR : isR a) (hn : Cn R ≤ 60) (hd9 : RdC R a m) (q : Q (some (aI (cntN (fun d => decide (Rft R d ≠ 0)) (Cn R) : Int))) (m, tl len)) : ∀ (d : Nat) (i t : Nat), (Cn R < i + d) → (i ≤ Cn R) → (t = cntN (fun d => decide (Rft R d ≠ 0)) i) → E 126 4 [some (aA (a + 15)), some (aI ((Cn R : Nat) : Int)), some (aI ((t : Nat) : Int)), some (aI ((i : Nat) : Int))] [] (m, tl len) Q := by
  intro d
  induction d with
  | zero => intro i t hd hi hz; omega
  | succ d ih =>
    intro i t hd hi hz
    have ht9 := cntN_le (fun d => decide (Rft R d ≠ 0)) i
    refine E_s (p' := 5) (st' := aI ((i : Nat) : Int) :: _) rfl rfl ?_
    refine E_s (p' := 6) (st' := aI ((Cn R : Nat) : Int) :: _) rfl rfl ?_
    refine E_icmp_ge (x := ((i : Nat) : Int)) (y := ((Cn R : Nat) : Int)) rfl (by decide) (fun h_1 => ?_) (fun h_1 => ?_)
    · refine E_go (p' := 32) (L' := [some (aA (a + 15)), some (aI ((Cn R : Nat) : Int)), some (aI ((t : Nat) : Int)), some (aI ((i : Nat) : Int))]) (st' := []) rfl rfl rfl ?_
      refine E_s (p' := 33) (st' := aI ((t : Nat) : Int) :: _) rfl rfl ?_
      refine E_ret rfl rfl ?_
      have ei : i = Cn R := by omega
      rw [hz, ei]
      exact q
    · refine E_go (p' := 9) (L' := [some (aA (a + 15)), some (aI ((Cn R : Nat) : Int)), some (aI ((t : Nat) : Int)), some (aI ((i : Nat) : Int))]) (st' := []) rfl rfl rfl ?_
      refine E_s (p' := 10) (st' := aI ((t : Nat) : Int) :: _) rfl rfl ?_
      refine E_s (p' := 11) (st' := aA (a + 15) :: _) rfl rfl ?_
      refine E_gA (b := a + 21) rfl rfl rfl (kR_15 hR) (hR_15_5 hR) rfl ?_
      refine E_s (p' := 15) (st' := aI ((i : Nat) : Int) :: _) rfl rfl ?_
      refine E_ald (e := i) (N := 60) (v := ((Rft R i : Nat) : Int)) rfl (kR_21 hR) (rfl) (by omega) (hd9.2.2.2 _ (by omega)).2.1 ?_
      suffices h_2 : E 126 24 [some (aA (a + 15)), some (aI ((Cn R : Nat) : Int)), some (aI ((t : Nat) : Int)), some (aI ((i : Nat) : Int))] [aI (bi (!decide (((Rft R i : Nat) : Int) = 0))), aI ((t : Nat) : Int)] (m, tl len) Q by
        refine E_if_eq (x := ((Rft R i : Nat) : Int)) rfl (by decide) (fun h_3 => ?_) (fun h_3 => ?_)
        · refine E_go (p' := 23) (L' := [some (aA (a + 15)), some (aI ((Cn R : Nat) : Int)), some (aI ((t : Nat) : Int)), some (aI ((i : Nat) : Int))]) (st' := [aI ((t : Nat) : Int)]) rfl rfl rfl ?_
          refine E_s (p' := 24) (st' := aI 0 :: _) rfl rfl ?_
          rw [decide_eq_true (p := ((Rft R i : Nat) : Int) = 0) (by omega)] at h_2
          exact h_2
        · refine E_go (p' := 19) (L' := [some (aA (a + 15)), some (aI ((Cn R : Nat) : Int)), some (aI ((t : Nat) : Int)), some (aI ((i : Nat) : Int))]) (st' := [aI ((t : Nat) : Int)]) rfl rfl rfl ?_
          refine E_s (p' := 20) (st' := aI 1 :: _) rfl rfl ?_
          refine E_s (p' := 24) rfl rfl ?_
          rw [decide_eq_false (p := ((Rft R i : Nat) : Int) = 0) (by omega)] at h_2
          exact h_2
      refine E_add (v := ((t + bn (!decide (((Rft R i : Nat) : Int) = 0)) : Nat) : Int)) rfl add_bn (by have := bn_le (!decide (((Rft R i : Nat) : Int) = 0)); omega) ?_
      refine E_s (p' := 26) (L' := [some (aA (a + 15)), some (aI ((Cn R : Nat) : Int)), some (aI ((t + bn (!decide (((Rft R i : Nat) : Int) = 0)) : Nat) : Int)), some (aI ((i : Nat) : Int))]) rfl rfl ?_
      refine E_inc (x := ((i : Nat) : Int)) (w := ((i + 1 : Nat) : Int)) (L' := [some (aA (a + 15)), some (aI ((Cn R : Nat) : Int)), some (aI ((t + bn (!decide (((Rft R i : Nat) : Int) = 0)) : Nat) : Int)), some (aI ((i + 1 : Nat) : Int))]) rfl rfl rfl (by omega) (by omega) rfl ?_
      refine E_s (p' := 4) rfl rfl ?_
      exact ih (i + 1) _ (by omega) (by omega) (by rw [hz]; simp [cntN])
theorem c_hmf {a : Nat} {R : RD} (hR : isR a) (hn : Cn R ≤ 60) (hd9 : RdC R a m) (q : Q (some (aI (cntN (fun d => decide (Rft R d ≠ 0)) (Cn R) : Int))) (m, tl len)) : E 126 0 [some (aA (a + 15)), some (aI ((Cn R : Nat) : Int)), none, none] [] (m, tl len) Q := by
  refine E_s (p' := 1) (st' := aI 0 :: _) rfl rfl ?_
  refine E_s (p' := 2) (L' := [some (aA (a + 15)), some (aI ((Cn R : Nat) : Int)), some (aI 0), none]) rfl rfl ?_
  refine E_s (p' := 3) (st' := aI 0 :: _) rfl rfl ?_
  refine E_s (p' := 4) (L' := [some (aA (a + 15)), some (aI ((Cn R : Nat) : Int)), some (aI 0), some (aI 0)]) rfl rfl ?_
  exact yl_hmf hR hn hd9 q (Cn R + 1) 0 0 (by omega) (by omega) rfl
theorem C_count (hS : CS S m) (q : ∀ m1, CS S m1 → Mo m m1 → Q (some (aI (qy S r (-1) (aCount w)))) (m1, tl len)) : E 123 0 [some (aA 1), some (aI (r)), some (aI (w)), none] [] (m, tl len) Q := by
  refine E_s (p' := 1) (st' := aA 1 :: _) rfl rfl ?_
  refine E_s (p' := 2) (st' := aI (r) :: _) rfl rfl ?_
  refine E_callV (k' := 12) (a := 1) (r := []) (L0 := [some (aA 1), some (aI (r))]) rfl rfl rfl rfl rfl rfl rfl rfl rfl rfl ?_
  refine c_recordOf' (fun i a hi hr ha hR => ?_) (fun hr => ?_)
  · refine E_go (p' := 5) (L' := [some (aA 1), some (aI (r)), some (aI (w)), none]) (st' := [aA a]) rfl rfl rfl ?_
    obtain ⟨hV, hC, hrd⟩ := hS i hi
    rw [← ha] at hC hrd
    have hn60 := hV.1
    have hab := isR_b hR
    have hs40 := hV.2.2.2.2.1
    have hS1 := hS
    have hMo : Mo m m := Mo.rf
    refine E_s (p' := 6) (L' := [some (aA 1), some (aI (r)), some (aI (w)), some (aA a)]) rfl rfl ?_
    refine E_s (p' := 7) (st' := aA a :: _) rfl rfl ?_
    refine E_s (p' := 12) rfl rfl ?_
    refine E_s (p' := 13) (st' := aI (w) :: _) rfl rfl ?_
    rcases (show (w) = 0 ∨ (w) = 1 ∨ (w) = 2 ∨ (w) = 3 ∨ (w) = 4 ∨ (w) = 5 ∨ (w) = 6 ∨ ((w) ≠ 0 ∧ (w) ≠ 1 ∧ (w) ≠ 2 ∧ (w) ≠ 3 ∧ (w) ≠ 4 ∧ (w) ≠ 5 ∧ (w) ≠ 6) by omega) with h_1 | h_2 | h_3 | h_4 | h_5 | h_6 | h_7 | h_8
    · refine E_valv h_1 ?_
      refine E_s (p' := 56) rfl rfl ?_
      refine E_s (p' := 57) (st' := aA a :: _) rfl rfl ?_
      refine E_gA (b := a + 1) rfl rfl rfl (kR_0 hR) (hR_0_0 hR) rfl ?_
      refine E_gI (v := ((Cn (S i) : Nat) : Int)) rfl rfl rfl (kR_1 hR) hC.1 ?_
      refine E_ret rfl rfl ?_
      exact fq_in hS1 hi hr q (by unfold aCount; rw [if_pos (by omega)]) hMo
    · refine E_valv h_2 ?_
      refine E_s (p' := 64) rfl rfl ?_
      refine E_s (p' := 65) (st' := aA a :: _) rfl rfl ?_
      refine E_gA (b := a + 1) rfl rfl rfl (kR_0 hR) (hR_0_0 hR) rfl ?_
      refine E_callV (k' := 124) (a := a + 1) (r := []) (L0 := [some (aA (a + 1)), none, none]) rfl rfl rfl rfl rfl (kR_1 hR) rfl rfl rfl rfl ?_
      refine c_allKnots hR hC hV ?_
      refine E_go (p' := 71) (L' := [some (aA 1), some (aI (r)), some (aI (w)), some (aA a)]) (st' := [aI ((sumN (Ck (S i)) (Cn (S i)) : Nat) : Int)]) rfl rfl rfl ?_
      refine E_ret rfl rfl ?_
      exact fq_in hS1 hi hr q (by unfold aCount; rw [if_neg (by omega), if_pos (by omega)]) hMo
    · refine E_valv h_3 ?_
      refine E_s (p' := 72) rfl rfl ?_
      refine E_s (p' := 73) (st' := aA a :: _) rfl rfl ?_
      refine E_gA (b := a + 9) rfl rfl rfl (kR_0 hR) (hR_0_1 hR) rfl ?_
      refine E_gI (v := ((Sn (S i) : Nat) : Int)) rfl rfl rfl (kR_9 hR) (CRS hC) ?_
      refine E_ret rfl rfl ?_
      exact fq_in hS1 hi hr q (by unfold aCount; rw [if_neg (by omega), if_neg (by omega), if_pos (by omega)]) hMo
    · refine E_valv h_4 ?_
      refine E_s (p' := 80) rfl rfl ?_
      refine E_s (p' := 81) (st' := aA a :: _) rfl rfl ?_
      refine E_gI (v := ((Cq (S i) : Nat) : Int)) rfl rfl rfl (kR_0 hR) hC.2.1 ?_
      refine E_ret rfl rfl ?_
      exact fq_in hS1 hi hr q (by unfold aCount; rw [if_neg (by omega), if_neg (by omega), if_neg (by omega), if_pos (by omega)]) hMo
    · refine E_valv h_5 ?_
      refine E_s (p' := 85) rfl rfl ?_
      refine E_s (p' := 86) (st' := aA a :: _) rfl rfl ?_
      refine E_gA (b := a + 1) rfl rfl rfl (kR_0 hR) (hR_0_0 hR) rfl ?_
      refine E_callV (k' := 125) (a := a + 1) (r := []) (L0 := [some (aA (a + 1)), none, none]) rfl rfl rfl rfl rfl (kR_1 hR) rfl rfl rfl rfl ?_
      refine c_howManyTorn hR hC hV ?_
      refine E_go (p' := 92) (L' := [some (aA 1), some (aI (r)), some (aI (w)), some (aA a)]) (st' := [aI ((cntN (fun d => decide (Ct (S i) d ≠ 0)) (Cn (S i)) : Nat) : Int)]) rfl rfl rfl ?_
      refine E_ret rfl rfl ?_
      exact fq_in hS1 hi hr q (by unfold aCount; rw [if_neg (by omega), if_neg (by omega), if_neg (by omega), if_neg (by omega), if_pos (by omega)]) hMo
    · refine E_valv h_6 ?_
      refine E_s (p' := 93) rfl rfl ?_
      refine E_s (p' := 94) (st' := aA a :: _) rfl rfl ?_
      refine E_callV (k' := 35) (a := a) (r := []) (L0 := [some (aA a)]) rfl rfl rfl rfl rfl (kR_0 hR) rfl rfl rfl rfl ?_
      refine c_readNow hR (ha ▸ hS i hi) (fun m1 h1 hd hF1 => ?_)
      refine E_go (p' := 97) (L' := [some (aA 1), some (aI (r)), some (aI (w)), some (aA a)]) (st' := [aA (a + 15)]) rfl rfl rfl ?_
      have hS1 : CS S m1 := by have := hS.set hi ha h1 (fun b j hb => hF1 b j (by omega)); rw [upf_self] at this; exact this
      have hMo : Mo m m1 := fun b j hb => hF1 b j (by omega)
      have hC := h1.2.1
      refine E_s (p' := 98) (st' := aA a :: _) rfl rfl ?_
      refine E_gA (b := a + 1) rfl rfl rfl (kR_0 hR) (hR_0_0 hR) rfl ?_
      refine E_gI (v := ((Cn (S i) : Nat) : Int)) rfl rfl rfl (kR_1 hR) hC.1 ?_
      refine E_callV (k' := 126) (a := a + 15) (r := []) (L0 := [some (aA (a + 15)), some (aI ((Cn (S i) : Nat) : Int)), none, none]) rfl rfl rfl rfl rfl (kR_15 hR) rfl rfl rfl rfl ?_
      refine c_hmf hR hn60 hd ?_
      refine E_go (p' := 107) (L' := [some (aA 1), some (aI (r)), some (aI (w)), some (aA a)]) (st' := [aI ((cntN (fun d => decide (Rft (S i) d ≠ 0)) (Cn (S i)) : Nat) : Int)]) rfl rfl rfl ?_
      refine E_ret rfl rfl ?_
      exact fq_in hS1 hi hr q (by unfold aCount; rw [if_neg (by omega), if_neg (by omega), if_neg (by omega), if_neg (by omega), if_neg (by omega), if_pos (by omega)]) hMo
    · refine E_valv h_7 ?_
      refine E_s (p' := 108) rfl rfl ?_
      refine E_s (p' := 109) (st' := aA a :: _) rfl rfl ?_
      refine E_gA (b := a + 1) rfl rfl rfl (kR_0 hR) (hR_0_0 hR) rfl ?_
      refine E_s (p' := 113) (st' := aI (-1) :: _) rfl rfl ?_
      refine E_callV (k' := 68) (a := a + 1) (r := []) (L0 := [some (aA (a + 1)), some (aI (-1)), none, none]) rfl rfl rfl rfl rfl (kR_1 hR) rfl rfl rfl rfl ?_
      refine c_howManyOn hR hC hV (h := -1) ?_
      refine E_go (p' := 116) (L' := [some (aA 1), some (aI (r)), some (aI (w)), some (aA a)]) (st' := [aI ((cntN (fun d => decide (Co (S i) d = -1)) (Cn (S i)) : Nat) : Int)]) rfl rfl rfl ?_
      refine E_ret rfl rfl ?_
      exact fq_in hS1 hi hr q (by unfold aCount; rw [if_neg (by omega), if_neg (by omega), if_neg (by omega), if_neg (by omega), if_neg (by omega), if_neg (by omega), if_pos (by omega)]) hMo
    · refine E_tabO rfl (by omega) (by decide) ?_
      refine E_go (p' := 117) (L' := [some (aA 1), some (aI (r)), some (aI (w)), some (aA a)]) (st' := []) rfl rfl rfl ?_
      refine E_s (p' := 118) (st' := aI (-1) :: _) rfl rfl ?_
      refine E_ret rfl rfl ?_
      exact fq_in hS1 hi hr q (by unfold aCount; rw [if_neg (by omega), if_neg (by omega), if_neg (by omega), if_neg (by omega), if_neg (by omega), if_neg (by omega), if_neg (by omega)]) hMo
  · refine E_go (p' := 5) (L' := [some (aA 1), some (aI (r)), some (aI (w)), none]) (st' := [aN]) rfl rfl rfl ?_
    refine E_s (p' := 6) (L' := [some (aA 1), some (aI (r)), some (aI (w)), some (aN)]) rfl rfl ?_
    refine E_s (p' := 7) (st' := aN :: _) rfl rfl ?_
    refine E_s (p' := 10) rfl rfl ?_
    refine E_s (p' := 11) (st' := aI (-1) :: _) rfl rfl ?_
    refine E_ret rfl rfl ?_
    exact fq_out hS q hr
end

theorem Rct_l5 {R : RD} (h : 1 ≤ RL R) (l : Nat) : Rct R l ≤ 100000 := by
  have h1 := RL_mx R
  have h2 : 10 ^ (RL R - 1 - l) ≤ 10 ^ (mxv (Run R) - 1) := Nat.pow_le_pow_right (by decide) (by omega)
  unfold Rct
  cases hu : Run R
  · rw [hu] at h2; exact Nat.le_trans (Nat.mul_le_mul_right _ h2) (by decide)
  · rw [hu] at h2; exact Nat.le_trans (Nat.mul_le_mul_right _ h2) (by decide)
theorem cls_w9 {R : RD} (hV : VR R) {c : Nat} (hc : c < Cn R) : ∀ k, k ≤ Ck R c → ∀ q ∈ cls R c k, q.2.1 ≠ 0 → q.2.2 ≤ 9 := by
  intro k
  induction k with
  | zero => intro _ q hq; cases hq
  | succ k ih =>
    intro hk q hq
    cases he : ends R c k with
    | true =>
      rw [cls_t he] at hq
      rcases List.mem_append.mp hq with g | g
      · exact ih (by omega) q g
      · rw [List.mem_singleton.mp g]
        intro h0
        have h0' : so (Cp R c k) ≠ 0 := h0
        obtain ⟨a0, -⟩ := hV.2.2.2.1 c k hc (by omega)
        unfold kok at a0
        show clw R c k ≤ 9
        unfold clw
        rw [if_neg h0']
        split <;> omega
    | false => rw [cls_f he] at hq; exact ih (by omega) q hq
theorem rSum_l9 {R : RD} (h : 1 ≤ RL R) {c : Nat} : ∀ (l : List (Nat × (Nat × Nat))), (∀ q ∈ l, q.2.2 ≤ 9) → rSum R c l ≤ 900000 * l.length := by
  intro l
  induction l with
  | nil => intro _; exact Nat.le_refl _
  | cons q r ih =>
    intro hq
    have h1 := ih (fun p hp => hq p (List.mem_cons_of_mem _ hp))
    have h2 := hq q List.mem_cons_self
    have h3 := Rct_l5 h (Rlo R q.1)
    have h4 : q.2.2 * Rct R (Rlo R q.1) ≤ 9 * 100000 := Nat.mul_le_mul h2 h3
    show (bif lst R c (Rlo R q.1) then 0 else q.2.2 * Rct R (Rlo R q.1)) + rSum R c r ≤ 900000 * (r.length + 1)
    cases lst R c (Rlo R q.1)
    · show q.2.2 * Rct R (Rlo R q.1) + _ ≤ _; omega
    · show 0 + _ ≤ _; omega
theorem Rvl_c {R : RD} (hV : VR R) {c : Nat} (hc : c < Cn R) : Rvl R c ≤ 27000000 := by
  unfold Rvl
  split
  · omega
  · next h0 =>
    split
    · next hf =>
      have hm : rMany R (clsA R c) = false := by
        cases hm : rMany R (clsA R c) with
        | false => rfl
        | true => unfold Rft at hf; rw [if_neg h0, hm] at hf; cases hf
      have h9 : ∀ q ∈ clsA R c, q.2.2 ≤ 9 := fun q hq => by
        by_cases g : q.2.1 = 0
        · unfold rMany at hm
          rw [List.any_eq_false] at hm
          have := hm q hq
          simp [g] at this
          exact this
        · exact cls_w9 hV hc _ (Nat.le_refl _) q hq g
      have h1 := rSum_l9 (c := c) (show 1 ≤ RL R by omega) (clsA R c) h9
      have h2 := cls_len R c (Ck R c)
      have h3 := (hV.2.2.1 c hc).2.2.2.2.2
      have h4 : (clsA R c).length = (cls R c (Ck R c)).length := rfl
      omega
    · omega
theorem cntN_z {p : Nat → Bool} : ∀ {n : Nat}, (∀ d, d < n → p d = false) → cntN p n = 0 := by
  intro n
  induction n with
  | zero => intro _; rfl
  | succ n ih => intro h; show cntN p n + bn (p n) = 0; rw [ih (fun d hd => h d (by omega)), h n (by omega)]; rfl
theorem sumN_z {f : Nat → Nat} : ∀ {n : Nat}, (∀ d, d < n → f d = 0) → sumN f n = 0 := by
  intro n
  induction n with
  | zero => intro _; rfl
  | succ n ih => intro h; show sumN f n + f n = 0; rw [ih (fun d hd => h d (by omega)), h n (by omega)]
/-- from the first on that is so -/
def fstP (b : Nat → Bool) : Nat → Nat → Nat
  | 0, p => p
  | d + 1, p => if b p = true then p else fstP b d (p + 1)
theorem fstP_u {b : Nat → Bool} : ∀ {d p n : Nat}, p ≤ n → n ≤ p + d → (∀ j, p ≤ j → j < n → b j = false) → (n < p + d → b n = true) → fstP b d p = n := by
  intro d
  induction d with
  | zero => intro p n h1 h2 _ _; show p = n; omega
  | succ d ih =>
    intro p n h1 h2 h3 h4
    show (if b p = true then p else fstP b d (p + 1)) = n
    by_cases g : p = n
    · subst g; rw [if_pos (h4 (by omega))]
    · rw [if_neg (by rw [h3 p (Nat.le_refl _) (by omega)]; decide)]
      exact ih (by omega) (by omega) (fun j h5 h6 => h3 j (by omega) h6) (fun h5 => h4 (by omega))
def gcol (R : RD) (g : Int) (i : Nat) : Nat := Cc R ((gmem R g (Cn R)).getD i 0)
def glen (R : RD) (g : Int) : Nat := (gmem R g (Cn R)).length
/-- each has the colour of the p-th one ahead -/
def perB (R : RD) (g : Int) (p : Nat) : Bool := (List.range (glen R g)).all fun i => decide (i < p) || decide (gcol R g i = gcol R g (i - p))
noncomputable def aPeriod (g : Int) (R : RD) : Int := cif ((0 ≤ g ∧ g ≤ 11) ∧ glen R g ≠ 0) (fstP (perB R g) (glen R g) 1 : Int) (-1)
theorem perB_t {R : RD} {g : Int} {p : Nat} (h : ∀ i, p ≤ i → i < glen R g → gcol R g i = gcol R g (i - p)) : perB R g p = true := by
  unfold perB
  rw [List.all_eq_true]
  intro i hi
  have hi := List.mem_range.mp hi
  by_cases g9 : i < p
  · rw [decide_eq_true g9]; rfl
  · rw [decide_eq_true (h i (by omega) hi)]; simp
theorem perB_f {R : RD} {g : Int} {p i : Nat} (h1 : p ≤ i) (h2 : i < glen R g) (h3 : gcol R g i ≠ gcol R g (i - p)) : perB R g p = false := by
  cases h : perB R g p with
  | false => rfl
  | true =>
    unfold perB at h
    rw [List.all_eq_true] at h
    have := h i (List.mem_range.mpr h2)
    rw [decide_eq_false (by omega), decide_eq_false h3] at this
    cases this
theorem gmem_t {R : RD} {g : Int} {n : Nat} (h : Cg R n = g) : gmem R g (n + 1) = gmem R g n ++ [n] := by show (if Cg R n = g then _ else _) = _; rw [if_pos h]
theorem gmem_f {R : RD} {g : Int} {n : Nat} (h : Cg R n ≠ g) : gmem R g (n + 1) = gmem R g n := by show (if Cg R n = g then _ else _) = _; rw [if_neg h]
theorem getD_app_l {l : List Nat} {x i : Nat} (h : i < l.length) : (l ++ [x]).getD i 0 = l.getD i 0 := by
  rw [List.getD_eq_getElem?_getD, List.getD_eq_getElem?_getD, List.getElem?_append_left h]
theorem getD_app_r {l : List Nat} {x : Nat} : (l ++ [x]).getD l.length 0 = x := by
  rw [List.getD_eq_getElem?_getD, List.getElem?_append_right (Nat.le_refl _), Nat.sub_self]; rfl
section
variable {len : Nat} {m : Mm} {Q : Option AV → Sx → Prop} {R : RD} {a ci : Nat} {r : Int}
theorem yl_under (hR : isR a) (hC : CR R a m) (hV : VR R) (hd9 : RdC R a m) (hc : ci < Cn R) (q1 : unB R ci (Cn R) = 0 → Q (some (aI (unS R ci (Cn R) : Int))) (m, tl len)) (q0 : unB R ci (Cn R) ≠ 0 → Q (some (aI (-1))) (m, tl len)) : ∀ (d : Nat) (e w : Nat), (Cn R < e + d) → (e ≤ Cn R) → (w = unS R ci e) → (unB R ci e = 0) → E 73 31 [some (aA 1), some (aI (r)), some (aI ((ci : Nat) : Int)), some (aA a), some (aI ((w : Nat) : Int)), some (aI ((e : Nat) : Int))] [] (m, tl len) Q := by
  intro d
  induction d with
  | zero => intro e w hd he hw hb; omega
  | succ d ih =>
    intro e w hd he hw hb
    have hn60 := hV.1
    have hab := isR_b hR
    have hwb : w ≤ 27000000 * e := by
      rw [hw]
      have := sumN_le (f := fun d => bif decide (Co R d = (ci : Int)) then Rvl R d else 0) (b := 27000000) e (fun i hi => by have := Rvl_c hV (show i < Cn R by omega); show (bif decide (Co R i = (ci : Int)) then Rvl R i else 0) ≤ _; cases decide (Co R i = (ci : Int)) <;> simp <;> omega)
      unfold unS; omega
    refine E_s (p' := 33) (st' := aI ((e : Nat) : Int) :: _) rfl rfl ?_
    refine E_s (p' := 34) (st' := aA a :: _) rfl rfl ?_
    refine E_gA (b := a + 1) rfl rfl rfl (kR_0 hR) (hR_0_0 hR) rfl ?_
    refine E_gI (v := ((Cn R : Nat) : Int)) rfl rfl rfl (kR_1 hR) hC.1 ?_
    refine E_icmp_ge (x := ((e : Nat) : Int)) (y := ((Cn R : Nat) : Int)) rfl (by decide) (fun h_1 => ?_) (fun h_1 => ?_)
    · refine E_go (p' := 92) (L' := [some (aA 1), some (aI (r)), some (aI ((ci : Nat) : Int)), some (aA a), some (aI ((w : Nat) : Int)), some (aI ((e : Nat) : Int))]) (st' := []) rfl rfl rfl ?_
      refine E_s (p' := 94) (st' := aI ((w : Nat) : Int) :: _) rfl rfl ?_
      refine E_ret rfl rfl ?_
      have ee : e = Cn R := by omega
      rw [ee] at hw hb
      rw [← hw] at q1
      exact q1 hb
    · refine E_go (p' := 43) (L' := [some (aA 1), some (aI (r)), some (aI ((ci : Nat) : Int)), some (aA a), some (aI ((w : Nat) : Int)), some (aI ((e : Nat) : Int))]) (st' := []) rfl rfl rfl ?_
      refine E_s (p' := 44) (st' := aA a :: _) rfl rfl ?_
      refine E_gA (b := a + 1) rfl rfl rfl (kR_0 hR) (hR_0_0 hR) rfl ?_
      refine E_gA (b := a + 3) rfl rfl rfl (kR_1 hR) (hR_1_1 hR) rfl ?_
      refine E_s (p' := 52) (st' := aI ((e : Nat) : Int) :: _) rfl rfl ?_
      refine E_ald (e := e) (N := 60) (v := ((Co R e))) rfl (kR_3 hR) (rfl) (by omega) (CR_3 hC (by omega)) ?_
      refine E_s (p' := 54) (st' := aI ((ci : Nat) : Int) :: _) rfl rfl ?_
      refine E_icmp_eq (x := ((Co R e))) (y := ((ci : Nat) : Int)) rfl (by decide) (fun h_2 => ?_) (fun h_2 => ?_)
      · refine E_go (p' := 60) (L' := [some (aA 1), some (aI (r)), some (aI ((ci : Nat) : Int)), some (aA a), some (aI ((w : Nat) : Int)), some (aI ((e : Nat) : Int))]) (st' := []) rfl rfl rfl ?_
        refine E_s (p' := 61) (st' := aA a :: _) rfl rfl ?_
        refine E_s (p' := 63) (st' := aI ((e : Nat) : Int) :: _) rfl rfl ?_
        refine E_callV (k' := 74) (a := a) (r := []) (L0 := [some (aA a), some (aI ((e : Nat) : Int))]) rfl rfl rfl rfl rfl (kR_0 hR) rfl rfl rfl rfl ?_
        refine c_isSound hR hn60 hC hd9 (c := e) (by omega) (fun hs1 hs2 => ?_) (fun hs0 => ?_)
        · refine E_go (p' := 66) (L' := [some (aA 1), some (aI (r)), some (aI ((ci : Nat) : Int)), some (aA a), some (aI ((w : Nat) : Int)), some (aI ((e : Nat) : Int))]) (st' := [aI 1]) rfl rfl rfl ?_
          refine E_s (p' := 71) rfl rfl ?_
          have hve := Rvl_c hV (show e < Cn R by omega)
          refine E_s (p' := 73) (st' := aI ((w : Nat) : Int) :: _) rfl rfl ?_
          refine E_s (p' := 74) (st' := aA a :: _) rfl rfl ?_
          refine E_gA (b := a + 15) rfl rfl rfl (kR_0 hR) (hR_0_4 hR) rfl ?_
          refine E_gA (b := a + 22) rfl rfl rfl (kR_15 hR) (hR_15_6 hR) rfl ?_
          refine E_s (p' := 82) (st' := aI ((e : Nat) : Int) :: _) rfl rfl ?_
          refine E_ald (e := e) (N := 60) (v := ((Rvl R e : Nat) : Int)) rfl (kR_22 hR) (rfl) (by omega) (hd9.2.2.2 _ (by omega)).2.2.1 ?_
          refine E_add (v := ((w + Rvl R e : Nat) : Int)) rfl (by omega) (by omega) ?_
          refine E_s (p' := 86) (L' := [some (aA 1), some (aI (r)), some (aI ((ci : Nat) : Int)), some (aA a), some (aI ((w + Rvl R e : Nat) : Int)), some (aI ((e : Nat) : Int))]) rfl rfl ?_
          refine E_inc (x := ((e : Nat) : Int)) (w := ((e + 1 : Nat) : Int)) (L' := [some (aA 1), some (aI (r)), some (aI ((ci : Nat) : Int)), some (aA a), some (aI ((w + Rvl R e : Nat) : Int)), some (aI ((e + 1 : Nat) : Int))]) rfl rfl rfl (by omega) (by omega) rfl ?_
          refine E_s (p' := 31) rfl rfl ?_
          refine ih (e + 1) _ (by omega) (by omega) ?_ ?_
          · rw [hw]; show _ = sumN _ e + (bif decide (Co R e = (ci : Int)) then Rvl R e else 0); rw [decide_eq_true (p := Co R e = (ci : Int)) (by omega)]; rfl
          · show cntN _ e + bn (decide (Co R e = (ci : Int)) && !sdR R e) = 0; rw [decide_eq_true (p := Co R e = (ci : Int)) (by omega), sdR_t hs1 hs2]; exact hb
        · refine E_go (p' := 66) (L' := [some (aA 1), some (aI (r)), some (aI ((ci : Nat) : Int)), some (aA a), some (aI ((w : Nat) : Int)), some (aI ((e : Nat) : Int))]) (st' := [aI 0]) rfl rfl rfl ?_
          refine E_s (p' := 69) rfl rfl ?_
          refine E_s (p' := 70) (st' := aI (-1) :: _) rfl rfl ?_
          refine E_ret rfl rfl ?_
          exact q0 (cntN_pos (i := e) (by omega) (by show (decide (Co R e = (ci : Int)) && !sdR R e) = true; rw [decide_eq_true (p := Co R e = (ci : Int)) (by omega), sdR_f hs0]; rfl))
      · refine E_go (p' := 57) (L' := [some (aA 1), some (aI (r)), some (aI ((ci : Nat) : Int)), some (aA a), some (aI ((w : Nat) : Int)), some (aI ((e : Nat) : Int))]) (st' := []) rfl rfl rfl ?_
        refine E_s (p' := 86) rfl rfl ?_
        refine E_inc (x := ((e : Nat) : Int)) (w := ((e + 1 : Nat) : Int)) (L' := [some (aA 1), some (aI (r)), some (aI ((ci : Nat) : Int)), some (aA a), some (aI ((w : Nat) : Int)), some (aI ((e + 1 : Nat) : Int))]) rfl rfl rfl (by omega) (by omega) rfl ?_
        refine E_s (p' := 31) rfl rfl ?_
        refine ih (e + 1) _ (by omega) (by omega) ?_ ?_
        · rw [hw]; show _ = sumN _ e + (bif decide (Co R e = (ci : Int)) then Rvl R e else 0); rw [decide_eq_false (p := Co R e = (ci : Int)) (by omega)]; rfl
        · show cntN _ e + bn (decide (Co R e = (ci : Int)) && !sdR R e) = 0; rw [decide_eq_false (p := Co R e = (ci : Int)) (by omega)]; exact hb
theorem yl_ks (hR : isR a) (hC : CR R a m) (hV : VR R) (hd9 : RdC R a m) {s : Nat} (hs : s < Sn R) (h2 : 2 ≤ Sp R s) (hsd : sdR R (Sw R s) = true) {x5 : Option AV} (q : Q (some (aI (kps R s))) (m, tl len)) : ∀ (d : Nat) (p w : Nat) (x5 : Option AV), (Sp R s < p + d) → (p ≤ Sp R s) → (w = spS R s p) → (spB R s p = 0) → E 83 36 [some (aA a), some (aI ((s : Nat) : Int)), some (aI ((Sw R s : Nat) : Int)), some (aI ((w : Nat) : Int)), some (aI ((p : Nat) : Int)), x5] [] (m, tl len) Q := by
  intro d
  induction d with
  | zero => intro p w x5 hd hp hw hb; omega
  | succ d ih =>
    intro p w x5 hd hp hw hb
    have hn60 := hV.1
    have hab := isR_b hR
    have hs40 := hV.2.2.2.2.1
    have hp12 := (hV.2.2.2.2.2.1 s hs).2
    have hwn := (hV.2.2.2.2.2.1 s hs).1
    have hwb : w ≤ 27000000 * p := by
      rw [hw]
      have := sumN_le (f := fun k => Rvl R (Sq R s k)) (b := 27000000) p (fun i hi => Rvl_c hV (hV.2.2.2.2.2.2 s i hs (by omega)))
      unfold spS; omega
    refine E_s (p' := 38) (st' := aI ((p : Nat) : Int) :: _) rfl rfl ?_
    refine E_s (p' := 39) (st' := aA a :: _) rfl rfl ?_
    refine E_gA (b := a + 9) rfl rfl rfl (kR_0 hR) (hR_0_1 hR) rfl ?_
    refine E_gA (b := a + 11) rfl rfl rfl (kR_9 hR) (hR_9_1 hR) rfl ?_
    refine E_s (p' := 46) (st' := aI ((s : Nat) : Int) :: _) rfl rfl ?_
    refine E_ald (e := s) (N := 40) (v := ((Sp R s : Nat) : Int)) rfl (kR_11 hR) (rfl) (by omega) (CR_11 hC (by omega)) ?_
    refine E_icmp_ge (x := ((p : Nat) : Int)) (y := ((Sp R s : Nat) : Int)) rfl (by decide) (fun h_1 => ?_) (fun h_1 => ?_)
    · refine E_go (p' := 92) (L' := [some (aA a), some (aI ((s : Nat) : Int)), some (aI ((Sw R s : Nat) : Int)), some (aI ((w : Nat) : Int)), some (aI ((p : Nat) : Int)), x5]) (st' := []) rfl rfl rfl ?_
      refine E_s (p' := 93) (st' := aI ((w : Nat) : Int) :: _) rfl rfl ?_
      refine E_s (p' := 94) (st' := aA a :: _) rfl rfl ?_
      refine E_gA (b := a + 15) rfl rfl rfl (kR_0 hR) (hR_0_4 hR) rfl ?_
      refine E_gA (b := a + 22) rfl rfl rfl (kR_15 hR) (hR_15_6 hR) rfl ?_
      refine E_s (p' := 101) (st' := aI ((Sw R s : Nat) : Int) :: _) rfl rfl ?_
      refine E_ald (e := Sw R s) (N := 60) (v := ((Rvl R (Sw R s) : Nat) : Int)) rfl (kR_22 hR) (rfl) (by omega) (hd9.2.2.2 _ (by omega)).2.2.1 ?_
      refine E_icmp_ne (x := ((w : Nat) : Int)) (y := ((Rvl R (Sw R s) : Nat) : Int)) rfl (by decide) (fun h_2 => ?_) (fun h_2 => ?_)
      · refine E_go (p' := 109) (L' := [some (aA a), some (aI ((s : Nat) : Int)), some (aI ((Sw R s : Nat) : Int)), some (aI ((w : Nat) : Int)), some (aI ((p : Nat) : Int)), x5]) (st' := []) rfl rfl rfl ?_
        refine E_s (p' := 110) (st' := aI 0 :: _) rfl rfl ?_
        refine E_ret rfl rfl ?_
        have ep : p = Sp R s := by omega
        rw [ep] at hw hb
        rw [show kps R s = 0 by unfold kps; rw [cif_pos ⟨h2, hsd, hb⟩, ← hw, if_neg (by omega)]] at q
        exact q
      · refine E_go (p' := 105) (L' := [some (aA a), some (aI ((s : Nat) : Int)), some (aI ((Sw R s : Nat) : Int)), some (aI ((w : Nat) : Int)), some (aI ((p : Nat) : Int)), x5]) (st' := []) rfl rfl rfl ?_
        refine E_s (p' := 106) (st' := aI 1 :: _) rfl rfl ?_
        refine E_s (p' := 110) rfl rfl ?_
        refine E_ret rfl rfl ?_
        have ep : p = Sp R s := by omega
        rw [ep] at hw hb
        rw [show kps R s = 1 by unfold kps; rw [cif_pos ⟨h2, hsd, hb⟩, ← hw, if_pos (by omega)]] at q
        exact q
    · refine E_go (p' := 50) (L' := [some (aA a), some (aI ((s : Nat) : Int)), some (aI ((Sw R s : Nat) : Int)), some (aI ((w : Nat) : Int)), some (aI ((p : Nat) : Int)), x5]) (st' := []) rfl rfl rfl ?_
      have hsq := hV.2.2.2.2.2.2 s p hs (show p < Sp R s by omega)
      have hve := Rvl_c hV hsq
      refine E_s (p' := 51) (st' := aA a :: _) rfl rfl ?_
      refine E_gA (b := a + 9) rfl rfl rfl (kR_0 hR) (hR_0_1 hR) rfl ?_
      refine E_s (p' := 55) (st' := aI ((s : Nat) : Int) :: _) rfl rfl ?_
      refine E_s (p' := 57) (st' := aI ((p : Nat) : Int) :: _) rfl rfl ?_
      refine E_callV (k' := 79) (a := a + 9) (r := []) (L0 := [some (aA (a + 9)), some (aI ((s : Nat) : Int)), some (aI ((p : Nat) : Int))]) rfl rfl rfl rfl rfl (kR_9 hR) rfl rfl rfl rfl ?_
      refine c_partOf hR hC hV (s := s) (p := p) (by omega) (by omega) ?_
      refine E_go (p' := 60) (L' := [some (aA a), some (aI ((s : Nat) : Int)), some (aI ((Sw R s : Nat) : Int)), some (aI ((w : Nat) : Int)), some (aI ((p : Nat) : Int)), x5]) (st' := [aI ((Sq R s p : Nat) : Int)]) rfl rfl rfl ?_
      refine E_s (p' := 62) (L' := [some (aA a), some (aI ((s : Nat) : Int)), some (aI ((Sw R s : Nat) : Int)), some (aI ((w : Nat) : Int)), some (aI ((p : Nat) : Int)), some (aI ((Sq R s p : Nat) : Int))]) rfl rfl ?_
      refine E_s (p' := 63) (st' := aA a :: _) rfl rfl ?_
      refine E_s (p' := 65) (st' := aI ((Sq R s p : Nat) : Int) :: _) rfl rfl ?_
      refine E_callV (k' := 74) (a := a) (r := []) (L0 := [some (aA a), some (aI ((Sq R s p : Nat) : Int))]) rfl rfl rfl rfl rfl (kR_0 hR) rfl rfl rfl rfl ?_
      refine c_isSound hR hn60 hC hd9 (c := Sq R s p) (by omega) (fun hs1 hs2 => ?_) (fun hs0 => ?_)
      · refine E_go (p' := 68) (L' := [some (aA a), some (aI ((s : Nat) : Int)), some (aI ((Sw R s : Nat) : Int)), some (aI ((w : Nat) : Int)), some (aI ((p : Nat) : Int)), some (aI ((Sq R s p : Nat) : Int))]) (st' := [aI 1]) rfl rfl rfl ?_
        refine E_s (p' := 73) rfl rfl ?_
        refine E_s (p' := 74) (st' := aI ((w : Nat) : Int) :: _) rfl rfl ?_
        refine E_s (p' := 75) (st' := aA a :: _) rfl rfl ?_
        refine E_gA (b := a + 15) rfl rfl rfl (kR_0 hR) (hR_0_4 hR) rfl ?_
        refine E_gA (b := a + 22) rfl rfl rfl (kR_15 hR) (hR_15_6 hR) rfl ?_
        refine E_s (p' := 83) (st' := aI ((Sq R s p : Nat) : Int) :: _) rfl rfl ?_
        refine E_ald (e := Sq R s p) (N := 60) (v := ((Rvl R (Sq R s p) : Nat) : Int)) rfl (kR_22 hR) (rfl) (by omega) (hd9.2.2.2 _ (by omega)).2.2.1 ?_
        refine E_add (v := ((w + Rvl R (Sq R s p) : Nat) : Int)) rfl (by omega) (by omega) ?_
        refine E_s (p' := 86) (L' := [some (aA a), some (aI ((s : Nat) : Int)), some (aI ((Sw R s : Nat) : Int)), some (aI ((w + Rvl R (Sq R s p) : Nat) : Int)), some (aI ((p : Nat) : Int)), some (aI ((Sq R s p : Nat) : Int))]) rfl rfl ?_
        refine E_inc (x := ((p : Nat) : Int)) (w := ((p + 1 : Nat) : Int)) (L' := [some (aA a), some (aI ((s : Nat) : Int)), some (aI ((Sw R s : Nat) : Int)), some (aI ((w + Rvl R (Sq R s p) : Nat) : Int)), some (aI ((p + 1 : Nat) : Int)), some (aI ((Sq R s p : Nat) : Int))]) rfl rfl rfl (by omega) (by omega) rfl ?_
        refine E_s (p' := 36) rfl rfl ?_
        exact ih (p + 1) _ _ (by omega) (by omega) (by rw [hw]; rfl) (by show cntN _ p + bn (!sdR R (Sq R s p)) = 0; rw [sdR_t hs1 hs2]; exact hb)
      · refine E_go (p' := 68) (L' := [some (aA a), some (aI ((s : Nat) : Int)), some (aI ((Sw R s : Nat) : Int)), some (aI ((w : Nat) : Int)), some (aI ((p : Nat) : Int)), some (aI ((Sq R s p : Nat) : Int))]) (st' := [aI 0]) rfl rfl rfl ?_
        refine E_s (p' := 71) rfl rfl ?_
        refine E_s (p' := 72) (st' := aI (-1) :: _) rfl rfl ?_
        refine E_ret rfl rfl ?_
        rw [show kps R s = -1 by unfold kps; rw [cif_neg (fun g9 => absurd g9.2.2 (cntN_pos (i := p) (by omega) (by show (!sdR R (Sq R s p)) = true; rw [sdR_f hs0]; rfl)))]] at q
        exact q
theorem c_keepsSum (hR : isR a) (hC : CR R a m) (hV : VR R) (hd9 : RdC R a m) {s : Nat} (hs : s < Sn R) (q : Q (some (aI (kps R s))) (m, tl len)) : E 83 0 [some (aA a), some (aI ((s : Nat) : Int)), none, none, none, none] [] (m, tl len) Q := by
  have hn60 := hV.1
  have hab := isR_b hR
  have hs40 := hV.2.2.2.2.1
  have hwn := (hV.2.2.2.2.2.1 s hs).1
  refine E_s (p' := 1) (st' := aA a :: _) rfl rfl ?_
  refine E_gA (b := a + 9) rfl rfl rfl (kR_0 hR) (hR_0_1 hR) rfl ?_
  refine E_gA (b := a + 10) rfl rfl rfl (kR_9 hR) (hR_9_0 hR) rfl ?_
  refine E_s (p' := 8) (st' := aI ((s : Nat) : Int) :: _) rfl rfl ?_
  refine E_ald (e := s) (N := 40) (v := ((Sw R s : Nat) : Int)) rfl (kR_10 hR) (rfl) (by omega) (CR_10 hC (by omega)) ?_
  refine E_s (p' := 10) (L' := [some (aA a), some (aI ((s : Nat) : Int)), some (aI ((Sw R s : Nat) : Int)), none, none, none]) rfl rfl ?_
  refine E_s (p' := 11) (st' := aA a :: _) rfl rfl ?_
  refine E_gA (b := a + 9) rfl rfl rfl (kR_0 hR) (hR_0_1 hR) rfl ?_
  refine E_s (p' := 15) (st' := aI ((s : Nat) : Int) :: _) rfl rfl ?_
  refine E_callV (k' := 84) (a := a + 9) (r := []) (L0 := [some (aA (a + 9)), some (aI ((s : Nat) : Int))]) rfl rfl rfl rfl rfl (kR_9 hR) rfl rfl rfl rfl ?_
  refine c_counts hR hC hV hs (fun hc2 => ?_) (fun hc0 => ?_)
  · refine E_go (p' := 18) (L' := [some (aA a), some (aI ((s : Nat) : Int)), some (aI ((Sw R s : Nat) : Int)), none, none, none]) (st' := [aI 1]) rfl rfl rfl ?_
    refine E_s (p' := 21) rfl rfl ?_
    refine E_s (p' := 22) (st' := aA a :: _) rfl rfl ?_
    refine E_s (p' := 23) (st' := aI ((Sw R s : Nat) : Int) :: _) rfl rfl ?_
    refine E_callV (k' := 74) (a := a) (r := []) (L0 := [some (aA a), some (aI ((Sw R s : Nat) : Int))]) rfl rfl rfl rfl rfl (kR_0 hR) rfl rfl rfl rfl ?_
    refine c_isSound hR hn60 hC hd9 (c := Sw R s) (by omega) (fun hs1 hs2 => ?_) (fun hs0 => ?_)
    · refine E_go (p' := 26) (L' := [some (aA a), some (aI ((s : Nat) : Int)), some (aI ((Sw R s : Nat) : Int)), none, none, none]) (st' := [aI 1]) rfl rfl rfl ?_
      refine E_s (p' := 31) rfl rfl ?_
      refine E_s (p' := 32) (st' := aI 0 :: _) rfl rfl ?_
      refine E_s (p' := 33) (L' := [some (aA a), some (aI ((s : Nat) : Int)), some (aI ((Sw R s : Nat) : Int)), some (aI 0), none, none]) rfl rfl ?_
      refine E_s (p' := 34) (st' := aI 0 :: _) rfl rfl ?_
      refine E_s (p' := 36) (L' := [some (aA a), some (aI ((s : Nat) : Int)), some (aI ((Sw R s : Nat) : Int)), some (aI 0), some (aI 0), none]) rfl rfl ?_
      exact yl_ks hR hC hV hd9 hs hc2 (sdR_t hs1 hs2) (x5 := none) q (Sp R s + 1) 0 0 none (by omega) (by omega) rfl rfl
    · refine E_go (p' := 26) (L' := [some (aA a), some (aI ((s : Nat) : Int)), some (aI ((Sw R s : Nat) : Int)), none, none, none]) (st' := [aI 0]) rfl rfl rfl ?_
      refine E_s (p' := 29) rfl rfl ?_
      refine E_s (p' := 30) (st' := aI (-1) :: _) rfl rfl ?_
      refine E_ret rfl rfl ?_
      rw [show kps R s = -1 by unfold kps; rw [cif_neg (by first | (intro g9; omega) | (intro g9; rw [sdR_f hs0] at g9; exact absurd g9.2.1 (by decide)))]] at q
      exact q
  · refine E_go (p' := 18) (L' := [some (aA a), some (aI ((s : Nat) : Int)), some (aI ((Sw R s : Nat) : Int)), none, none, none]) (st' := [aI 0]) rfl rfl rfl ?_
    refine E_s (p' := 29) rfl rfl ?_
    refine E_s (p' := 30) (st' := aI (-1) :: _) rfl rfl ?_
    refine E_ret rfl rfl ?_
    rw [show kps R s = -1 by unfold kps; rw [cif_neg (by first | (intro g9; omega) | (intro g9; rw [sdR_f hs0] at g9; exact absurd g9.2.1 (by decide)))]] at q
    exact q
end
section
variable {len : Nat} {m : Mm} {Q : Option AV → Sx → Prop} {S : Nat → RD} {r c k l s w g : Int}
theorem C_under (hS : CS S m) (q : ∀ m1, CS S m1 → Mo m m1 → Q (some (aI (qy S r (-1) (aUnder c)))) (m1, tl len)) : E 73 0 [some (aA 1), some (aI (r)), some (aI (c)), none, none, none] [] (m, tl len) Q := by
  refine E_s (p' := 1) (st' := aA 1 :: _) rfl rfl ?_
  refine E_s (p' := 2) (st' := aI (r) :: _) rfl rfl ?_
  refine E_callV (k' := 34) (a := 1) (r := []) (L0 := [some (aA 1), some (aI (r)), none]) rfl rfl rfl rfl rfl rfl rfl rfl rfl rfl ?_
  refine c_readOf hS (fun i a m1 hi hr ha hR hS1 hCS hd hMo => ?_) (fun hr => ?_)
  · refine E_go (p' := 5) (L' := [some (aA 1), some (aI (r)), some (aI (c)), none, none, none]) (st' := [aA a]) rfl rfl rfl ?_
    obtain ⟨hV, hC, -⟩ := hCS
    have hn60 := hV.1
    have hab := isR_b hR
    have hs40 := hV.2.2.2.2.1
    refine E_s (p' := 6) (L' := [some (aA 1), some (aI (r)), some (aI (c)), some (aA a), none, none]) rfl rfl ?_
    refine E_s (p' := 7) (st' := aA a :: _) rfl rfl ?_
    refine E_s (p' := 10) rfl rfl ?_
    refine E_s (p' := 11) (st' := aA a :: _) rfl rfl ?_
    refine E_gA (b := a + 1) rfl rfl rfl (kR_0 hR) (hR_0_0 hR) rfl ?_
    refine E_s (p' := 15) (st' := aI (c) :: _) rfl rfl ?_
    refine E_callV (k' := 17) (a := a + 1) (r := []) (L0 := [some (aA (a + 1)), some (aI (c))]) rfl rfl rfl rfl rfl (kR_1 hR) rfl rfl rfl rfl ?_
    refine c_has hR hC (fun ci he_ci hc_ci => ?_) (fun hno => ?_)
    · refine E_go (p' := 18) (L' := [some (aA 1), some (aI (r)), some (aI (c)), some (aA a), none, none]) (st' := [aI 1]) rfl rfl rfl ?_
      subst he_ci
      refine E_s (p' := 23) rfl rfl ?_
      refine E_s (p' := 24) (st' := aI 0 :: _) rfl rfl ?_
      refine E_s (p' := 26) (L' := [some (aA 1), some (aI (r)), some (aI ((ci : Nat) : Int)), some (aA a), some (aI 0), none]) rfl rfl ?_
      refine E_s (p' := 27) (st' := aI ((ci : Nat) : Int) :: _) rfl rfl ?_
      refine E_s (p' := 28) (st' := aI 1 :: _) rfl rfl ?_
      refine E_add (v := ((ci + 1 : Nat) : Int)) rfl (by omega) (by omega) ?_
      refine E_s (p' := 31) (L' := [some (aA 1), some (aI (r)), some (aI ((ci : Nat) : Int)), some (aA a), some (aI 0), some (aI ((ci + 1 : Nat) : Int))]) rfl rfl ?_
      have hz : ∀ d, d < ci + 1 → decide (Co (S i) d = (ci : Int)) = false := fun d hd9 => decide_eq_false (by have := (hV.2.2.1 d (by omega)).2.1; omega)
      exact yl_under hR hC hV hd hc_ci (fun g9 => fq_in hS1 hi hr q (by unfold aUnder; rw [cif_pos ⟨by unfold inC; omega, g9⟩]) hMo) (fun g9 => fq_in hS1 hi hr q (by unfold aUnder; rw [cif_neg (fun h9 => g9 h9.2)]) hMo) (Cn (S i) + 1) (ci + 1) 0 (by omega) (by omega) (by unfold unS; rw [sumN_z (fun d hd9 => by show (bif decide (Co (S i) d = (ci : Int)) then Rvl (S i) d else 0) = 0; rw [hz d hd9]; rfl)]) (cntN_z (fun d hd9 => by show (decide (Co (S i) d = (ci : Int)) && !sdR (S i) d) = false; rw [hz d hd9]; rfl))
    · refine E_go (p' := 18) (L' := [some (aA 1), some (aI (r)), some (aI (c)), some (aA a), none, none]) (st' := [aI 0]) rfl rfl rfl ?_
      refine E_s (p' := 21) rfl rfl ?_
      refine E_s (p' := 22) (st' := aI (-1) :: _) rfl rfl ?_
      refine E_ret rfl rfl ?_
      exact fq_in hS1 hi hr q (by unfold aUnder; rw [cif_neg (by unfold inC; omega)]) hMo
  · refine E_go (p' := 5) (L' := [some (aA 1), some (aI (r)), some (aI (c)), none, none, none]) (st' := [aN]) rfl rfl rfl ?_
    refine E_s (p' := 6) (L' := [some (aA 1), some (aI (r)), some (aI (c)), some (aN), none, none]) rfl rfl ?_
    refine E_s (p' := 7) (st' := aN :: _) rfl rfl ?_
    refine E_s (p' := 21) rfl rfl ?_
    refine E_s (p' := 22) (st' := aI (-1) :: _) rfl rfl ?_
    refine E_ret rfl rfl ?_
    exact fq_out hS q hr
theorem C_sumAt (hw9 : w ≤ 2147483647) (hS : CS S m) (q : ∀ m1, CS S m1 → Mo m m1 → Q (some (aI (qy S r (-1) (aSumAt s w)))) (m1, tl len)) : E 82 0 [some (aA 1), some (aI (r)), some (aI (s)), some (aI (w)), none, none] [] (m, tl len) Q := by
  refine E_s (p' := 1) (st' := aA 1 :: _) rfl rfl ?_
  refine E_s (p' := 2) (st' := aI (r) :: _) rfl rfl ?_
  refine E_callV (k' := 34) (a := 1) (r := []) (L0 := [some (aA 1), some (aI (r)), none]) rfl rfl rfl rfl rfl rfl rfl rfl rfl rfl ?_
  refine c_readOf hS (fun i a m1 hi hr ha hR hS1 hCS hd hMo => ?_) (fun hr => ?_)
  · refine E_go (p' := 5) (L' := [some (aA 1), some (aI (r)), some (aI (s)), some (aI (w)), none, none]) (st' := [aA a]) rfl rfl rfl ?_
    obtain ⟨hV, hC, -⟩ := hCS
    have hn60 := hV.1
    have hab := isR_b hR
    have hs40 := hV.2.2.2.2.1
    refine E_s (p' := 7) (L' := [some (aA 1), some (aI (r)), some (aI (s)), some (aI (w)), some (aA a), none]) rfl rfl ?_
    refine E_s (p' := 9) (st' := aA a :: _) rfl rfl ?_
    refine E_s (p' := 12) rfl rfl ?_
    refine E_s (p' := 13) (st' := aI (s) :: _) rfl rfl ?_
    refine E_if_lt (x := (s)) rfl (by decide) (fun h_1 => ?_) (fun h_1 => ?_)
    · refine E_go (p' := 28) (L' := [some (aA 1), some (aI (r)), some (aI (s)), some (aI (w)), some (aA a), none]) (st' := []) rfl rfl rfl ?_
      refine E_s (p' := 29) (st' := aI (-1) :: _) rfl rfl ?_
      refine E_ret rfl rfl ?_
      exact fq_in hS1 hi hr q (by unfold aSumAt; rw [cif_neg (by omega)]) hMo
    · refine E_go (p' := 16) (L' := [some (aA 1), some (aI (r)), some (aI (s)), some (aI (w)), some (aA a), none]) (st' := []) rfl rfl rfl ?_
      refine E_s (p' := 17) (st' := aI (s) :: _) rfl rfl ?_
      refine E_s (p' := 19) (st' := aA a :: _) rfl rfl ?_
      refine E_gA (b := a + 9) rfl rfl rfl (kR_0 hR) (hR_0_1 hR) rfl ?_
      refine E_gI (v := ((Sn (S i) : Nat) : Int)) rfl rfl rfl (kR_9 hR) (CRS hC) ?_
      refine E_icmp_lt (x := (s)) (y := ((Sn (S i) : Nat) : Int)) rfl (by decide) (fun h_2 => ?_) (fun h_2 => ?_)
      · refine E_go (p' := 30) (L' := [some (aA 1), some (aI (r)), some (aI (s)), some (aI (w)), some (aA a), none]) (st' := []) rfl rfl rfl ?_
        obtain ⟨sn, es⟩ : ∃ x : Nat, s = (x : Int) := ⟨s.toNat, by omega⟩
        subst es
        have hp12 := (hV.2.2.2.2.2.1 sn (by omega)).2
        refine E_s (p' := 31) (st' := aI (w) :: _) rfl rfl ?_
        refine E_s (p' := 33) (st' := aI 10 :: _) rfl rfl ?_
        refine E_icmp_lt (x := (w)) (y := 10) rfl (by decide) (fun h_3 => ?_) (fun h_3 => ?_)
        · refine E_go (p' := 73) (L' := [some (aA 1), some (aI (r)), some (aI ((sn : Nat) : Int)), some (aI (w)), some (aA a), none]) (st' := []) rfl rfl rfl ?_
          refine E_s (p' := 74) (st' := aI (w) :: _) rfl rfl ?_
          rcases (show (w) = 0 ∨ (w) = 1 ∨ (w) = 2 ∨ ((w) ≠ 0 ∧ (w) ≠ 1 ∧ (w) ≠ 2) by omega) with h_4 | h_5 | h_6 | h_7
          · refine E_valv h_4 ?_
            refine E_s (p' := 100) rfl rfl ?_
            refine E_s (p' := 102) (st' := aA a :: _) rfl rfl ?_
            refine E_gA (b := a + 9) rfl rfl rfl (kR_0 hR) (hR_0_1 hR) rfl ?_
            refine E_gA (b := a + 10) rfl rfl rfl (kR_9 hR) (hR_9_0 hR) rfl ?_
            refine E_s (p' := 109) (st' := aI ((sn : Nat) : Int) :: _) rfl rfl ?_
            refine E_ald (e := sn) (N := 40) (v := ((Sw (S i) sn : Nat) : Int)) rfl (kR_10 hR) (rfl) (by omega) (CR_10 hC (by omega)) ?_
            refine E_ret rfl rfl ?_
            exact fq_in hS1 hi hr q (by unfold aSumAt; (try simp only [Int.toNat_natCast]); rw [cif_pos (by omega), if_pos (by omega)]) hMo
          · refine E_valv h_5 ?_
            refine E_s (p' := 111) rfl rfl ?_
            refine E_s (p' := 113) (st' := aA a :: _) rfl rfl ?_
            refine E_gA (b := a + 9) rfl rfl rfl (kR_0 hR) (hR_0_1 hR) rfl ?_
            refine E_gA (b := a + 11) rfl rfl rfl (kR_9 hR) (hR_9_1 hR) rfl ?_
            refine E_s (p' := 120) (st' := aI ((sn : Nat) : Int) :: _) rfl rfl ?_
            refine E_ald (e := sn) (N := 40) (v := ((Sp (S i) sn : Nat) : Int)) rfl (kR_11 hR) (rfl) (by omega) (CR_11 hC (by omega)) ?_
            refine E_ret rfl rfl ?_
            exact fq_in hS1 hi hr q (by unfold aSumAt; (try simp only [Int.toNat_natCast]); rw [cif_pos (by omega), if_neg (by omega), if_pos (by omega)]) hMo
          · refine E_valv h_6 ?_
            refine E_s (p' := 122) rfl rfl ?_
            refine E_s (p' := 124) (st' := aA a :: _) rfl rfl ?_
            refine E_s (p' := 125) (st' := aI ((sn : Nat) : Int) :: _) rfl rfl ?_
            refine E_callV (k' := 83) (a := a) (r := []) (L0 := [some (aA a), some (aI ((sn : Nat) : Int)), none, none, none, none]) rfl rfl rfl rfl rfl (kR_0 hR) rfl rfl rfl rfl ?_
            refine c_keepsSum hR hC hV hd (by omega) ?_
            refine E_go (p' := 128) (L' := [some (aA 1), some (aI (r)), some (aI ((sn : Nat) : Int)), some (aI (w)), some (aA a), none]) (st' := [aI ((kps (S i) sn))]) rfl rfl rfl ?_
            refine E_ret rfl rfl ?_
            exact fq_in hS1 hi hr q (by unfold aSumAt; (try simp only [Int.toNat_natCast]); rw [cif_pos (by omega), if_neg (by omega), if_neg (by omega), if_pos (by omega)]) hMo
          · refine E_tabO rfl (by omega) (by decide) ?_
            refine E_go (p' := 129) (L' := [some (aA 1), some (aI (r)), some (aI ((sn : Nat) : Int)), some (aI (w)), some (aA a), none]) (st' := []) rfl rfl rfl ?_
            refine E_s (p' := 130) (st' := aI (-1) :: _) rfl rfl ?_
            refine E_ret rfl rfl ?_
            exact fq_in hS1 hi hr q (by unfold aSumAt; (try simp only [Int.toNat_natCast]); rw [cif_pos (by omega), if_neg (by omega), if_neg (by omega), if_neg (by omega), cif_neg (by omega)]) hMo
        · refine E_go (p' := 36) (L' := [some (aA 1), some (aI (r)), some (aI ((sn : Nat) : Int)), some (aI (w)), some (aA a), none]) (st' := []) rfl rfl rfl ?_
          refine E_s (p' := 37) (st' := aI (w) :: _) rfl rfl ?_
          refine E_s (p' := 39) (st' := aI 10 :: _) rfl rfl ?_
          refine E_sub (v := (w - 10)) rfl (by omega) (by omega) ?_
          refine E_s (p' := 42) (L' := [some (aA 1), some (aI (r)), some (aI ((sn : Nat) : Int)), some (aI (w)), some (aA a), some (aI (w - 10))]) rfl rfl ?_
          refine E_s (p' := 44) (st' := aI (w - 10) :: _) rfl rfl ?_
          refine E_s (p' := 46) (st' := aA a :: _) rfl rfl ?_
          refine E_gA (b := a + 9) rfl rfl rfl (kR_0 hR) (hR_0_1 hR) rfl ?_
          refine E_gA (b := a + 11) rfl rfl rfl (kR_9 hR) (hR_9_1 hR) rfl ?_
          refine E_s (p' := 53) (st' := aI ((sn : Nat) : Int) :: _) rfl rfl ?_
          refine E_ald (e := sn) (N := 40) (v := ((Sp (S i) sn : Nat) : Int)) rfl (kR_11 hR) (rfl) (by omega) (CR_11 hC (by omega)) ?_
          refine E_icmp_ge (x := (w - 10)) (y := ((Sp (S i) sn : Nat) : Int)) rfl (by decide) (fun h_8 => ?_) (fun h_8 => ?_)
          · refine E_go (p' := 71) (L' := [some (aA 1), some (aI (r)), some (aI ((sn : Nat) : Int)), some (aI (w)), some (aA a), some (aI (w - 10))]) (st' := []) rfl rfl rfl ?_
            refine E_s (p' := 72) (st' := aI (-1) :: _) rfl rfl ?_
            refine E_ret rfl rfl ?_
            exact fq_in hS1 hi hr q (by unfold aSumAt; (try simp only [Int.toNat_natCast]); rw [cif_pos (by omega), if_neg (by omega), if_neg (by omega), if_neg (by omega), cif_neg (by omega)]) hMo
          · refine E_go (p' := 57) (L' := [some (aA 1), some (aI (r)), some (aI ((sn : Nat) : Int)), some (aI (w)), some (aA a), some (aI (w - 10))]) (st' := []) rfl rfl rfl ?_
            obtain ⟨pn, ep⟩ : ∃ x : Nat, w = (x : Int) + 10 := ⟨(w - 10).toNat, by omega⟩
            rw [show (w - 10) = ((pn : Nat) : Int) by omega]
            refine E_s (p' := 59) (st' := aA a :: _) rfl rfl ?_
            refine E_gA (b := a + 9) rfl rfl rfl (kR_0 hR) (hR_0_1 hR) rfl ?_
            refine E_s (p' := 63) (st' := aI ((sn : Nat) : Int) :: _) rfl rfl ?_
            refine E_s (p' := 65) (st' := aI ((pn : Nat) : Int) :: _) rfl rfl ?_
            refine E_callV (k' := 79) (a := a + 9) (r := []) (L0 := [some (aA (a + 9)), some (aI ((sn : Nat) : Int)), some (aI ((pn : Nat) : Int))]) rfl rfl rfl rfl rfl (kR_9 hR) rfl rfl rfl rfl ?_
            refine c_partOf hR hC hV (s := sn) (p := pn) (by omega) (by omega) ?_
            refine E_go (p' := 68) (L' := [some (aA 1), some (aI (r)), some (aI ((sn : Nat) : Int)), some (aI (w)), some (aA a), some (aI ((pn : Nat) : Int))]) (st' := [aI ((Sq (S i) sn pn : Nat) : Int)]) rfl rfl rfl ?_
            refine E_s (p' := 72) rfl rfl ?_
            refine E_ret rfl rfl ?_
            exact fq_in hS1 hi hr q (by unfold aSumAt; (try simp only [Int.toNat_natCast]); rw [cif_pos (by omega), if_neg (by omega), if_neg (by omega), if_neg (by omega), cif_pos (by omega), show (w - 10).toNat = pn by omega]) hMo
      · refine E_go (p' := 28) (L' := [some (aA 1), some (aI (r)), some (aI (s)), some (aI (w)), some (aA a), none]) (st' := []) rfl rfl rfl ?_
        refine E_s (p' := 29) (st' := aI (-1) :: _) rfl rfl ?_
        refine E_ret rfl rfl ?_
        exact fq_in hS1 hi hr q (by unfold aSumAt; rw [cif_neg (by omega)]) hMo
  · refine E_go (p' := 5) (L' := [some (aA 1), some (aI (r)), some (aI (s)), some (aI (w)), none, none]) (st' := [aN]) rfl rfl rfl ?_
    refine E_s (p' := 7) (L' := [some (aA 1), some (aI (r)), some (aI (s)), some (aI (w)), some (aN), none]) rfl rfl ?_
    refine E_s (p' := 9) (st' := aN :: _) rfl rfl ?_
    refine E_s (p' := 28) rfl rfl ?_
    refine E_s (p' := 29) (st' := aI (-1) :: _) rfl rfl ?_
    refine E_ret rfl rfl ?_
    exact fq_out hS q hr
theorem C_span (hS : CS S m) (q : ∀ v : Int, Q (some (aI v)) (m, tl len)) : E 95 0 [some (aA 1), some (aI (r)), some (aI (c)), some (aI (w)), none] [] (m, tl len) Q := by
  refine E_s (p' := 1) (st' := aA 1 :: _) rfl rfl ?_
  refine E_s (p' := 2) (st' := aI (r) :: _) rfl rfl ?_
  refine E_callV (k' := 12) (a := 1) (r := []) (L0 := [some (aA 1), some (aI (r))]) rfl rfl rfl rfl rfl rfl rfl rfl rfl rfl ?_
  refine c_recordOf' (fun i a hi hr ha hR => ?_) (fun hr => ?_)
  · refine E_go (p' := 5) (L' := [some (aA 1), some (aI (r)), some (aI (c)), some (aI (w)), none]) (st' := [aA a]) rfl rfl rfl ?_
    obtain ⟨hV, hC, hrd⟩ := hS i hi
    rw [← ha] at hC hrd
    have hn60 := hV.1
    have hab := isR_b hR
    have hs40 := hV.2.2.2.2.1
    have hS1 := hS
    have hMo : Mo m m := Mo.rf
    refine E_s (p' := 7) (L' := [some (aA 1), some (aI (r)), some (aI (c)), some (aI (w)), some (aA a)]) rfl rfl ?_
    refine E_s (p' := 9) (st' := aA a :: _) rfl rfl ?_
    refine E_s (p' := 12) rfl rfl ?_
    refine E_s (p' := 14) (st' := aA a :: _) rfl rfl ?_
    refine E_gA (b := a + 1) rfl rfl rfl (kR_0 hR) (hR_0_0 hR) rfl ?_
    refine E_s (p' := 18) (st' := aI (c) :: _) rfl rfl ?_
    refine E_callV (k' := 17) (a := a + 1) (r := []) (L0 := [some (aA (a + 1)), some (aI (c))]) rfl rfl rfl rfl rfl (kR_1 hR) rfl rfl rfl rfl ?_
    refine c_has hR hC (fun ci he_ci hc_ci => ?_) (fun hno => ?_)
    · refine E_go (p' := 21) (L' := [some (aA 1), some (aI (r)), some (aI (c)), some (aI (w)), some (aA a)]) (st' := [aI 1]) rfl rfl rfl ?_
      subst he_ci
      refine E_s (p' := 24) rfl rfl ?_
      refine E_s (p' := 26) (st' := aA a :: _) rfl rfl ?_
      refine E_gI (v := ((m a 6))) rfl rfl rfl (kR_0 hR) rfl ?_
      refine E_if_ne (x := ((m a 6))) rfl (by decide) (fun h_1 => ?_) (fun h_1 => ?_)
      · refine E_go (p' := 34) (L' := [some (aA 1), some (aI (r)), some (aI ((ci : Nat) : Int)), some (aI (w)), some (aA a)]) (st' := []) rfl rfl rfl ?_
        refine E_s (p' := 35) (st' := aI (w) :: _) rfl rfl ?_
        rcases (show (w) = 0 ∨ (w) = 1 ∨ ((w) ≠ 0 ∧ (w) ≠ 1) by omega) with h_2 | h_3 | h_4
        · refine E_valv h_2 ?_
          refine E_s (p' := 60) rfl rfl ?_
          refine E_s (p' := 62) (st' := aA a :: _) rfl rfl ?_
          refine E_gA (b := a + 13) rfl rfl rfl (kR_0 hR) (hR_0_2 hR) rfl ?_
          refine E_s (p' := 66) (st' := aI ((ci : Nat) : Int) :: _) rfl rfl ?_
          refine E_ald (e := ci) (N := 60) (v := ((m (a + 13) ci))) rfl (kR_13 hR) (rfl) (by omega) rfl ?_
          refine E_ret rfl rfl ?_
          exact q _
        · refine E_valv h_3 ?_
          refine E_s (p' := 68) rfl rfl ?_
          refine E_s (p' := 70) (st' := aA a :: _) rfl rfl ?_
          refine E_gA (b := a + 14) rfl rfl rfl (kR_0 hR) (hR_0_3 hR) rfl ?_
          refine E_s (p' := 74) (st' := aI ((ci : Nat) : Int) :: _) rfl rfl ?_
          refine E_ald (e := ci) (N := 60) (v := ((m (a + 14) ci))) rfl (kR_14 hR) (rfl) (by omega) rfl ?_
          refine E_ret rfl rfl ?_
          exact q _
        · refine E_lkO rfl rfl (by show (if (0 : Int) = (w) then _ else if (1 : Int) = (w) then _ else _) = _; rw [if_neg (by omega), if_neg (by omega)]; rfl) (by decide) ?_
          refine E_go (p' := 76) (L' := [some (aA 1), some (aI (r)), some (aI ((ci : Nat) : Int)), some (aI (w)), some (aA a)]) (st' := []) rfl rfl rfl ?_
          refine E_s (p' := 77) (st' := aI (-1) :: _) rfl rfl ?_
          refine E_ret rfl rfl ?_
          exact q _
      · refine E_go (p' := 32) (L' := [some (aA 1), some (aI (r)), some (aI ((ci : Nat) : Int)), some (aI (w)), some (aA a)]) (st' := []) rfl rfl rfl ?_
        refine E_s (p' := 33) (st' := aI (-1) :: _) rfl rfl ?_
        refine E_ret rfl rfl ?_
        exact q _
    · refine E_go (p' := 21) (L' := [some (aA 1), some (aI (r)), some (aI (c)), some (aI (w)), some (aA a)]) (st' := [aI 0]) rfl rfl rfl ?_
      refine E_s (p' := 32) rfl rfl ?_
      refine E_s (p' := 33) (st' := aI (-1) :: _) rfl rfl ?_
      refine E_ret rfl rfl ?_
      exact q _
  · refine E_go (p' := 5) (L' := [some (aA 1), some (aI (r)), some (aI (c)), some (aI (w)), none]) (st' := [aN]) rfl rfl rfl ?_
    refine E_s (p' := 7) (L' := [some (aA 1), some (aI (r)), some (aI (c)), some (aI (w)), some (aN)]) rfl rfl ?_
    refine E_s (p' := 9) (st' := aN :: _) rfl rfl ?_
    refine E_s (p' := 32) rfl rfl ?_
    refine E_s (p' := 33) (st' := aI (-1) :: _) rfl rfl ?_
    refine E_ret rfl rfl ?_
    exact q _
theorem C_grouping {n : Nat} (hn : n ≤ 300) (h10 : m 10 2 = (n : Int)) (q : ∀ v : Int, Q (some (aI v)) (m, tl len)) : E 115 0 [some (aA 1), some (aI (k)), some (aI (w))] [] (m, tl len) Q := by
  refine E_s (p' := 1) (st' := aI (k) :: _) rfl rfl ?_
  refine E_if_lt (x := (k)) rfl (by decide) (fun h_1 => ?_) (fun h_1 => ?_)
  · refine E_go (p' := 15) (L' := [some (aA 1), some (aI (k)), some (aI (w))]) (st' := []) rfl rfl rfl ?_
    refine E_s (p' := 16) (st' := aI (-1) :: _) rfl rfl ?_
    refine E_ret rfl rfl ?_
    exact q _
  · refine E_go (p' := 4) (L' := [some (aA 1), some (aI (k)), some (aI (w))]) (st' := []) rfl rfl rfl ?_
    refine E_s (p' := 5) (st' := aI (k) :: _) rfl rfl ?_
    refine E_s (p' := 6) (st' := aA 1 :: _) rfl rfl ?_
    refine E_gA (b := 10) rfl rfl rfl rfl rfl rfl ?_
    refine E_gI (v := ((n : Nat) : Int)) rfl rfl rfl rfl h10 ?_
    refine E_icmp_lt (x := (k)) (y := ((n : Nat) : Int)) rfl (by decide) (fun h_2 => ?_) (fun h_2 => ?_)
    · refine E_go (p' := 17) (L' := [some (aA 1), some (aI (k)), some (aI (w))]) (st' := []) rfl rfl rfl ?_
      refine E_s (p' := 18) (st' := aI (w) :: _) rfl rfl ?_
      rcases (show (w) = 0 ∨ (w) = 1 ∨ ((w) ≠ 0 ∧ (w) ≠ 1) by omega) with h_3 | h_4 | h_5
      · refine E_valv h_3 ?_
        refine E_s (p' := 44) rfl rfl ?_
        refine E_s (p' := 45) (st' := aA 1 :: _) rfl rfl ?_
        refine E_gA (b := 10) rfl rfl rfl rfl rfl rfl ?_
        refine E_gA (b := 11) rfl rfl rfl rfl rfl rfl ?_
        refine E_s (p' := 52) (st' := aI (k) :: _) rfl rfl ?_
        refine E_ald (e := (k).toNat) (N := 300) (v := ((m 11 (k).toNat))) rfl rfl (by omega) (by omega) rfl ?_
        refine E_ret rfl rfl ?_
        exact q _
      · refine E_valv h_4 ?_
        refine E_s (p' := 54) rfl rfl ?_
        refine E_s (p' := 55) (st' := aA 1 :: _) rfl rfl ?_
        refine E_gA (b := 10) rfl rfl rfl rfl rfl rfl ?_
        refine E_gA (b := 12) rfl rfl rfl rfl rfl rfl ?_
        refine E_s (p' := 62) (st' := aI (k) :: _) rfl rfl ?_
        refine E_ald (e := (k).toNat) (N := 300) (v := ((m 12 (k).toNat))) rfl rfl (by omega) (by omega) rfl ?_
        refine E_ret rfl rfl ?_
        exact q _
      · refine E_lkO rfl rfl (by show (if (0 : Int) = (w) then _ else if (1 : Int) = (w) then _ else _) = _; rw [if_neg (by omega), if_neg (by omega)]; rfl) (by decide) ?_
        refine E_go (p' := 64) (L' := [some (aA 1), some (aI (k)), some (aI (w))]) (st' := []) rfl rfl rfl ?_
        refine E_s (p' := 65) (st' := aI (-1) :: _) rfl rfl ?_
        refine E_ret rfl rfl ?_
        exact q _
    · refine E_go (p' := 15) (L' := [some (aA 1), some (aI (k)), some (aI (w))]) (st' := []) rfl rfl rfl ?_
      refine E_s (p' := 16) (st' := aI (-1) :: _) rfl rfl ?_
      refine E_ret rfl rfl ?_
      exact q _
theorem c_cordAt (q : ∀ v : Int, Q (some (aI v)) (m, tl len)) : E 105 0 [some (aA 8), some (aI (k))] [] (m, tl len) Q := by
  refine E_s (p' := 1) (st' := aI (k) :: _) rfl rfl ?_
  refine E_if_lt (x := (k)) rfl (by decide) (fun h_1 => ?_) (fun h_1 => ?_)
  · refine E_go (p' := 12) (L' := [some (aA 8), some (aI (k))]) (st' := []) rfl rfl rfl ?_
    refine E_s (p' := 13) (st' := aI (-1) :: _) rfl rfl ?_
    refine E_ret rfl rfl ?_
    exact q _
  · refine E_go (p' := 4) (L' := [some (aA 8), some (aI (k))]) (st' := []) rfl rfl rfl ?_
    refine E_s (p' := 5) (st' := aI (k) :: _) rfl rfl ?_
    refine E_s (p' := 6) (st' := aA 8 :: _) rfl rfl ?_
    refine E_gI (v := ((m 8 1))) rfl rfl rfl rfl rfl ?_
    refine E_icmp_lt (x := (k)) (y := ((m 8 1))) rfl (by decide) (fun h_2 => ?_) (fun h_2 => ?_)
    · refine E_go (p' := 14) (L' := [some (aA 8), some (aI (k))]) (st' := []) rfl rfl rfl ?_
      refine E_s (p' := 15) (st' := aI (k) :: _) rfl rfl ?_
      refine E_if_ne (x := (k)) rfl (by decide) (fun h_3 => ?_) (fun h_3 => ?_)
      · refine E_go (p' := 25) (L' := [some (aA 8), some (aI (k))]) (st' := []) rfl rfl rfl ?_
        refine E_s (p' := 26) (st' := aA 8 :: _) rfl rfl ?_
        refine E_gI (v := ((m 8 3))) rfl rfl rfl rfl rfl ?_
        refine E_ret rfl rfl ?_
        exact q _
      · refine E_go (p' := 18) (L' := [some (aA 8), some (aI (k))]) (st' := []) rfl rfl rfl ?_
        refine E_s (p' := 19) (st' := aA 8 :: _) rfl rfl ?_
        refine E_gI (v := ((m 8 2))) rfl rfl rfl rfl rfl ?_
        refine E_s (p' := 29) rfl rfl ?_
        refine E_ret rfl rfl ?_
        exact q _
    · refine E_go (p' := 12) (L' := [some (aA 8), some (aI (k))]) (st' := []) rfl rfl rfl ?_
      refine E_s (p' := 13) (st' := aI (-1) :: _) rfl rfl ?_
      refine E_ret rfl rfl ?_
      exact q _
theorem C_cured (q : ∀ v : Int, Q (some (aI v)) (m, tl len)) : E 104 0 [some (aA 1), some (aI (k))] [] (m, tl len) Q := by
  refine E_s (p' := 1) (st' := aA 1 :: _) rfl rfl ?_
  refine E_gA (b := 8) rfl rfl rfl rfl rfl rfl ?_
  refine E_s (p' := 5) (st' := aI (k) :: _) rfl rfl ?_
  refine E_callV (k' := 105) (a := 8) (r := []) (L0 := [some (aA 8), some (aI (k))]) rfl rfl rfl rfl rfl rfl rfl rfl rfl rfl ?_
  refine c_cordAt (fun v9 => ?_)
  refine E_go (p' := 8) (L' := [some (aA 1), some (aI (k))]) (st' := [aI (v9)]) rfl rfl rfl ?_
  refine E_ret rfl rfl ?_
  exact q _
end
section
variable {len : Nat} {m0 : Mm} {Q : Option AV → Sx → Prop} {R : RD} {a : Nat} {g : Int}
theorem yl_cg (hR : isR a) (hC : CR R a m0) (hV : VR R) (q : ∀ m1 : Mm, Fx 19 19 m0 m1 → (∀ i, i < glen R g → m1 19 i = (gcol R g i : Int)) → Q (some (aI (glen R g : Int))) (m1, tl len)) : ∀ (d : Nat) (c n : Nat) (m : Mm), (Cn R < c + d) → (c ≤ Cn R) → (n = (gmem R g c).length) → (Fx 19 19 m0 m) → (∀ i, i < n → m 19 i = (Cc R ((gmem R g c).getD i 0) : Int)) → E 117 5 [some (aA (a + 1)), some (aI (g)), some (aA 19), some (aI ((n : Nat) : Int)), some (aI ((c : Nat) : Int))] [] (m, tl len) Q := by
  intro d
  induction d with
  | zero => intro c n m hd hc hn I1 I2; omega
  | succ d ih =>
    intro c n m hd hc hn I1 I2
    have hab := isR_b hR
    have hn60 := hV.1
    have hCm : CR R a m := hC.of (fun b j g1 g2 _ => I1 b j (by omega))
    have hgl := gmem_le R g c
    refine E_s (p' := 7) (st' := aI ((c : Nat) : Int) :: _) rfl rfl ?_
    refine E_s (p' := 8) (st' := aA (a + 1) :: _) rfl rfl ?_
    refine E_gI (v := ((Cn R : Nat) : Int)) rfl rfl rfl (kR_1 hR) hCm.1 ?_
    refine E_icmp_ge (x := ((c : Nat) : Int)) (y := ((Cn R : Nat) : Int)) rfl (by decide) (fun h_1 => ?_) (fun h_1 => ?_)
    · refine E_go (p' := 44) (L' := [some (aA (a + 1)), some (aI (g)), some (aA 19), some (aI ((n : Nat) : Int)), some (aI ((c : Nat) : Int))]) (st' := []) rfl rfl rfl ?_
      refine E_s (p' := 45) (st' := aI ((n : Nat) : Int) :: _) rfl rfl ?_
      refine E_ret rfl rfl ?_
      have ec : c = Cn R := by omega
      subst ec
      subst hn
      exact q m I1 I2
    · refine E_go (p' := 14) (L' := [some (aA (a + 1)), some (aI (g)), some (aA 19), some (aI ((n : Nat) : Int)), some (aI ((c : Nat) : Int))]) (st' := []) rfl rfl rfl ?_
      refine E_s (p' := 15) (st' := aA (a + 1) :: _) rfl rfl ?_
      refine E_gA (b := a + 2) rfl rfl rfl (kR_1 hR) (hR_1_0 hR) rfl ?_
      refine E_s (p' := 20) (st' := aI ((c : Nat) : Int) :: _) rfl rfl ?_
      refine E_ald (e := c) (N := 60) (v := ((Cg R c))) rfl (kR_2 hR) (rfl) (by omega) (CR_2 hCm (by omega)) ?_
      refine E_s (p' := 22) (st' := aI (g) :: _) rfl rfl ?_
      refine E_icmp_ne (x := ((Cg R c))) (y := (g)) rfl (by decide) (fun h_2 => ?_) (fun h_2 => ?_)
      · refine E_go (p' := 38) (L' := [some (aA (a + 1)), some (aI (g)), some (aA 19), some (aI ((n : Nat) : Int)), some (aI ((c : Nat) : Int))]) (st' := []) rfl rfl rfl ?_
        refine E_inc (x := ((c : Nat) : Int)) (w := ((c + 1 : Nat) : Int)) (L' := [some (aA (a + 1)), some (aI (g)), some (aA 19), some (aI ((n : Nat) : Int)), some (aI ((c + 1 : Nat) : Int))]) rfl rfl rfl (by omega) (by omega) rfl ?_
        refine E_s (p' := 5) rfl rfl ?_
        exact ih (c + 1) n m (by omega) (by omega) (by rw [gmem_f (by omega)]; exact hn) I1 (by rw [gmem_f (by omega)]; exact I2)
      · refine E_go (p' := 25) (L' := [some (aA (a + 1)), some (aI (g)), some (aA 19), some (aI ((n : Nat) : Int)), some (aI ((c : Nat) : Int))]) (st' := []) rfl rfl rfl ?_
        refine E_s (p' := 26) (st' := aA 19 :: _) rfl rfl ?_
        refine E_s (p' := 27) (st' := aI ((n : Nat) : Int) :: _) rfl rfl ?_
        refine E_s (p' := 28) (st' := aA (a + 1) :: _) rfl rfl ?_
        refine E_gA (b := a + 4) rfl rfl rfl (kR_1 hR) (hR_1_2 hR) rfl ?_
        refine E_s (p' := 33) (st' := aI ((c : Nat) : Int) :: _) rfl rfl ?_
        refine E_ald (e := c) (N := 60) (v := ((Cc R c : Nat) : Int)) rfl (kR_4 hR) (rfl) (by omega) (CR_4 hCm (by omega)) ?_
        refine E_ast (e := n) (N := 61) rfl rfl (rfl) (by omega) ?_
        refine E_inc (x := ((n : Nat) : Int)) (w := ((n + 1 : Nat) : Int)) (L' := [some (aA (a + 1)), some (aI (g)), some (aA 19), some (aI ((n + 1 : Nat) : Int)), some (aI ((c : Nat) : Int))]) rfl rfl rfl (by omega) (by omega) rfl ?_
        refine E_inc (x := ((c : Nat) : Int)) (w := ((c + 1 : Nat) : Int)) (L' := [some (aA (a + 1)), some (aI (g)), some (aA 19), some (aI ((n + 1 : Nat) : Int)), some (aI ((c + 1 : Nat) : Int))]) rfl rfl rfl (by omega) (by omega) rfl ?_
        refine E_s (p' := 5) rfl rfl ?_
        refine ih (c + 1) _ _ (by omega) (by omega) (by rw [gmem_t (by omega), List.length_append, hn]; rfl) (I1.up (by omega) (by omega)) (fun i hi => ?_)
        rw [gmem_t (by omega)]
        by_cases g9 : i = n
        · rw [g9, hn, getD_app_r, ← hn]; exact up2_eq
        · rw [getD_app_l (by omega)]; exact (up2_sl g9).trans (I2 i (by omega))
theorem c_cog (hR : isR a) (hC : CR R a m0) (hV : VR R) (q : ∀ m1 : Mm, Fx 19 19 m0 m1 → (∀ i, i < glen R g → m1 19 i = (gcol R g i : Int)) → Q (some (aI (glen R g : Int))) (m1, tl len)) : E 117 0 [some (aA (a + 1)), some (aI (g)), some (aA 19), none, none] [] (m0, tl len) Q := by
  refine E_s (p' := 1) (st' := aI 0 :: _) rfl rfl ?_
  refine E_s (p' := 2) (L' := [some (aA (a + 1)), some (aI (g)), some (aA 19), some (aI 0), none]) rfl rfl ?_
  refine E_s (p' := 3) (st' := aI 0 :: _) rfl rfl ?_
  refine E_s (p' := 5) (L' := [some (aA (a + 1)), some (aI (g)), some (aA 19), some (aI 0), some (aI 0)]) rfl rfl ?_
  exact yl_cg hR hC hV q (Cn R + 1) 0 0 m0 (by omega) (by omega) rfl Fx.rf (fun i hi => absurd hi (by omega))
end
section
variable {len : Nat} {m : Mm} {Q : Option AV → Sx → Prop} {n p : Nat} {f : Nat → Nat}
theorem yl_rep (hn : n ≤ 60) (hp : p ≤ n) (hf : ∀ i, i < n → m 19 i = (f i : Int)) (q1 : (∀ i, p ≤ i → i < n → f i = f (i - p)) → Q (some (aI 1)) (m, tl len)) (q0 : ∀ i, p ≤ i → i < n → f i ≠ f (i - p) → Q (some (aI 0)) (m, tl len)) : ∀ (d : Nat) (i : Nat), (n < i + d) → (p ≤ i ∧ i ≤ n) → (∀ j, p ≤ j → j < i → f j = f (j - p)) → E 118 2 [some (aA 19), some (aI ((n : Nat) : Int)), some (aI ((p : Nat) : Int)), some (aI ((i : Nat) : Int))] [] (m, tl len) Q := by
  intro d
  induction d with
  | zero => intro i hd hi I1; omega
  | succ d ih =>
    intro i hd hi I1
    refine E_s (p' := 3) (st' := aI ((i : Nat) : Int) :: _) rfl rfl ?_
    refine E_s (p' := 4) (st' := aI ((n : Nat) : Int) :: _) rfl rfl ?_
    refine E_icmp_ge (x := ((i : Nat) : Int)) (y := ((n : Nat) : Int)) rfl (by decide) (fun h_1 => ?_) (fun h_1 => ?_)
    · refine E_go (p' := 26) (L' := [some (aA 19), some (aI ((n : Nat) : Int)), some (aI ((p : Nat) : Int)), some (aI ((i : Nat) : Int))]) (st' := []) rfl rfl rfl ?_
      refine E_s (p' := 27) (st' := aI 1 :: _) rfl rfl ?_
      refine E_ret rfl rfl ?_
      exact q1 (fun j h1 h2 => I1 j h1 (by omega))
    · refine E_go (p' := 7) (L' := [some (aA 19), some (aI ((n : Nat) : Int)), some (aI ((p : Nat) : Int)), some (aI ((i : Nat) : Int))]) (st' := []) rfl rfl rfl ?_
      refine E_s (p' := 8) (st' := aA 19 :: _) rfl rfl ?_
      refine E_s (p' := 9) (st' := aI ((i : Nat) : Int) :: _) rfl rfl ?_
      refine E_ald (e := i) (N := 61) (v := ((f i : Nat) : Int)) rfl rfl (rfl) (by omega) (hf _ (by omega)) ?_
      refine E_s (p' := 11) (st' := aA 19 :: _) rfl rfl ?_
      refine E_s (p' := 12) (st' := aI ((i : Nat) : Int) :: _) rfl rfl ?_
      refine E_s (p' := 13) (st' := aI ((p : Nat) : Int) :: _) rfl rfl ?_
      refine E_sub (v := ((i : Int) - (p : Int))) rfl (by omega) (by omega) ?_
      refine E_ald (e := ((i : Int) - (p : Int)).toNat) (N := 61) (v := ((f (i - p) : Nat) : Int)) rfl rfl (by omega) (by omega) (by rw [show ((i : Int) - (p : Int)).toNat = i - p by omega]; exact hf _ (by omega)) ?_
      refine E_icmp_eq (x := ((f i : Nat) : Int)) (y := ((f (i - p) : Nat) : Int)) rfl (by decide) (fun h_2 => ?_) (fun h_2 => ?_)
      · refine E_go (p' := 20) (L' := [some (aA 19), some (aI ((n : Nat) : Int)), some (aI ((p : Nat) : Int)), some (aI ((i : Nat) : Int))]) (st' := []) rfl rfl rfl ?_
        refine E_inc (x := ((i : Nat) : Int)) (w := ((i + 1 : Nat) : Int)) (L' := [some (aA 19), some (aI ((n : Nat) : Int)), some (aI ((p : Nat) : Int)), some (aI ((i + 1 : Nat) : Int))]) rfl rfl rfl (by omega) (by omega) rfl ?_
        refine E_s (p' := 2) rfl rfl ?_
        exact ih (i + 1) (by omega) (by omega) (fun j h1 h2 => by by_cases g9 : j = i; subst g9; omega; exact I1 j h1 (by omega))
      · refine E_go (p' := 18) (L' := [some (aA 19), some (aI ((n : Nat) : Int)), some (aI ((p : Nat) : Int)), some (aI ((i : Nat) : Int))]) (st' := []) rfl rfl rfl ?_
        refine E_s (p' := 19) (st' := aI 0 :: _) rfl rfl ?_
        refine E_ret rfl rfl ?_
        exact q0 i (by omega) (by omega) (by omega)
theorem c_rep (hn : n ≤ 60) (hp : p ≤ n) (hf : ∀ i, i < n → m 19 i = (f i : Int)) (q1 : (∀ i, p ≤ i → i < n → f i = f (i - p)) → Q (some (aI 1)) (m, tl len)) (q0 : ∀ i, p ≤ i → i < n → f i ≠ f (i - p) → Q (some (aI 0)) (m, tl len)) : E 118 0 [some (aA 19), some (aI ((n : Nat) : Int)), some (aI ((p : Nat) : Int)), none] [] (m, tl len) Q := by
  refine E_s (p' := 1) (st' := aI ((p : Nat) : Int) :: _) rfl rfl ?_
  refine E_s (p' := 2) (L' := [some (aA 19), some (aI ((n : Nat) : Int)), some (aI ((p : Nat) : Int)), some (aI ((p : Nat) : Int))]) rfl rfl ?_
  exact yl_rep hn hp hf q1 q0 (n + 1) p (by omega) (by omega) (fun j h1 h2 => absurd h1 (by omega))
end
section
variable {len : Nat} {m : Mm} {Q : Option AV → Sx → Prop} {S : Nat → RD} {r g : Int}
theorem yl_per {a : Nat} {R : RD} {gn : Nat} (hn : glen R (gn : Int) ≤ 60) (hf : ∀ i, i < glen R (gn : Int) → m 19 i = (gcol R (gn : Int) i : Int)) (q1 : ∀ p, 1 ≤ p → p ≤ glen R (gn : Int) → (∀ j, 1 ≤ j → j < p → perB R (gn : Int) j = false) → perB R (gn : Int) p = true → Q (some (aI (p : Int))) (m, tl len)) (q0 : glen R (gn : Int) = 0 → Q (some (aI (-1))) (m, tl len)) : ∀ (d : Nat) (p : Nat), (glen R (gn : Int) + 1 < p + d) → (1 ≤ p ∧ p ≤ glen R (gn : Int) + 1) → (∀ j, 1 ≤ j → j < p → perB R (gn : Int) j = false) → E 116 39 [some (aA 1), some (aI (r)), some (aI ((gn : Nat) : Int)), some (aA a), some (aI ((glen R (gn : Int) : Nat) : Int)), some (aI ((p : Nat) : Int))] [] (m, tl len) Q := by
  intro d
  induction d with
  | zero => intro p hd hp I1; omega
  | succ d ih =>
    intro p hd hp I1
    refine E_s (p' := 41) (st' := aI ((p : Nat) : Int) :: _) rfl rfl ?_
    refine E_s (p' := 43) (st' := aI ((glen R (gn : Int) : Nat) : Int) :: _) rfl rfl ?_
    refine E_icmp_gt (x := ((p : Nat) : Int)) (y := ((glen R (gn : Int) : Nat) : Int)) rfl (by decide) (fun h_1 => ?_) (fun h_1 => ?_)
    · refine E_go (p' := 69) (L' := [some (aA 1), some (aI (r)), some (aI ((gn : Nat) : Int)), some (aA a), some (aI ((glen R (gn : Int) : Nat) : Int)), some (aI ((p : Nat) : Int))]) (st' := []) rfl rfl rfl ?_
      refine E_s (p' := 70) (st' := aI (-1) :: _) rfl rfl ?_
      refine E_ret rfl rfl ?_
      by_cases g9 : glen R (gn : Int) = 0
      · exact q0 g9
      · have := I1 (glen R (gn : Int)) (by omega) (by omega)
        rw [perB_t (fun i h1 h2 => absurd h1 (by omega))] at this
        cases this
    · refine E_go (p' := 46) (L' := [some (aA 1), some (aI (r)), some (aI ((gn : Nat) : Int)), some (aA a), some (aI ((glen R (gn : Int) : Nat) : Int)), some (aI ((p : Nat) : Int))]) (st' := []) rfl rfl rfl ?_
      refine E_s (p' := 47) (st' := aA 1 :: _) rfl rfl ?_
      refine E_gA (b := 19) rfl rfl rfl rfl rfl rfl ?_
      refine E_s (p' := 52) (st' := aI ((glen R (gn : Int) : Nat) : Int) :: _) rfl rfl ?_
      refine E_s (p' := 54) (st' := aI ((p : Nat) : Int) :: _) rfl rfl ?_
      refine E_callL (p' := 57) (L0 := [some (aA 19), some (aI ((glen R (gn : Int) : Nat) : Int)), some (aI ((p : Nat) : Int)), none]) rfl rfl rfl ?_
      refine c_rep hn (by omega) hf (fun hr1 => ?_) (fun i9 hi1 hi2 hi3 => ?_)
      · refine E_go (p' := 57) (L' := [some (aA 1), some (aI (r)), some (aI ((gn : Nat) : Int)), some (aA a), some (aI ((glen R (gn : Int) : Nat) : Int)), some (aI ((p : Nat) : Int))]) (st' := [aI 1]) rfl rfl rfl ?_
        refine E_s (p' := 60) rfl rfl ?_
        refine E_s (p' := 62) (st' := aI ((p : Nat) : Int) :: _) rfl rfl ?_
        refine E_ret rfl rfl ?_
        exact q1 p (by omega) (by omega) I1 (perB_t hr1)
      · refine E_go (p' := 57) (L' := [some (aA 1), some (aI (r)), some (aI ((gn : Nat) : Int)), some (aA a), some (aI ((glen R (gn : Int) : Nat) : Int)), some (aI ((p : Nat) : Int))]) (st' := [aI 0]) rfl rfl rfl ?_
        refine E_s (p' := 63) rfl rfl ?_
        refine E_inc (x := ((p : Nat) : Int)) (w := ((p + 1 : Nat) : Int)) (L' := [some (aA 1), some (aI (r)), some (aI ((gn : Nat) : Int)), some (aA a), some (aI ((glen R (gn : Int) : Nat) : Int)), some (aI ((p + 1 : Nat) : Int))]) rfl rfl rfl (by omega) (by omega) rfl ?_
        refine E_s (p' := 39) rfl rfl ?_
        exact ih (p + 1) (by omega) (by omega) (fun j h1 h2 => by by_cases g9 : j = p; subst g9; exact perB_f hi1 hi2 hi3; exact I1 j h1 (by omega))
theorem C_period (hS : CS S m) (q : ∀ m1, CS S m1 → Mo m m1 → Q (some (aI (qy S r (-1) (aPeriod g)))) (m1, tl len)) : E 116 0 [some (aA 1), some (aI (r)), some (aI (g)), none, none, none] [] (m, tl len) Q := by
  refine E_s (p' := 1) (st' := aA 1 :: _) rfl rfl ?_
  refine E_s (p' := 2) (st' := aI (r) :: _) rfl rfl ?_
  refine E_callV (k' := 12) (a := 1) (r := []) (L0 := [some (aA 1), some (aI (r))]) rfl rfl rfl rfl rfl rfl rfl rfl rfl rfl ?_
  refine c_recordOf' (fun i a hi hr ha hR => ?_) (fun hr => ?_)
  · refine E_go (p' := 5) (L' := [some (aA 1), some (aI (r)), some (aI (g)), none, none, none]) (st' := [aA a]) rfl rfl rfl ?_
    obtain ⟨hV, hC, hrd⟩ := hS i hi
    rw [← ha] at hC hrd
    have hn60 := hV.1
    have hab := isR_b hR
    have hs40 := hV.2.2.2.2.1
    have hS1 := hS
    have hMo : Mo m m := Mo.rf
    refine E_s (p' := 6) (L' := [some (aA 1), some (aI (r)), some (aI (g)), some (aA a), none, none]) rfl rfl ?_
    refine E_s (p' := 7) (st' := aA a :: _) rfl rfl ?_
    refine E_s (p' := 10) rfl rfl ?_
    refine E_s (p' := 11) (st' := aI (g) :: _) rfl rfl ?_
    refine E_if_lt (x := (g)) rfl (by decide) (fun h_1 => ?_) (fun h_1 => ?_)
    · refine E_go (p' := 20) (L' := [some (aA 1), some (aI (r)), some (aI (g)), some (aA a), none, none]) (st' := []) rfl rfl rfl ?_
      refine E_s (p' := 21) (st' := aI (-1) :: _) rfl rfl ?_
      refine E_ret rfl rfl ?_
      exact fq_in hS1 hi hr q (by unfold aPeriod; rw [cif_neg (by omega)]) hMo
    · refine E_go (p' := 14) (L' := [some (aA 1), some (aI (r)), some (aI (g)), some (aA a), none, none]) (st' := []) rfl rfl rfl ?_
      refine E_s (p' := 15) (st' := aI (g) :: _) rfl rfl ?_
      refine E_s (p' := 17) (st' := aI 12 :: _) rfl rfl ?_
      refine E_icmp_lt (x := (g)) (y := 12) rfl (by decide) (fun h_2 => ?_) (fun h_2 => ?_)
      · refine E_go (p' := 22) (L' := [some (aA 1), some (aI (r)), some (aI (g)), some (aA a), none, none]) (st' := []) rfl rfl rfl ?_
        obtain ⟨gn, eg⟩ : ∃ x : Nat, g = (x : Int) := ⟨g.toNat, by omega⟩
        subst eg
        have hgl : glen (S i) (gn : Int) ≤ 60 := Nat.le_trans (gmem_le _ _ _) hn60
        refine E_s (p' := 23) (st' := aA a :: _) rfl rfl ?_
        refine E_gA (b := a + 1) rfl rfl rfl (kR_0 hR) (hR_0_0 hR) rfl ?_
        refine E_s (p' := 27) (st' := aI ((gn : Nat) : Int) :: _) rfl rfl ?_
        refine E_s (p' := 28) (st' := aA 1 :: _) rfl rfl ?_
        refine E_gA (b := 19) rfl rfl rfl rfl rfl rfl ?_
        refine E_callV (k' := 117) (a := a + 1) (r := []) (L0 := [some (aA (a + 1)), some (aI ((gn : Nat) : Int)), some (aA 19), none, none]) rfl rfl rfl rfl rfl (kR_1 hR) rfl rfl rfl rfl ?_
        refine c_cog hR hC hV (fun m1 F1 G1 => ?_)
        refine E_go (p' := 34) (L' := [some (aA 1), some (aI (r)), some (aI ((gn : Nat) : Int)), some (aA a), none, none]) (st' := [aI ((glen (S i) ((gn : Nat) : Int) : Nat) : Int)]) rfl rfl rfl ?_
        have hS1 : CS S m1 := fun k hk => (hS k hk).of (fun b j g1 g2 => F1 b j (by unfold tgA at g1; omega))
        have hMo : Mo m m1 := fun b j hb => F1 b j (by omega)
        refine E_s (p' := 36) (L' := [some (aA 1), some (aI (r)), some (aI ((gn : Nat) : Int)), some (aA a), some (aI ((glen (S i) ((gn : Nat) : Int) : Nat) : Int)), none]) rfl rfl ?_
        refine E_s (p' := 37) (st' := aI 1 :: _) rfl rfl ?_
        refine E_s (p' := 39) (L' := [some (aA 1), some (aI (r)), some (aI ((gn : Nat) : Int)), some (aA a), some (aI ((glen (S i) ((gn : Nat) : Int) : Nat) : Int)), some (aI 1)]) rfl rfl ?_
        exact yl_per hgl G1 (fun p h1 h2 h3 h4 => fq_in hS1 hi hr q (by unfold aPeriod; rw [cif_pos ⟨by omega, by omega⟩, fstP_u h1 (by omega) h3 (fun _ => h4)]) hMo) (fun g9 => fq_in hS1 hi hr q (by unfold aPeriod; rw [cif_neg (fun h9 => h9.2 g9)]) hMo) (glen (S i) (gn : Int) + 2) 1 (by omega) (by omega) (fun j h1 h2 => absurd h1 (by omega))
      · refine E_go (p' := 20) (L' := [some (aA 1), some (aI (r)), some (aI (g)), some (aA a), none, none]) (st' := []) rfl rfl rfl ?_
        refine E_s (p' := 21) (st' := aI (-1) :: _) rfl rfl ?_
        refine E_ret rfl rfl ?_
        exact fq_in hS1 hi hr q (by unfold aPeriod; rw [cif_neg (by omega)]) hMo
  · refine E_go (p' := 5) (L' := [some (aA 1), some (aI (r)), some (aI (g)), none, none, none]) (st' := [aN]) rfl rfl rfl ?_
    refine E_s (p' := 6) (L' := [some (aA 1), some (aI (r)), some (aI (g)), some (aN), none, none]) rfl rfl ?_
    refine E_s (p' := 7) (st' := aN :: _) rfl rfl ?_
    refine E_s (p' := 20) rfl rfl ?_
    refine E_s (p' := 21) (st' := aI (-1) :: _) rfl rfl ?_
    refine E_ret rfl rfl ?_
    exact fq_out hS q hr
end

