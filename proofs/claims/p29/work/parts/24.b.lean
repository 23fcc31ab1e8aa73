section
variable {len : Nat} {m0 : Mm} {Q : Option AV → Sx → Prop} {t l f n N1 N2 : Nat}
theorem yl_tk2 (ht : kd t = (1, N1)) (hl : kd l = (1, N2)) (hf1 : f + n ≤ N1) (hf2 : f + n ≤ N2) (hN : N1 ≤ 100000) (htl : t ≠ l) (q : ∀ (b : Bool) (m1 : Mm), Fx t t m0 m1 → (∀ j, f ≤ j → j < f + n → m1 t j = m0 l j) → (b = false → ∀ j, f ≤ j → j < f + n → m0 t j = m0 l j) → (b = true → ∃ j, f ≤ j ∧ j < f + n ∧ m0 t j ≠ m0 l j) → Q (some (aI (bi b))) (m1, tl len)) : ∀ (d : Nat) (i : Nat) (b : Bool) (m : Mm), (f + n < i + d) → (f ≤ i ∧ i ≤ f + n) → (Fx t t m0 m) → (∀ j, i ≤ j → m t j = m0 t j) → (∀ j, f ≤ j → j < i → m t j = m0 l j) → (b = false → ∀ j, f ≤ j → j < i → m0 t j = m0 l j) → (b = true → ∃ j, f ≤ j ∧ j < i ∧ m0 t j ≠ m0 l j) → E 65 6 [some (aA t), some (aA l), some (aI ((f : Nat) : Int)), some (aI ((n : Nat) : Int)), some (aI (bi b)), some (aI ((i : Nat) : Int))] [] (m, tl len) Q := by
  intro d
  induction d with
  | zero => intro i b m hd hi hF ho hw hb hb2; omega
  | succ d ih =>
    intro i b m hd hi hF ho hw hb hb2
    refine E_s (p' := 8) (st' := aI ((i : Nat) : Int) :: _) rfl rfl ?_
    refine E_s (p' := 9) (st' := aI ((f : Nat) : Int) :: _) rfl rfl ?_
    refine E_s (p' := 10) (st' := aI ((n : Nat) : Int) :: _) rfl rfl ?_
    refine E_add (v := ((f + n : Nat) : Int)) rfl (by omega) (by omega) ?_
    refine E_icmp_ge (x := ((i : Nat) : Int)) (y := ((f + n : Nat) : Int)) rfl (by decide) (fun h_1 => ?_) (fun h_1 => ?_)
    · refine E_go (p' := 49) (L' := [some (aA t), some (aA l), some (aI ((f : Nat) : Int)), some (aI ((n : Nat) : Int)), some (aI (bi b)), some (aI ((i : Nat) : Int))]) (st' := []) rfl rfl rfl ?_
      refine E_s (p' := 51) (st' := aI (bi b) :: _) rfl rfl ?_
      refine E_retB rfl rfl (bi01 _) ?_
      have ei : i = f + n := by omega
      subst ei
      exact q b m hF hw hb hb2
    · refine E_go (p' := 14) (L' := [some (aA t), some (aA l), some (aI ((f : Nat) : Int)), some (aI ((n : Nat) : Int)), some (aI (bi b)), some (aI ((i : Nat) : Int))]) (st' := []) rfl rfl rfl ?_
      have hml : m l i = m0 l i := hF l i (by omega)
      have hmt : m t i = m0 t i := ho i (by omega)
      refine E_s (p' := 16) (st' := aI (bi b) :: _) rfl rfl ?_
      refine E_s (p' := 17) (st' := aA t :: _) rfl rfl ?_
      refine E_s (p' := 19) (st' := aI ((i : Nat) : Int) :: _) rfl rfl ?_
      refine E_ald (e := i) (N := N1) (v := ((m t i))) rfl ht (rfl) (by omega) rfl ?_
      refine E_s (p' := 21) (st' := aA l :: _) rfl rfl ?_
      refine E_s (p' := 23) (st' := aI ((i : Nat) : Int) :: _) rfl rfl ?_
      refine E_ald (e := i) (N := N2) (v := ((m l i))) rfl hl (rfl) (by omega) rfl ?_
      suffices h_2 : E 65 32 [some (aA t), some (aA l), some (aI ((f : Nat) : Int)), some (aI ((n : Nat) : Int)), some (aI (bi b)), some (aI ((i : Nat) : Int))] [aI (bi (!decide (((m t i)) = ((m l i))))), aI (bi b)] (m, tl len) Q by
        refine E_icmp_eq (x := ((m t i))) (y := ((m l i))) rfl (by decide) (fun h_3 => ?_) (fun h_3 => ?_)
        · refine E_go (p' := 31) (L' := [some (aA t), some (aA l), some (aI ((f : Nat) : Int)), some (aI ((n : Nat) : Int)), some (aI (bi b)), some (aI ((i : Nat) : Int))]) (st' := [aI (bi b)]) rfl rfl rfl ?_
          refine E_s (p' := 32) (st' := aI 0 :: _) rfl rfl ?_
          rw [decide_eq_true (p := ((m t i)) = ((m l i))) (by omega)] at h_2
          exact h_2
        · refine E_go (p' := 27) (L' := [some (aA t), some (aA l), some (aI ((f : Nat) : Int)), some (aI ((n : Nat) : Int)), some (aI (bi b)), some (aI ((i : Nat) : Int))]) (st' := [aI (bi b)]) rfl rfl rfl ?_
          refine E_s (p' := 28) (st' := aI 1 :: _) rfl rfl ?_
          refine E_s (p' := 32) rfl rfl ?_
          rw [decide_eq_false (p := ((m t i)) = ((m l i))) (by omega)] at h_2
          exact h_2
      refine E_orb (x := b) (y := (!decide (((m t i)) = ((m l i))))) rfl ?_
      refine E_s (p' := 35) (L' := [some (aA t), some (aA l), some (aI ((f : Nat) : Int)), some (aI ((n : Nat) : Int)), some (aI (bi (b || (!decide (((m t i)) = ((m l i))))))), some (aI ((i : Nat) : Int))]) rfl rfl ?_
      refine E_s (p' := 36) (st' := aA t :: _) rfl rfl ?_
      refine E_s (p' := 38) (st' := aI ((i : Nat) : Int) :: _) rfl rfl ?_
      refine E_s (p' := 39) (st' := aA l :: _) rfl rfl ?_
      refine E_s (p' := 41) (st' := aI ((i : Nat) : Int) :: _) rfl rfl ?_
      refine E_ald (e := i) (N := N2) (v := ((m l i))) rfl hl (rfl) (by omega) rfl ?_
      refine E_ast (e := i) (N := N1) rfl ht (rfl) (by omega) ?_
      refine E_inc (x := ((i : Nat) : Int)) (w := ((i + 1 : Nat) : Int)) (L' := [some (aA t), some (aA l), some (aI ((f : Nat) : Int)), some (aI ((n : Nat) : Int)), some (aI (bi (b || (!decide (((m t i)) = ((m l i))))))), some (aI ((i + 1 : Nat) : Int))]) rfl rfl rfl (by omega) (by omega) rfl ?_
      refine E_s (p' := 6) rfl rfl ?_
      refine ih (i + 1) _ _ (by omega) (by omega) (hF.up (by omega) (by omega)) (fun j hj => (up2_sl (by omega)).trans (ho j (by omega))) (fun j h1 h2 => ?_) (fun hb9 j h1 h2 => ?_) (fun hb9 => ?_)
      · by_cases g : j = i
        · rw [g]; exact up2_eq.trans hml
        · exact (up2_sl g).trans (hw j h1 (by omega))
      · have hb3 := Bool.or_eq_false_iff.mp hb9
        by_cases g : j = i
        · rw [g]
          have he : m t i = m l i := by have := hb3.2; simpa using this
          rw [← hmt, ← hml]; exact he
        · exact hb hb3.1 j h1 (by omega)
      · rcases Bool.or_eq_true_iff.mp hb9 with h9 | h9
        · obtain ⟨j, h1, h2, h3⟩ := hb2 h9
          exact ⟨j, h1, by omega, h3⟩
        · have he : m t i ≠ m l i := by simpa using h9
          exact ⟨i, by omega, by omega, by rw [← hmt, ← hml]; exact he⟩
theorem c_takeRow2 (ht : kd t = (1, N1)) (hl : kd l = (1, N2)) (hf1 : f + n ≤ N1) (hf2 : f + n ≤ N2) (hN : N1 ≤ 100000) (htl : t ≠ l) (q : ∀ (b : Bool) (m1 : Mm), Fx t t m0 m1 → (∀ j, f ≤ j → j < f + n → m1 t j = m0 l j) → (b = false → ∀ j, f ≤ j → j < f + n → m0 t j = m0 l j) → (b = true → ∃ j, f ≤ j ∧ j < f + n ∧ m0 t j ≠ m0 l j) → Q (some (aI (bi b))) (m1, tl len)) : E 65 0 [some (aA t), some (aA l), some (aI ((f : Nat) : Int)), some (aI ((n : Nat) : Int)), none, none] [] (m0, tl len) Q := by
  refine E_s (p' := 1) (st' := aI 0 :: _) rfl rfl ?_
  refine E_s (p' := 3) (L' := [some (aA t), some (aA l), some (aI ((f : Nat) : Int)), some (aI ((n : Nat) : Int)), some (aI 0), none]) rfl rfl ?_
  refine E_s (p' := 4) (st' := aI ((f : Nat) : Int) :: _) rfl rfl ?_
  refine E_s (p' := 6) (L' := [some (aA t), some (aA l), some (aI ((f : Nat) : Int)), some (aI ((n : Nat) : Int)), some (aI 0), some (aI ((f : Nat) : Int))]) rfl rfl ?_
  exact yl_tk2 ht hl hf1 hf2 hN htl q (n + 1) f false m0 (by omega) (by omega) Fx.rf (fun j _ => rfl) (fun j h1 h2 => absurd h1 (by omega)) (fun _ j h1 h2 => absurd h1 (by omega)) (fun h9 => by cases h9)
end
section
variable {len : Nat} {m0 : Mm} {Q : Option AV → Sx → Prop} {R : RD} {a : Nat} {lo hi : Nat → Int}
theorem yl_dr (hR : isR a) (hC : CR R a m0) (hV : VR R) (hb : bnd (Cn R) lo hi) (hk : ∀ m1 : Mm, Fx 6 7 m0 m1 → RW (Cn R) lo hi (rdS R lo hi (Sn R)) m1 → E 90 75 [some (aA 3), some (aA a), some (aI (Cn R : Int)), some (aI (Sn R : Int))] [] (m1, tl len) Q) : ∀ (d : Nat) (s : Nat) (m : Mm), (Sn R < s + d) → (s ≤ Sn R) → (Fx 6 7 m0 m) → (RW (Cn R) lo hi (rdS R lo hi s) m) → E 90 38 [some (aA 3), some (aA a), some (aI ((Cn R : Nat) : Int)), some (aI ((s : Nat) : Int))] [] (m, tl len) Q := by
  intro d
  induction d with
  | zero => intro s m hd hs I1 W1; omega
  | succ d ih =>
    intro s m hd hs I1 W1
    have hab := isR_b hR
    have hs40 := hV.2.2.2.2.1
    have hCm : CR R a m := hC.of (fun b j g1 g2 _ => I1 b j (by omega))
    refine E_s (p' := 39) (st' := aI ((s : Nat) : Int) :: _) rfl rfl ?_
    refine E_s (p' := 40) (st' := aA a :: _) rfl rfl ?_
    refine E_gA (b := a + 9) rfl rfl rfl (kR_0 hR) (hR_0_1 hR) rfl ?_
    refine E_gI (v := ((Sn R : Nat) : Int)) rfl rfl rfl (kR_9 hR) (CRS hCm) ?_
    refine E_icmp_ge (x := ((s : Nat) : Int)) (y := ((Sn R : Nat) : Int)) rfl (by decide) (fun h_1 => ?_) (fun h_1 => ?_)
    · refine E_go (p' := 75) (L' := [some (aA 3), some (aA a), some (aI ((Cn R : Nat) : Int)), some (aI ((s : Nat) : Int))]) (st' := []) rfl rfl rfl ?_
      have e9 : s = Sn R := by omega
      subst e9
      exact hk m I1 W1
    · refine E_go (p' := 49) (L' := [some (aA 3), some (aA a), some (aI ((Cn R : Nat) : Int)), some (aI ((s : Nat) : Int))]) (st' := []) rfl rfl rfl ?_
      refine E_s (p' := 50) (st' := aA a :: _) rfl rfl ?_
      refine E_gA (b := a + 9) rfl rfl rfl (kR_0 hR) (hR_0_1 hR) rfl ?_
      refine E_s (p' := 54) (st' := aI ((s : Nat) : Int) :: _) rfl rfl ?_
      refine E_callV (k' := 84) (a := a + 9) (r := []) (L0 := [some (aA (a + 9)), some (aI ((s : Nat) : Int))]) rfl rfl rfl rfl rfl (kR_9 hR) rfl rfl rfl rfl ?_
      refine c_counts hR hCm hV (s := s) (by omega) (fun h2 => ?_) (fun h2 => ?_)
      · refine E_go (p' := 57) (L' := [some (aA 3), some (aA a), some (aI ((Cn R : Nat) : Int)), some (aI ((s : Nat) : Int))]) (st' := [aI 1]) rfl rfl rfl ?_
        refine E_s (p' := 60) rfl rfl ?_
        refine E_s (p' := 61) (st' := aA 3 :: _) rfl rfl ?_
        refine E_s (p' := 62) (st' := aA a :: _) rfl rfl ?_
        refine E_gA (b := a + 9) rfl rfl rfl (kR_0 hR) (hR_0_1 hR) rfl ?_
        refine E_s (p' := 66) (st' := aI ((s : Nat) : Int) :: _) rfl rfl ?_
        refine E_callV (k' := 91) (a := 3) (r := []) (L0 := [some (aA 3), some (aA (a + 9)), some (aI ((s : Nat) : Int)), none, none, none, none, none]) rfl rfl rfl rfl rfl rfl rfl rfl rfl rfl ?_
        refine c_narrow hR hCm hV (s := s) (by omega) hb W1 (fun m1 F1 W2 => ?_)
        refine E_go (p' := 69) (L' := [some (aA 3), some (aA a), some (aI ((Cn R : Nat) : Int)), some (aI ((s : Nat) : Int))]) (st' := []) rfl rfl rfl ?_
        refine E_inc (x := ((s : Nat) : Int)) (w := ((s + 1 : Nat) : Int)) (L' := [some (aA 3), some (aA a), some (aI ((Cn R : Nat) : Int)), some (aI ((s + 1 : Nat) : Int))]) rfl rfl rfl (by omega) (by omega) rfl ?_
        refine E_s (p' := 38) rfl rfl ?_
        exact ih (s + 1) m1 (by omega) (by omega) (I1.tr F1) (by show RW _ _ _ (if 2 ≤ Sp R s then _ else _) _; rw [if_pos h2]; exact W2)
      · refine E_go (p' := 57) (L' := [some (aA 3), some (aA a), some (aI ((Cn R : Nat) : Int)), some (aI ((s : Nat) : Int))]) (st' := [aI 0]) rfl rfl rfl ?_
        refine E_s (p' := 69) rfl rfl ?_
        refine E_inc (x := ((s : Nat) : Int)) (w := ((s + 1 : Nat) : Int)) (L' := [some (aA 3), some (aA a), some (aI ((Cn R : Nat) : Int)), some (aI ((s + 1 : Nat) : Int))]) rfl rfl rfl (by omega) (by omega) rfl ?_
        refine E_s (p' := 38) rfl rfl ?_
        exact ih (s + 1) m (by omega) (by omega) I1 (by show RW _ _ _ (if 2 ≤ Sp R s then _ else _) _; rw [if_neg (by omega)]; exact W1)
theorem c_doRound (hR : isR a) (hC : CR R a m0) (hV : VR R) (hb : bnd (Cn R) lo hi) (hlo : ∀ c, c < Cn R → m0 4 c = lo c ∧ m0 5 c = hi c) (q : ∀ m1 : Mm, Fx 4 7 m0 m1 → (∀ c, c < Cn R → m1 4 c = (rdS R lo hi (Sn R)).1 c ∧ m1 5 c = (rdS R lo hi (Sn R)).2 c) → Q (some (aI (bi (rdC R lo hi (Cn R))))) (m1, tl len)) : E 90 0 [some (aA 3), some (aA a), none, none] [] (m0, tl len) Q := by
  have hab := isR_b hR
  have hn60 := hV.1
  refine E_s (p' := 1) (st' := aA a :: _) rfl rfl ?_
  refine E_gA (b := a + 1) rfl rfl rfl (kR_0 hR) (hR_0_0 hR) rfl ?_
  refine E_gI (v := ((Cn R : Nat) : Int)) rfl rfl rfl (kR_1 hR) hC.1 ?_
  refine E_s (p' := 8) (L' := [some (aA 3), some (aA a), some (aI ((Cn R : Nat) : Int)), none]) rfl rfl ?_
  refine E_s (p' := 9) (st' := aA 3 :: _) rfl rfl ?_
  refine E_gA (b := 4) rfl rfl rfl rfl hm_3_0 rfl ?_
  refine E_s (p' := 13) (st' := aI 0 :: _) rfl rfl ?_
  refine E_s (p' := 14) (st' := aA 3 :: _) rfl rfl ?_
  refine E_gA (b := 6) rfl rfl rfl rfl hm_3_2 rfl ?_
  refine E_s (p' := 18) (st' := aI 0 :: _) rfl rfl ?_
  refine E_s (p' := 19) (st' := aI ((Cn R : Nat) : Int) :: _) rfl rfl ?_
  refine E_acp (e1 := 0) (e2 := 0) (e3 := Cn R) rfl rfl rfl rfl (rfl) (rfl) (rfl) (by omega) (by omega) rfl ?_
  refine E_go (p' := 22) (L' := [some (aA 3), some (aA a), some (aI ((Cn R : Nat) : Int)), none]) (st' := []) rfl rfl rfl ?_
  refine E_s (p' := 23) (st' := aA 3 :: _) rfl rfl ?_
  refine E_gA (b := 5) rfl rfl rfl rfl hm_3_1 rfl ?_
  refine E_s (p' := 27) (st' := aI 0 :: _) rfl rfl ?_
  refine E_s (p' := 28) (st' := aA 3 :: _) rfl rfl ?_
  refine E_gA (b := 7) rfl rfl rfl rfl hm_3_3 rfl ?_
  refine E_s (p' := 32) (st' := aI 0 :: _) rfl rfl ?_
  refine E_s (p' := 33) (st' := aI ((Cn R : Nat) : Int) :: _) rfl rfl ?_
  refine E_acp (e1 := 0) (e2 := 0) (e3 := Cn R) rfl rfl rfl rfl (rfl) (rfl) (rfl) (by omega) (by omega) rfl ?_
  refine E_go (p' := 36) (L' := [some (aA 3), some (aA a), some (aI ((Cn R : Nat) : Int)), none]) (st' := []) rfl rfl rfl ?_
  refine E_s (p' := 37) (st' := aI 0 :: _) rfl rfl ?_
  refine E_s (p' := 38) (L' := [some (aA 3), some (aA a), some (aI ((Cn R : Nat) : Int)), some (aI 0)]) rfl rfl ?_
  have hF6 : Fx 6 7 m0 (cpm (cpm m0 4 0 6 0 (Cn R)) 5 0 7 0 (Cn R)) := (Fx.rf.cp (by omega) (by omega)).cp (by omega) (by omega)
  refine yl_dr hR (hC.of (fun b j g1 g2 _ => hF6 b j (by omega))) hV hb (fun t0 F0z W1 => ?_) (Sn R + 1) 0 _ (by omega) (by omega) Fx.rf (fun c hc => ⟨(hF6 _ _ (by omega)).trans (hlo c hc).1, (hF6 _ _ (by omega)).trans (hlo c hc).2, (cpm_ne (by omega)).trans ((cpm_in (by omega)).trans (by rw [show 0 + (c - 0) = c by omega]; exact (hlo c hc).1)), (cpm_in (by omega)).trans ((cpm_ne (by omega)).trans (by rw [show 0 + (c - 0) = c by omega]; exact (hlo c hc).2))⟩)
  have F0 : Fx 6 7 m0 t0 := hF6.tr F0z
  refine E_s (p' := 76) (st' := aA 3 :: _) rfl rfl ?_
  refine E_gA (b := 4) rfl rfl rfl rfl hm_3_0 rfl ?_
  refine E_s (p' := 80) (st' := aA 3 :: _) rfl rfl ?_
  refine E_gA (b := 6) rfl rfl rfl rfl hm_3_2 rfl ?_
  refine E_s (p' := 84) (st' := aI 0 :: _) rfl rfl ?_
  refine E_s (p' := 85) (st' := aI ((Cn R : Nat) : Int) :: _) rfl rfl ?_
  refine E_callL (p' := 88) (L0 := [some (aA 4), some (aA 6), some (aI 0), some (aI ((Cn R : Nat) : Int)), none, none]) rfl rfl rfl ?_
  refine c_takeRow2 (f := 0) (n := Cn R) (N1 := 60) (N2 := 60) rfl rfl (by omega) (by omega) (by decide) (by decide) (fun b1 t1 F1 V1 X1 Y1 => ?_)
  refine E_go (p' := 88) (L' := [some (aA 3), some (aA a), some (aI ((Cn R : Nat) : Int)), some (aI ((Sn R : Nat) : Int))]) (st' := [aI (bi b1)]) rfl rfl rfl ?_
  refine E_s (p' := 89) (L' := [some (aA 3), some (aA a), some (aI ((Cn R : Nat) : Int)), some (aI (bi b1))]) rfl rfl ?_
  refine E_s (p' := 90) (st' := aA 3 :: _) rfl rfl ?_
  refine E_gA (b := 5) rfl rfl rfl rfl hm_3_1 rfl ?_
  refine E_s (p' := 94) (st' := aA 3 :: _) rfl rfl ?_
  refine E_gA (b := 7) rfl rfl rfl rfl hm_3_3 rfl ?_
  refine E_s (p' := 98) (st' := aI 0 :: _) rfl rfl ?_
  refine E_s (p' := 99) (st' := aI ((Cn R : Nat) : Int) :: _) rfl rfl ?_
  refine E_callL (p' := 102) (L0 := [some (aA 5), some (aA 7), some (aI 0), some (aI ((Cn R : Nat) : Int)), none, none]) rfl rfl rfl ?_
  refine c_takeRow2 (f := 0) (n := Cn R) (N1 := 60) (N2 := 60) rfl rfl (by omega) (by omega) (by decide) (by decide) (fun b2 t2 F2 V2 X2 Y2 => ?_)
  refine E_go (p' := 102) (L' := [some (aA 3), some (aA a), some (aI ((Cn R : Nat) : Int)), some (aI (bi b1))]) (st' := [aI (bi b2)]) rfl rfl rfl ?_
  refine E_b_ne0 (b := b2) rfl (by decide) (fun h_1 => ?_) (fun h_1 => ?_)
  · refine E_go (p' := 109) (L' := [some (aA 3), some (aA a), some (aI ((Cn R : Nat) : Int)), some (aI (bi b1))]) (st' := []) rfl rfl rfl ?_
    refine E_s (p' := 110) (st' := aI 1 :: _) rfl rfl ?_
    refine E_s (p' := 114) rfl rfl ?_
    refine E_ret rfl rfl ?_
    have hch : rdC R lo hi (Cn R) = true := by
      cases hx : rdC R lo hi (Cn R) with
      | true => rfl
      | false =>
        have hy := rdC_f.mp hx
        exfalso
        have hz : b2 = true ∨ b1 = true := by first | exact Or.inl (by assumption) | exact Or.inr (by assumption)
        rcases hz with z9 | z9
        · obtain ⟨j, k1, k2, k3⟩ := Y2 z9
          exact k3 (by rw [F1 _ _ (by omega), F1 _ _ (by omega), (W1 j (by omega)).2.1, (W1 j (by omega)).2.2.2]; exact (hy j (by omega)).2.symm)
        · obtain ⟨j, k1, k2, k3⟩ := Y1 z9
          exact k3 (by rw [(W1 j (by omega)).1, (W1 j (by omega)).2.2.1]; exact (hy j (by omega)).1.symm)
    rw [hch] at q
    exact q t2 ((F0.wide (by omega) (by omega)).tr (F1.wide (by omega) (by omega)) |>.tr (F2.wide (by omega) (by omega))) (fun c hc => ⟨(F2 _ _ (by omega)).trans ((V1 c (by omega) (by omega)).trans (W1 c hc).2.2.1), (V2 c (by omega) (by omega)).trans ((F1 _ _ (by omega)).trans (W1 c hc).2.2.2)⟩)
  · refine E_go (p' := 105) (L' := [some (aA 3), some (aA a), some (aI ((Cn R : Nat) : Int)), some (aI (bi b1))]) (st' := []) rfl rfl rfl ?_
    refine E_s (p' := 106) (st' := aI (bi b1) :: _) rfl rfl ?_
    refine E_b_eq0 (b := b1) rfl (by decide) (fun h_2 => ?_) (fun h_2 => ?_)
    · refine E_go (p' := 113) (L' := [some (aA 3), some (aA a), some (aI ((Cn R : Nat) : Int)), some (aI (bi b1))]) (st' := []) rfl rfl rfl ?_
      refine E_s (p' := 114) (st' := aI 0 :: _) rfl rfl ?_
      refine E_ret rfl rfl ?_
      have hch : rdC R lo hi (Cn R) = false := by
        rw [rdC_f]
        intro c hc
        have k1 := X1 (by assumption) c (by omega) (by omega)
        have k2 := X2 (by assumption) c (by omega) (by omega)
        rw [F1 _ _ (by omega), F1 _ _ (by omega), (W1 c hc).2.1, (W1 c hc).2.2.2] at k2
        rw [(W1 c hc).1, (W1 c hc).2.2.1] at k1
        exact ⟨k1.symm, k2.symm⟩
      rw [hch] at q
      exact q t2 ((F0.wide (by omega) (by omega)).tr (F1.wide (by omega) (by omega)) |>.tr (F2.wide (by omega) (by omega))) (fun c hc => ⟨(F2 _ _ (by omega)).trans ((V1 c (by omega) (by omega)).trans (W1 c hc).2.2.1), (V2 c (by omega) (by omega)).trans ((F1 _ _ (by omega)).trans (W1 c hc).2.2.2)⟩)
    · refine E_go (p' := 109) (L' := [some (aA 3), some (aA a), some (aI ((Cn R : Nat) : Int)), some (aI (bi b1))]) (st' := []) rfl rfl rfl ?_
      refine E_s (p' := 110) (st' := aI 1 :: _) rfl rfl ?_
      refine E_s (p' := 114) rfl rfl ?_
      refine E_ret rfl rfl ?_
      have hch : rdC R lo hi (Cn R) = true := by
        cases hx : rdC R lo hi (Cn R) with
        | true => rfl
        | false =>
          have hy := rdC_f.mp hx
          exfalso
          have hz : b2 = true ∨ b1 = true := by first | exact Or.inl (by assumption) | exact Or.inr (by assumption)
          rcases hz with z9 | z9
          · obtain ⟨j, k1, k2, k3⟩ := Y2 z9
            exact k3 (by rw [F1 _ _ (by omega), F1 _ _ (by omega), (W1 j (by omega)).2.1, (W1 j (by omega)).2.2.2]; exact (hy j (by omega)).2.symm)
          · obtain ⟨j, k1, k2, k3⟩ := Y1 z9
            exact k3 (by rw [(W1 j (by omega)).1, (W1 j (by omega)).2.2.1]; exact (hy j (by omega)).1.symm)
      rw [hch] at q
      exact q t2 ((F0.wide (by omega) (by omega)).tr (F1.wide (by omega) (by omega)) |>.tr (F2.wide (by omega) (by omega))) (fun c hc => ⟨(F2 _ _ (by omega)).trans ((V1 c (by omega) (by omega)).trans (W1 c hc).2.2.1), (V2 c (by omega) (by omega)).trans ((F1 _ _ (by omega)).trans (W1 c hc).2.2.2)⟩)
theorem yl_fn {m : Mm} {n : Nat} (hn : n ≤ 60) (hlo : ∀ c, c < n → m 4 c = lo c ∧ m 5 c = hi c) (q1 : ∀ c, c < n → hi c < lo c → (∀ x, x < c → lo x ≤ hi x) → Q (some (aI (c : Int))) (m, tl len)) (q0 : (∀ x, x < n → lo x ≤ hi x) → Q (some (aI (-1))) (m, tl len)) : ∀ (d : Nat) (c : Nat), (n < c + d) → (c ≤ n) → (∀ x, x < c → lo x ≤ hi x) → E 93 2 [some (aA 3), some (aI ((n : Nat) : Int)), some (aI ((c : Nat) : Int))] [] (m, tl len) Q := by
  intro d
  induction d with
  | zero => intro c hd hc I1; omega
  | succ d ih =>
    intro c hd hc I1
    refine E_s (p' := 3) (st' := aI ((c : Nat) : Int) :: _) rfl rfl ?_
    refine E_s (p' := 4) (st' := aI ((n : Nat) : Int) :: _) rfl rfl ?_
    refine E_icmp_ge (x := ((c : Nat) : Int)) (y := ((n : Nat) : Int)) rfl (by decide) (fun h_1 => ?_) (fun h_1 => ?_)
    · refine E_go (p' := 30) (L' := [some (aA 3), some (aI ((n : Nat) : Int)), some (aI ((c : Nat) : Int))]) (st' := []) rfl rfl rfl ?_
      refine E_s (p' := 31) (st' := aI (-1) :: _) rfl rfl ?_
      refine E_ret rfl rfl ?_
      exact q0 (fun x hx => I1 x (by omega))
    · refine E_go (p' := 7) (L' := [some (aA 3), some (aI ((n : Nat) : Int)), some (aI ((c : Nat) : Int))]) (st' := []) rfl rfl rfl ?_
      refine E_s (p' := 8) (st' := aA 3 :: _) rfl rfl ?_
      refine E_gA (b := 4) rfl rfl rfl rfl hm_3_0 rfl ?_
      refine E_s (p' := 12) (st' := aI ((c : Nat) : Int) :: _) rfl rfl ?_
      refine E_ald (e := c) (N := 60) (v := (((lo c)))) rfl rfl (rfl) (by omega) (hlo c (by omega)).1 ?_
      refine E_s (p' := 14) (st' := aA 3 :: _) rfl rfl ?_
      refine E_gA (b := 5) rfl rfl rfl rfl hm_3_1 rfl ?_
      refine E_s (p' := 18) (st' := aI ((c : Nat) : Int) :: _) rfl rfl ?_
      refine E_ald (e := c) (N := 60) (v := (((hi c)))) rfl rfl (rfl) (by omega) (hlo c (by omega)).2 ?_
      refine E_icmp_le (x := (((lo c)))) (y := (((hi c)))) rfl (by decide) (fun h_2 => ?_) (fun h_2 => ?_)
      · refine E_go (p' := 24) (L' := [some (aA 3), some (aI ((n : Nat) : Int)), some (aI ((c : Nat) : Int))]) (st' := []) rfl rfl rfl ?_
        refine E_inc (x := ((c : Nat) : Int)) (w := ((c + 1 : Nat) : Int)) (L' := [some (aA 3), some (aI ((n : Nat) : Int)), some (aI ((c + 1 : Nat) : Int))]) rfl rfl rfl (by omega) (by omega) rfl ?_
        refine E_s (p' := 2) rfl rfl ?_
        exact ih (c + 1) (by omega) (by omega) (fun x hx => by by_cases g9 : x = c; subst g9; omega; exact I1 x (by omega))
      · refine E_go (p' := 22) (L' := [some (aA 3), some (aI ((n : Nat) : Int)), some (aI ((c : Nat) : Int))]) (st' := []) rfl rfl rfl ?_
        refine E_s (p' := 23) (st' := aI ((c : Nat) : Int) :: _) rfl rfl ?_
        refine E_ret rfl rfl ?_
        exact q1 c (by omega) (by omega) I1
theorem c_firstNone {m : Mm} {n : Nat} (hn : n ≤ 60) (hlo : ∀ c, c < n → m 4 c = lo c ∧ m 5 c = hi c) (q1 : ∀ c, c < n → hi c < lo c → (∀ x, x < c → lo x ≤ hi x) → Q (some (aI (c : Int))) (m, tl len)) (q0 : (∀ x, x < n → lo x ≤ hi x) → Q (some (aI (-1))) (m, tl len)) : E 93 0 [some (aA 3), some (aI ((n : Nat) : Int)), none] [] (m, tl len) Q := by
  refine E_s (p' := 1) (st' := aI 0 :: _) rfl rfl ?_
  refine E_s (p' := 2) (L' := [some (aA 3), some (aI ((n : Nat) : Int)), some (aI 0)]) rfl rfl ?_
  exact yl_fn hn hlo q1 q0 (n + 1) 0 (by omega) (by omega) (fun x hx => absurd hx (by omega))
end
