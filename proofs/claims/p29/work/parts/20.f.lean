/-- two RECORDS are alike as far as either is told -/
def agr (R R' : RD) : Prop := Cn R = Cn R' ∧ Cq R = Cq R' ∧ (∀ c, c < Cn R → Cg R c = Cg R' c ∧ Co R c = Co R' c ∧ Cc R c = Cc R' c ∧ Cl R c = Cl R' c ∧ Ct R c = Ct R' c ∧ Ck R c = Ck R' c) ∧ (∀ c k, c < Cn R → k < Ck R c → Cp R c k = Cp R' c k) ∧ Sn R = Sn R' ∧ (∀ s, s < Sn R → Sw R s = Sw R' s ∧ Sp R s = Sp R' s) ∧ (∀ s p, s < Sn R → p < Sp R s → Sq R s p = Sq R' s p)
theorem CR.agr {R R' : RD} {a : Nat} {m : Mm} (h : CR R a m) (h' : CR R' a m) : agr R R' := by
  have en : Cn R = Cn R' := by have := h.1.symm.trans h'.1; omega
  have es : Sn R = Sn R' := by have := (CRS h).symm.trans (CRS h'); omega
  refine ⟨en, by have := h.2.1.symm.trans h'.2.1; omega, fun c hc => ?_, fun c k hc hk => ?_, es, fun s hs => ?_, fun s p hs hp => ?_⟩
  · have hc' : c < Cn R' := by omega
    exact ⟨(CR_2 h hc).symm.trans (CR_2 h' hc'), (CR_3 h hc).symm.trans (CR_3 h' hc'), by have := (CR_4 h hc).symm.trans (CR_4 h' hc'); omega, by have := (CR_5 h hc).symm.trans (CR_5 h' hc'); omega, by have := (CR_6 h hc).symm.trans (CR_6 h' hc'); omega, by have := (CR_7 h hc).symm.trans (CR_7 h' hc'); omega⟩
  · have hc' : c < Cn R' := by omega
    have ek : Ck R c = Ck R' c := by have := (CR_7 h hc).symm.trans (CR_7 h' hc'); omega
    have := (CR_8 h hc hk rfl).symm.trans (CR_8 h' hc' (show k < Ck R' c by omega) rfl); omega
  · exact ⟨by have := (CR_10 h hs).symm.trans (CR_10 h' (show s < Sn R' by omega)); omega, by have := (CR_11 h hs).symm.trans (CR_11 h' (show s < Sn R' by omega)); omega⟩
  · have ep : Sp R s = Sp R' s := by have := (CR_11 h hs).symm.trans (CR_11 h' (show s < Sn R' by omega)); omega
    have := (CR_12 h hs hp rfl).symm.trans (CR_12 h' (show s < Sn R' by omega) (show p < Sp R' s by omega) rfl); omega
theorem agr.symm {R R' : RD} (h : agr R R') : agr R' R := by
  obtain ⟨h1, h2, h3, h4, h5, h6, h7⟩ := h
  refine ⟨h1.symm, h2.symm, fun c hc => ?_, fun c k hc hk => ?_, h5.symm, fun s hs => ?_, fun s p hs hp => ?_⟩
  · obtain ⟨g1, g2, g3, g4, g5, g6⟩ := h3 c (by omega)
    exact ⟨g1.symm, g2.symm, g3.symm, g4.symm, g5.symm, g6.symm⟩
  · obtain ⟨-, -, -, -, -, g6⟩ := h3 c (by omega)
    exact (h4 c k (by omega) (by omega)).symm
  · exact ⟨(h6 s (by omega)).1.symm, (h6 s (by omega)).2.symm⟩
  · have := (h6 s (by omega)).2
    exact (h7 s p (by omega) (by omega)).symm
theorem MR.agr {R R' : RD} {r : Nat} {m : Mm} (h : MR R r m) (g : agr R R') : MR R' r m := by
  obtain ⟨g1, g2, g3, g4, g5, g6, g7⟩ := g.symm
  obtain ⟨h1, h2, h3, h4, h5, h6, h7⟩ := h
  refine ⟨by rw [g1]; exact h1, by rw [g2]; exact h2, fun c hc => ?_, fun c k hc hk => ?_, by rw [g5]; exact h5, fun s hs => ?_, fun s p hs hp => ?_⟩
  · obtain ⟨k1, k2, k3, k4, k5, k6⟩ := g3 c hc
    unfold MC
    rw [k1, k2, k3, k4, k5, k6]
    exact h3 c (by omega)
  · obtain ⟨-, -, -, -, -, k6⟩ := g3 c hc
    unfold MK
    rw [g4 c k hc hk]
    exact h4 c k (by omega) (by omega)
  · rw [(g6 s hs).1, (g6 s hs).2]; exact h6 s (by omega)
  · rw [g7 s p hs hp]; exact h7 s p (by omega) (by have := (g6 s hs).2; omega)
section
variable {len : Nat} {m : Mm} {Q : Option AV → Sx → Prop} {R : RD} {a s : Nat} {h : Int}
theorem c_partOf (hR : isR a) (hC : CR R a m) (hV : VR R) (hs : s < Sn R) {p : Nat} (hp : p < Sp R s) (q : Q (some (aI (Sq R s p : Int))) (m, tl len)) : E 79 0 [some (aA (a + 9)), some (aI ((s : Nat) : Int)), some (aI ((p : Nat) : Int))] [] (m, tl len) Q := by
  have hs40 := hV.2.2.2.2.1
  have hab := isR_b hR
  have hp12 := (hV.2.2.2.2.2.1 s hs).2
  refine E_s (p' := 1) (st' := aA (a + 9) :: _) rfl rfl ?_
  refine E_gA (b := a + 12) rfl rfl rfl (kR_9 hR) (hR_9_2 hR) rfl ?_
  refine E_s (p' := 5) (st' := aI ((s : Nat) : Int) :: _) rfl rfl ?_
  refine E_s (p' := 7) (st' := aI 12 :: _) rfl rfl ?_
  refine E_mul (v := ((12 * s : Nat) : Int)) rfl (by omega) (by omega) ?_
  refine E_s (p' := 9) (st' := aI ((p : Nat) : Int) :: _) rfl rfl ?_
  refine E_add (v := ((12 * s + p : Nat) : Int)) rfl (by omega) (by omega) ?_
  refine E_ald (e := 12 * s + p) (N := 480) (v := ((Sq R s p : Nat) : Int)) rfl (kR_12 hR) (rfl) (by omega) (CR_12 hC (by omega) (by omega) (by omega)) ?_
  refine E_ret rfl rfl ?_
  exact q
theorem c_counts (hR : isR a) (hC : CR R a m) (hV : VR R) (hs : s < Sn R) (q1 : 2 ≤ Sp R s → Q (some (aI 1)) (m, tl len)) (q0 : Sp R s < 2 → Q (some (aI 0)) (m, tl len)) : E 84 0 [some (aA (a + 9)), some (aI ((s : Nat) : Int))] [] (m, tl len) Q := by
  have hs40 := hV.2.2.2.2.1
  have hab := isR_b hR
  have hp12 := (hV.2.2.2.2.2.1 s hs).2
  refine E_s (p' := 1) (st' := aA (a + 9) :: _) rfl rfl ?_
  refine E_gA (b := a + 11) rfl rfl rfl (kR_9 hR) (hR_9_1 hR) rfl ?_
  refine E_s (p' := 5) (st' := aI ((s : Nat) : Int) :: _) rfl rfl ?_
  refine E_ald (e := s) (N := 40) (v := ((Sp R s : Nat) : Int)) rfl (kR_11 hR) (rfl) (by omega) (CR_11 hC (by omega)) ?_
  refine E_s (p' := 7) (st' := aI 2 :: _) rfl rfl ?_
  refine E_icmp_lt (x := ((Sp R s : Nat) : Int)) (y := 2) rfl (by decide) (fun h_1 => ?_) (fun h_1 => ?_)
  · refine E_go (p' := 14) (L' := [some (aA (a + 9)), some (aI ((s : Nat) : Int))]) (st' := []) rfl rfl rfl ?_
    refine E_s (p' := 15) (st' := aI 0 :: _) rfl rfl ?_
    refine E_ret rfl rfl ?_
    exact q0 (by omega)
  · refine E_go (p' := 10) (L' := [some (aA (a + 9)), some (aI ((s : Nat) : Int))]) (st' := []) rfl rfl rfl ?_
    refine E_s (p' := 11) (st' := aI 1 :: _) rfl rfl ?_
    refine E_s (p' := 15) rfl rfl ?_
    refine E_ret rfl rfl ?_
    exact q1 (by omega)
theorem c_begin (hR : isR a) (hC : CR R a m) (hV : VR R) {c : Nat} (hs : Sn R < 40) (q : ∀ m1, CR (Rsm R (Sn R + 1) (upf (Sw R) (Sn R) c) (upf (Sp R) (Sn R) 0) (Sq R)) a m1 → Fx (a + 9) (a + 11) m m1 → Q none (m1, tl len)) : E 76 0 [some (aA (a + 9)), some (aI ((c : Nat) : Int))] [] (m, tl len) Q := by
  have hab := isR_b hR
  refine E_s (p' := 1) (st' := aA (a + 9) :: _) rfl rfl ?_
  refine E_gA (b := a + 10) rfl rfl rfl (kR_9 hR) (hR_9_0 hR) rfl ?_
  refine E_s (p' := 5) (st' := aA (a + 9) :: _) rfl rfl ?_
  refine E_gI (v := ((Sn R : Nat) : Int)) rfl rfl rfl (kR_9 hR) (CRS hC) ?_
  refine E_s (p' := 9) (st' := aI ((c : Nat) : Int) :: _) rfl rfl ?_
  refine E_ast (e := Sn R) (N := 40) rfl (kR_10 hR) (rfl) (by omega) ?_
  refine E_s (p' := 11) (st' := aA (a + 9) :: _) rfl rfl ?_
  refine E_gA (b := a + 11) rfl rfl rfl (kR_9 hR) (hR_9_1 hR) rfl ?_
  refine E_s (p' := 15) (st' := aA (a + 9) :: _) rfl rfl ?_
  refine E_gI (v := ((Sn R : Nat) : Int)) rfl rfl rfl (kR_9 hR) ((up2_ne (by omega)).trans ((CRS hC))) ?_
  refine E_s (p' := 19) (st' := aI 0 :: _) rfl rfl ?_
  refine E_ast (e := Sn R) (N := 40) rfl (kR_11 hR) (rfl) (by omega) ?_
  refine E_s (p' := 21) (st' := aA (a + 9) :: _) rfl rfl ?_
  refine E_s (p' := 22) (st' := aA (a + 9) :: _) rfl rfl ?_
  refine E_gI (v := ((Sn R : Nat) : Int)) rfl rfl rfl (kR_9 hR) ((up2_ne (by omega)).trans ((up2_ne (by omega)).trans ((CRS hC)))) ?_
  refine E_s (p' := 26) (st' := aI 1 :: _) rfl rfl ?_
  refine E_add (v := ((Sn R + 1 : Nat) : Int)) rfl (by omega) (by omega) ?_
  refine E_pI rfl rfl rfl (kR_9 hR) (Or.inl rfl) ?_
  refine E_ret rfl rfl ?_
  refine q _ (CR.sm hC (up2_eq) (fun s hs => ?_) (fun s k hs hk => ?_) (fun b j h1 h2 h3 => ((up2_ne (by omega)).trans ((up2_ne (by omega)).trans (up2_ne (by omega)))))) (fun b j hb => ((up2_ne (by omega)).trans ((up2_ne (by omega)).trans (up2_ne (by omega)))))
  · by_cases g : s = Sn R
    · subst g; rw [upf_eq, upf_eq]; exact ⟨((up2_ne (by omega)).trans ((up2_ne (by omega)).trans (up2_eq))), ((up2_ne (by omega)).trans (up2_eq))⟩
    · rw [upf_ne g, upf_ne g]
      exact ⟨((up2_ne (by omega)).trans ((up2_ne (by omega)).trans (up2_sl g))).trans (CR_10 hC (by omega)), ((up2_ne (by omega)).trans ((up2_sl g).trans (up2_ne (by omega)))).trans (CR_11 hC (by omega))⟩
  · by_cases g : s = Sn R
    · subst g; rw [upf_eq] at hk; omega
    · rw [upf_ne g] at hk
      exact ((up2_ne (by omega)).trans ((up2_ne (by omega)).trans (up2_ne (by omega)))).trans (CR_12 hC (by omega) hk rfl)
end
/-- whether a CORD is the whole, or one of the first k parts -/
def hld (R : RD) (s : Nat) (h : Int) : Nat → Bool
  | 0 => decide ((Sw R s : Int) = h)
  | k + 1 => hld R s h k || decide ((Sq R s k : Int) = h)
section
variable {len : Nat} {m : Mm} {Q : Option AV → Sx → Prop} {R : RD} {a s : Nat} {h : Int}
theorem yl_holds (hR : isR a) (hC : CR R a m) (hV : VR R) (hs : s < Sn R) (q : Q (some (aI (bi (hld R s h (Sp R s))))) (m, tl len)) : ∀ (d : Nat) (i : Nat) (b : Bool), (Sp R s < i + d) → (i ≤ Sp R s) → (b = hld R s h i) → E 78 19 [some (aA (a + 9)), some (aI ((s : Nat) : Int)), some (aI (h)), some (aI (bi b)), some (aI ((i : Nat) : Int))] [] (m, tl len) Q := by
  intro d
  induction d with
  | zero => intro i b hd hi hz; omega
  | succ d ih =>
    intro i b hd hi hz
    have hs40 := hV.2.2.2.2.1
    have hab := isR_b hR
    have hp12 := (hV.2.2.2.2.2.1 s hs).2
    refine E_s (p' := 21) (st' := aI ((i : Nat) : Int) :: _) rfl rfl ?_
    refine E_s (p' := 22) (st' := aA (a + 9) :: _) rfl rfl ?_
    refine E_gA (b := a + 11) rfl rfl rfl (kR_9 hR) (hR_9_1 hR) rfl ?_
    refine E_s (p' := 26) (st' := aI ((s : Nat) : Int) :: _) rfl rfl ?_
    refine E_ald (e := s) (N := 40) (v := ((Sp R s : Nat) : Int)) rfl (kR_11 hR) (rfl) (by omega) (CR_11 hC (by omega)) ?_
    refine E_icmp_ge (x := ((i : Nat) : Int)) (y := ((Sp R s : Nat) : Int)) rfl (by decide) (fun h_1 => ?_) (fun h_1 => ?_)
    · refine E_go (p' := 55) (L' := [some (aA (a + 9)), some (aI ((s : Nat) : Int)), some (aI (h)), some (aI (bi b)), some (aI ((i : Nat) : Int))]) (st' := []) rfl rfl rfl ?_
      refine E_s (p' := 56) (st' := aI (bi b) :: _) rfl rfl ?_
      refine E_retB rfl rfl (bi01 _) ?_
      have ei : i = Sp R s := by omega
      rw [hz, ei]
      exact q
    · refine E_go (p' := 30) (L' := [some (aA (a + 9)), some (aI ((s : Nat) : Int)), some (aI (h)), some (aI (bi b)), some (aI ((i : Nat) : Int))]) (st' := []) rfl rfl rfl ?_
      refine E_s (p' := 31) (st' := aI (bi b) :: _) rfl rfl ?_
      refine E_s (p' := 32) (st' := aA (a + 9) :: _) rfl rfl ?_
      refine E_s (p' := 33) (st' := aI ((s : Nat) : Int) :: _) rfl rfl ?_
      refine E_s (p' := 35) (st' := aI ((i : Nat) : Int) :: _) rfl rfl ?_
      refine E_callV (k' := 79) (a := a + 9) (r := [aI (bi b)]) (L0 := [some (aA (a + 9)), some (aI ((s : Nat) : Int)), some (aI ((i : Nat) : Int))]) rfl rfl rfl rfl rfl (kR_9 hR) rfl rfl rfl rfl ?_
      refine c_partOf hR hC hV (s := s) (p := i) (by omega) (by omega) ?_
      refine E_go (p' := 38) (L' := [some (aA (a + 9)), some (aI ((s : Nat) : Int)), some (aI (h)), some (aI (bi b)), some (aI ((i : Nat) : Int))]) (st' := [aI ((Sq R s i : Nat) : Int), aI (bi b)]) rfl rfl rfl ?_
      refine E_s (p' := 39) (st' := aI (h) :: _) rfl rfl ?_
      suffices h_2 : E 78 47 [some (aA (a + 9)), some (aI ((s : Nat) : Int)), some (aI (h)), some (aI (bi b)), some (aI ((i : Nat) : Int))] [aI (bi (!decide (((Sq R s i : Nat) : Int) ≠ (h)))), aI (bi b)] (m, tl len) Q by
        refine E_icmp_ne (x := ((Sq R s i : Nat) : Int)) (y := (h)) rfl (by decide) (fun h_3 => ?_) (fun h_3 => ?_)
        · refine E_go (p' := 46) (L' := [some (aA (a + 9)), some (aI ((s : Nat) : Int)), some (aI (h)), some (aI (bi b)), some (aI ((i : Nat) : Int))]) (st' := [aI (bi b)]) rfl rfl rfl ?_
          refine E_s (p' := 47) (st' := aI 0 :: _) rfl rfl ?_
          rw [decide_eq_true (p := ((Sq R s i : Nat) : Int) ≠ (h)) (by omega)] at h_2
          exact h_2
        · refine E_go (p' := 42) (L' := [some (aA (a + 9)), some (aI ((s : Nat) : Int)), some (aI (h)), some (aI (bi b)), some (aI ((i : Nat) : Int))]) (st' := [aI (bi b)]) rfl rfl rfl ?_
          refine E_s (p' := 43) (st' := aI 1 :: _) rfl rfl ?_
          refine E_s (p' := 47) rfl rfl ?_
          rw [decide_eq_false (p := ((Sq R s i : Nat) : Int) ≠ (h)) (by omega)] at h_2
          exact h_2
      refine E_orb (x := b) (y := (!decide (((Sq R s i : Nat) : Int) ≠ (h)))) rfl ?_
      refine E_s (p' := 49) (L' := [some (aA (a + 9)), some (aI ((s : Nat) : Int)), some (aI (h)), some (aI (bi (b || (!decide (((Sq R s i : Nat) : Int) ≠ (h)))))), some (aI ((i : Nat) : Int))]) rfl rfl ?_
      refine E_inc (x := ((i : Nat) : Int)) (w := ((i + 1 : Nat) : Int)) (L' := [some (aA (a + 9)), some (aI ((s : Nat) : Int)), some (aI (h)), some (aI (bi (b || (!decide (((Sq R s i : Nat) : Int) ≠ (h)))))), some (aI ((i + 1 : Nat) : Int))]) rfl rfl rfl (by omega) (by omega) rfl ?_
      refine E_s (p' := 19) rfl rfl ?_
      exact ih (i + 1) _ (by omega) (by omega) (by rw [hz]; simp [hld])
theorem c_holds (hR : isR a) (hC : CR R a m) (hV : VR R) (hs : s < Sn R) (q : Q (some (aI (bi (hld R s h (Sp R s))))) (m, tl len)) : E 78 0 [some (aA (a + 9)), some (aI ((s : Nat) : Int)), some (aI (h)), none, none] [] (m, tl len) Q := by
  have hs40 := hV.2.2.2.2.1
  have hab := isR_b hR
  have hp12 := (hV.2.2.2.2.2.1 s hs).2
  refine E_s (p' := 1) (st' := aA (a + 9) :: _) rfl rfl ?_
  refine E_gA (b := a + 10) rfl rfl rfl (kR_9 hR) (hR_9_0 hR) rfl ?_
  refine E_s (p' := 5) (st' := aI ((s : Nat) : Int) :: _) rfl rfl ?_
  refine E_ald (e := s) (N := 40) (v := ((Sw R s : Nat) : Int)) rfl (kR_10 hR) (rfl) (by omega) (CR_10 hC (by omega)) ?_
  refine E_s (p' := 7) (st' := aI (h) :: _) rfl rfl ?_
  suffices h_1 : E 78 15 [some (aA (a + 9)), some (aI ((s : Nat) : Int)), some (aI (h)), none, none] [aI (bi (!decide (((Sw R s : Nat) : Int) ≠ (h))))] (m, tl len) Q by
    refine E_icmp_ne (x := ((Sw R s : Nat) : Int)) (y := (h)) rfl (by decide) (fun h_2 => ?_) (fun h_2 => ?_)
    · refine E_go (p' := 14) (L' := [some (aA (a + 9)), some (aI ((s : Nat) : Int)), some (aI (h)), none, none]) (st' := []) rfl rfl rfl ?_
      refine E_s (p' := 15) (st' := aI 0 :: _) rfl rfl ?_
      rw [decide_eq_true (p := ((Sw R s : Nat) : Int) ≠ (h)) (by omega)] at h_1
      exact h_1
    · refine E_go (p' := 10) (L' := [some (aA (a + 9)), some (aI ((s : Nat) : Int)), some (aI (h)), none, none]) (st' := []) rfl rfl rfl ?_
      refine E_s (p' := 11) (st' := aI 1 :: _) rfl rfl ?_
      refine E_s (p' := 15) rfl rfl ?_
      rw [decide_eq_false (p := ((Sw R s : Nat) : Int) ≠ (h)) (by omega)] at h_1
      exact h_1
  refine E_s (p' := 16) (L' := [some (aA (a + 9)), some (aI ((s : Nat) : Int)), some (aI (h)), some (aI (bi (!decide (((Sw R s : Nat) : Int) ≠ (h))))), none]) rfl rfl ?_
  refine E_s (p' := 17) (st' := aI 0 :: _) rfl rfl ?_
  refine E_s (p' := 19) (L' := [some (aA (a + 9)), some (aI ((s : Nat) : Int)), some (aI (h)), some (aI (bi (!decide (((Sw R s : Nat) : Int) ≠ (h))))), some (aI 0)]) rfl rfl ?_
  exact yl_holds hR hC hV hs q (Sp R s + 1) 0 _ (by omega) (by omega) (by simp [hld])
theorem c_addPart (hR : isR a) (hC : CR R a m) (hV : VR R) (hs : s < Sn R) {c : Nat} (hp : Sp R s < 12) (q : ∀ m1, CR (Rsm R (Sn R) (Sw R) (upf (Sp R) s (Sp R s + 1)) (upf (Sq R) s (upf (Sq R s) (Sp R s) c))) a m1 → Fx (a + 11) (a + 12) m m1 → Q none (m1, tl len)) : E 80 0 [some (aA (a + 9)), some (aI ((s : Nat) : Int)), some (aI ((c : Nat) : Int))] [] (m, tl len) Q := by
  have hs40 := hV.2.2.2.2.1
  have hab := isR_b hR
  have hp12 := (hV.2.2.2.2.2.1 s hs).2
  refine E_s (p' := 1) (st' := aA (a + 9) :: _) rfl rfl ?_
  refine E_gA (b := a + 12) rfl rfl rfl (kR_9 hR) (hR_9_2 hR) rfl ?_
  refine E_s (p' := 5) (st' := aI ((s : Nat) : Int) :: _) rfl rfl ?_
  refine E_s (p' := 7) (st' := aI 12 :: _) rfl rfl ?_
  refine E_mul (v := ((12 * s : Nat) : Int)) rfl (by omega) (by omega) ?_
  refine E_s (p' := 9) (st' := aA (a + 9) :: _) rfl rfl ?_
  refine E_gA (b := a + 11) rfl rfl rfl (kR_9 hR) (hR_9_1 hR) rfl ?_
  refine E_s (p' := 13) (st' := aI ((s : Nat) : Int) :: _) rfl rfl ?_
  refine E_ald (e := s) (N := 40) (v := ((Sp R s : Nat) : Int)) rfl (kR_11 hR) (rfl) (by omega) (CR_11 hC (by omega)) ?_
  refine E_add (v := ((12 * s + Sp R s : Nat) : Int)) rfl (by omega) (by omega) ?_
  refine E_s (p' := 16) (st' := aI ((c : Nat) : Int) :: _) rfl rfl ?_
  refine E_ast (e := 12 * s + Sp R s) (N := 480) rfl (kR_12 hR) (rfl) (by omega) ?_
  refine E_s (p' := 18) (st' := aA (a + 9) :: _) rfl rfl ?_
  refine E_gA (b := a + 11) rfl rfl rfl (kR_9 hR) (hR_9_1 hR) rfl ?_
  refine E_s (p' := 22) (st' := aI ((s : Nat) : Int) :: _) rfl rfl ?_
  refine E_s (p' := 23) rfl rfl ?_
  refine E_ald (e := s) (N := 40) (v := ((Sp R s : Nat) : Int)) rfl (kR_11 hR) (rfl) (by omega) ((up2_ne (by omega)).trans ((CR_11 hC (by omega)))) ?_
  refine E_s (p' := 25) (st' := aI 1 :: _) rfl rfl ?_
  refine E_add (v := ((Sp R s + 1 : Nat) : Int)) rfl (by omega) (by omega) ?_
  refine E_ast (e := s) (N := 40) rfl (kR_11 hR) (rfl) (by omega) ?_
  refine E_ret rfl rfl ?_
  refine q _ (CR.sm hC (((up2_ne (by omega)).trans (up2_ne (by omega))).trans (CRS hC)) (fun t ht => ?_) (fun t k ht hk => ?_) (fun b j h1 h2 h3 => ((up2_ne (by omega)).trans (up2_ne (by omega))))) (fun b j hb => ((up2_ne (by omega)).trans (up2_ne (by omega))))
  · refine ⟨((up2_ne (by omega)).trans (up2_ne (by omega))).trans (CR_10 hC ht), ?_⟩
    by_cases g : t = s
    · subst g; rw [upf_eq]; exact up2_eq
    · rw [upf_ne g]; exact ((up2_sl g).trans (up2_ne (by omega))).trans (CR_11 hC ht)
  · refine (up2_ne (by omega)).trans ?_
    by_cases g : t = s
    · subst g
      rw [upf_eq] at hk
      rw [upf_eq]
      by_cases g2 : k = Sp R t
      · subst g2; rw [upf_eq]; exact up2_eq
      · rw [upf_ne g2]; exact (up2_sl (by omega)).trans (CR_12 hC ht (by omega) rfl)
    · rw [upf_ne g] at hk
      rw [upf_ne g]
      have := (hV.2.2.2.2.2.1 t ht).2
      exact (up2_sl (by omega)).trans (CR_12 hC ht hk rfl)
end
section
variable {len : Nat} {m0 : Mm} {Q : Option AV → Sx → Prop} {t l f n N1 N2 : Nat}
theorem l_takeRow (ht : kd t = (1, N1)) (hl : kd l = (1, N2)) (hf1 : f + n ≤ N1) (hf2 : f + n ≤ N2) (hN : N1 ≤ 100000) (q : ∀ (b : Bool) (m1 : Mm), Fx t t m0 m1 → (∀ j, j < f ∨ f + n ≤ j → m1 t j = m0 t j) → (∀ j, f ≤ j → j < f + n → m1 t j = m0 l j) → (b = false → ∀ j, m1 t j = m0 t j) → Q (some (aI (bi b))) (m1, tl len)) : ∀ (d : Nat) (i : Nat) (b : Bool) (m : Mm), (f + n < i + d) → (f ≤ i ∧ i ≤ f + n) → (Fx t t m0 m) → (∀ j, j < f ∨ i ≤ j → m t j = m0 t j) → (∀ j, f ≤ j → j < i → m t j = m0 l j) → (b = false → ∀ j, m t j = m0 t j) → E 65 6 [some (aA t), some (aA l), some (aI ((f : Nat) : Int)), some (aI ((n : Nat) : Int)), some (aI (bi b)), some (aI ((i : Nat) : Int))] [] (m, tl len) Q := by
  intro d
  induction d with
  | zero => intro i b m hd hi hF ho hw hb; omega
  | succ d ih =>
    intro i b m hd hi hF ho hw hb
    refine E_s (p' := 8) (st' := aI ((i : Nat) : Int) :: _) rfl rfl ?_
    refine E_s (p' := 9) (st' := aI ((f : Nat) : Int) :: _) rfl rfl ?_
    refine E_s (p' := 10) (st' := aI ((n : Nat) : Int) :: _) rfl rfl ?_
    refine E_add (v := ((f + n : Nat) : Int)) rfl (by omega) (by omega) ?_
    refine E_icmp_ge (x := ((i : Nat) : Int)) (y := ((f + n : Nat) : Int)) rfl (by decide) (fun h_1 => ?_) (fun h_1 => ?_)
    · refine E_go (p' := 49) (L' := [some (aA t), some (aA l), some (aI ((f : Nat) : Int)), some (aI ((n : Nat) : Int)), some (aI (bi b)), some (aI ((i : Nat) : Int))]) (st' := []) rfl rfl rfl ?_
      refine E_s (p' := 51) (st' := aI (bi b) :: _) rfl rfl ?_
      refine E_retB rfl rfl (bi01 _) ?_
      have ei : i = f + n := by omega
      subst ei
      exact q b m hF ho hw hb
    · refine E_go (p' := 14) (L' := [some (aA t), some (aA l), some (aI ((f : Nat) : Int)), some (aI ((n : Nat) : Int)), some (aI (bi b)), some (aI ((i : Nat) : Int))]) (st' := []) rfl rfl rfl ?_
      have hml : m l i = m0 l i := by
        by_cases g : l = t
        · subst g; exact ho i (by omega)
        · exact hF l i (by omega)
      refine E_s (p' := 16) (st' := aI (bi b) :: _) rfl rfl ?_
      refine E_s (p' := 17) (st' := aA t :: _) rfl rfl ?_
      refine E_s (p' := 19) (st' := aI ((i : Nat) : Int) :: _) rfl rfl ?_
      refine E_ald (e := i) (N := N1) (v := ((m t i))) rfl ht (rfl) (by omega) rfl ?_
      refine E_s (p' := 21) (st' := aA l :: _) rfl rfl ?_
      refine E_s (p' := 23) (st' := aI ((i : Nat) : Int) :: _) rfl rfl ?_
      refine E_ald (e := i) (N := N2) (v := ((m l i))) rfl hl (rfl) (by omega) rfl ?_
      suffices h_2 : E 65 32 [some (aA t), some (aA l), some (aI ((f : Nat) : Int)), some (aI ((n : Nat) : Int)), some (aI (bi b)), some (aI ((i : Nat) : Int))] [aI (bi (!decide (((m t i)) = ((m l i))))), aI (bi b)] (m, tl len) Q by
        refine E_icmp_eq (x := ((m t i))) (y := ((m l i))) rfl (by decide) (fun h_3 => ?_) (fun h_3 => ?_)
        · refine E_go (p' := 31) (L' := [some (aA t), some (aA l), some (aI ((f : Nat) : Int)), some (aI ((n : Nat) : Int)), some (aI (bi b)), some (aI ((i : Nat) : Int))]) (st' := [aI (bi b)]) rfl rfl rfl ?_
          refine E_s (p' := 32) (st' := aI 0 :: _) rfl rfl ?_
          rw [decide_eq_true (p := ((m t i)) = ((m l i))) (by omega)] at h_2
          exact h_2
        · refine E_go (p' := 27) (L' := [some (aA t), some (aA l), some (aI ((f : Nat) : Int)), some (aI ((n : Nat) : Int)), some (aI (bi b)), some (aI ((i : Nat) : Int))]) (st' := [aI (bi b)]) rfl rfl rfl ?_
          refine E_s (p' := 28) (st' := aI 1 :: _) rfl rfl ?_
          refine E_s (p' := 32) rfl rfl ?_
          rw [decide_eq_false (p := ((m t i)) = ((m l i))) (by omega)] at h_2
          exact h_2
      refine E_orb (x := b) (y := (!decide (((m t i)) = ((m l i))))) rfl ?_
      refine E_s (p' := 35) (L' := [some (aA t), some (aA l), some (aI ((f : Nat) : Int)), some (aI ((n : Nat) : Int)), some (aI (bi (b || (!decide (((m t i)) = ((m l i))))))), some (aI ((i : Nat) : Int))]) rfl rfl ?_
      refine E_s (p' := 36) (st' := aA t :: _) rfl rfl ?_
      refine E_s (p' := 38) (st' := aI ((i : Nat) : Int) :: _) rfl rfl ?_
      refine E_s (p' := 39) (st' := aA l :: _) rfl rfl ?_
      refine E_s (p' := 41) (st' := aI ((i : Nat) : Int) :: _) rfl rfl ?_
      refine E_ald (e := i) (N := N2) (v := ((m l i))) rfl hl (rfl) (by omega) rfl ?_
      refine E_ast (e := i) (N := N1) rfl ht (rfl) (by omega) ?_
      refine E_inc (x := ((i : Nat) : Int)) (w := ((i + 1 : Nat) : Int)) (L' := [some (aA t), some (aA l), some (aI ((f : Nat) : Int)), some (aI ((n : Nat) : Int)), some (aI (bi (b || (!decide (((m t i)) = ((m l i))))))), some (aI ((i + 1 : Nat) : Int))]) rfl rfl rfl (by omega) (by omega) rfl ?_
      refine E_s (p' := 6) rfl rfl ?_
      refine ih (i + 1) _ _ (by omega) (by omega) (hF.up (by omega) (by omega)) (fun j hj => ?_) (fun j h1 h2 => ?_) (fun hb2 j => ?_)
      · exact (up2_sl (by omega)).trans (ho j (by omega))
      · by_cases g : j = i
        · subst g; exact up2_eq.trans hml
        · exact (up2_sl g).trans (hw j h1 (by omega))
      · have hb3 := Bool.or_eq_false_iff.mp hb2
        by_cases g : j = i
        · subst g
          have he : m t j = m l j := by have := hb3.2; simpa using this
          exact up2_eq.trans (he.symm.trans (hb hb3.1 j))
        · exact (up2_sl g).trans (hb hb3.1 j)
theorem c_takeRow (ht : kd t = (1, N1)) (hl : kd l = (1, N2)) (hf1 : f + n ≤ N1) (hf2 : f + n ≤ N2) (hN : N1 ≤ 100000) (q : ∀ (b : Bool) (m1 : Mm), Fx t t m0 m1 → (∀ j, j < f ∨ f + n ≤ j → m1 t j = m0 t j) → (∀ j, f ≤ j → j < f + n → m1 t j = m0 l j) → (b = false → ∀ j, m1 t j = m0 t j) → Q (some (aI (bi b))) (m1, tl len)) : E 65 0 [some (aA t), some (aA l), some (aI ((f : Nat) : Int)), some (aI ((n : Nat) : Int)), none, none] [] (m0, tl len) Q := by
  refine E_s (p' := 1) (st' := aI 0 :: _) rfl rfl ?_
  refine E_s (p' := 3) (L' := [some (aA t), some (aA l), some (aI ((f : Nat) : Int)), some (aI ((n : Nat) : Int)), some (aI 0), none]) rfl rfl ?_
  refine E_s (p' := 4) (st' := aI ((f : Nat) : Int) :: _) rfl rfl ?_
  refine E_s (p' := 6) (L' := [some (aA t), some (aA l), some (aI ((f : Nat) : Int)), some (aI ((n : Nat) : Int)), some (aI 0), some (aI ((f : Nat) : Int))]) rfl rfl ?_
  exact l_takeRow ht hl hf1 hf2 hN q (n + 1) f false m0 (by omega) (by omega) Fx.rf (fun j _ => rfl) (fun j h1 h2 => absurd h1 (by omega)) (fun _ j => rfl)
end
