theorem Ctz_c (R : RD) (c : Nat) : (Ct R c = 0 ∧ Ctz R c = -1) ∨ (0 < Ct R c ∧ Ctz R c = (Ct R c : Int)) := by
  unfold Ctz
  by_cases h : Ct R c = 0
  · exact Or.inl ⟨h, if_pos h⟩
  · exact Or.inr ⟨by omega, if_neg h⟩
theorem MR.Fx {R : RD} {i lo hi : Nat} {m m' : Mm} (h : MR R i m) (hF : Fx lo hi m m') (hb : 139 < lo ∨ hi < 125) : MR R i m' := h.of (fun b j g1 g2 => hF b j (by omega))
section
variable {len : Nat} {m : Mm} {Q : Option AV → Sx → Prop} {S : Nat → RD} {r c l g o h s t : Int}
theorem M_knot (hS : MS S m) (q : ∀ m1, MS (on1 S r (-2) (oKnot c h s t)).2 m1 → Co1 m m1 → Q (some (aI (on1 S r (-2) (oKnot c h s t)).1)) (m1, tl len)) : E 136 0 [some (aA 124), some (aI (r)), some (aI (c)), some (aI (h)), some (aI (s)), some (aI (t)), none] [] (m, tl len) Q := by
  refine E_s (p' := 1) (st' := aA 124 :: _) rfl rfl ?_
  refine E_s (p' := 2) (st' := aI (r) :: _) rfl rfl ?_
  refine E_s (p' := 3) (st' := aI (c) :: _) rfl rfl ?_
  refine E_callV (k' := 135) (a := 124) (r := []) (L0 := [some (aA 124), some (aI (r)), some (aI (c))]) rfl rfl rfl rfl rfl rfl rfl rfl rfl rfl ?_
  refine m_isCord hS (fun i ci hi hr hc hcc => ?_) (fun hno => ?_)
  · refine E_go (p' := 6) (L' := [some (aA 124), some (aI (r)), some (aI (c)), some (aI (h)), some (aI (s)), some (aI (t)), none]) (st' := [aI 1]) rfl rfl rfl ?_
    obtain ⟨hV, hM⟩ := hS i hi
    have hn60 := hV.1
    have hs40 := hV.2.2.2.2.1
    subst hr hc
    refine E_s (p' := 9) rfl rfl ?_
    refine E_s (p' := 11) (st' := aI (s) :: _) rfl rfl ?_
    refine E_s (p' := 12) (st' := aI 0 :: _) rfl rfl ?_
    refine E_s (p' := 13) (st' := aI 2 :: _) rfl rfl ?_
    refine E_callL (p' := 16) (L0 := [some (aI (s)), some (aI 0), some (aI 2)]) rfl rfl rfl ?_
    refine m_in (fun h_1 h_2 => ?_) (fun h_3 => ?_)
    · refine E_go (p' := 16) (L' := [some (aA 124), some (aI ((i : Nat) : Int)), some (aI ((ci : Nat) : Int)), some (aI (h)), some (aI (s)), some (aI (t)), none]) (st' := [aI 1]) rfl rfl rfl ?_
      refine E_s (p' := 19) rfl rfl ?_
      refine E_s (p' := 21) (st' := aI (s) :: _) rfl rfl ?_
      refine E_s (p' := 22) (st' := aI 1 :: _) rfl rfl ?_
      refine E_icmp_ne (x := (s)) (y := 1) rfl (by decide) (fun h_4 => ?_) (fun h_4 => ?_)
      · refine E_go (p' := 39) (L' := [some (aA 124), some (aI ((i : Nat) : Int)), some (aI ((ci : Nat) : Int)), some (aI (h)), some (aI (s)), some (aI (t)), none]) (st' := []) rfl rfl rfl ?_
        refine E_s (p' := 41) (st' := aI (t) :: _) rfl rfl ?_
        refine E_if_eq (x := (t)) rfl (by decide) (fun h_5 => ?_) (fun h_5 => ?_)
        · refine E_go (p' := 47) (L' := [some (aA 124), some (aI ((i : Nat) : Int)), some (aI ((ci : Nat) : Int)), some (aI (h)), some (aI (s)), some (aI (t)), none]) (st' := []) rfl rfl rfl ?_
          have hctz := Ctz_c (S i) ci
          obtain ⟨⟨vg1, vg2⟩, ⟨vo1, vo2⟩, vc1, ⟨vl1, vl2⟩, vt1, vk1⟩ := hV.2.2.1 ci hcc
          refine E_s (p' := 49) (st' := aI 60 :: _) rfl rfl ?_
          refine E_s (p' := 50) (st' := aI ((i : Nat) : Int) :: _) rfl rfl ?_
          refine E_mul (v := ((60 * i : Nat) : Int)) rfl (by omega) (by omega) ?_
          refine E_s (p' := 52) (st' := aI ((ci : Nat) : Int) :: _) rfl rfl ?_
          refine E_add (v := ((60 * i + ci : Nat) : Int)) rfl (by omega) (by omega) ?_
          refine E_s (p' := 55) (L' := [some (aA 124), some (aI ((i : Nat) : Int)), some (aI ((ci : Nat) : Int)), some (aI (h)), some (aI (s)), some (aI (t)), some (aI ((60 * i + ci : Nat) : Int))]) rfl rfl ?_
          refine E_s (p' := 56) (st' := aI (h) :: _) rfl rfl ?_
          refine E_s (p' := 57) (st' := aI 1 :: _) rfl rfl ?_
          refine E_s (p' := 58) (st' := aA 124 :: _) rfl rfl ?_
          refine E_gA (b := 130) rfl rfl rfl rfl rfl rfl ?_
          refine E_s (p' := 63) (st' := aI ((60 * i + ci : Nat) : Int) :: _) rfl rfl ?_
          refine E_ald (e := 60 * i + ci) (N := 240) (v := ((Cl (S i) ci : Nat) : Int)) rfl rfl (rfl) (by omega) (MR_130 hM (by omega) (by omega)) ?_
          refine E_callL (p' := 67) (L0 := [some (aI (h)), some (aI 1), some (aI ((Cl (S i) ci : Nat) : Int))]) rfl rfl rfl ?_
          refine m_in (fun h_6 h_7 => ?_) (fun h_8 => ?_)
          · refine E_go (p' := 67) (L' := [some (aA 124), some (aI ((i : Nat) : Int)), some (aI ((ci : Nat) : Int)), some (aI (h)), some (aI (s)), some (aI (t)), some (aI ((60 * i + ci : Nat) : Int))]) (st' := [aI 1]) rfl rfl rfl ?_
            refine E_s (p' := 70) rfl rfl ?_
            refine E_s (p' := 71) (st' := aA 124 :: _) rfl rfl ?_
            refine E_s (p' := 73) (st' := aI ((60 * i + ci : Nat) : Int) :: _) rfl rfl ?_
            refine E_s (p' := 74) (st' := aI (h) :: _) rfl rfl ?_
            refine E_callV (k' := 137) (a := 124) (r := []) (L0 := [some (aA 124), some (aI ((60 * i + ci : Nat) : Int)), some (aI (h)), none]) rfl rfl rfl rfl rfl rfl rfl rfl rfl rfl ?_
            refine m_find hi hM hV hcc (fun k1 hk1 hk2 => ?_) (fun hnf => ?_)
            · refine E_go (p' := 77) (L' := [some (aA 124), some (aI ((i : Nat) : Int)), some (aI ((ci : Nat) : Int)), some (aI (h)), some (aI (s)), some (aI (t)), some (aI ((60 * i + ci : Nat) : Int))]) (st' := [aI ((k1 : Nat) : Int)]) rfl rfl rfl ?_
              refine E_s (p' := 78) (st' := aI (-1) :: _) rfl rfl ?_
              refine E_icmp_ne (x := ((k1 : Nat) : Int)) (y := (-1)) rfl (by decide) (fun h_9 => ?_) (fun q => absurd q (by omega))
              refine E_go (p' := 103) (L' := [some (aA 124), some (aI ((i : Nat) : Int)), some (aI ((ci : Nat) : Int)), some (aI (h)), some (aI (s)), some (aI (t)), some (aI ((60 * i + ci : Nat) : Int))]) (st' := []) rfl rfl rfl ?_
              refine E_s (p' := 105) (st' := aI (-2) :: _) rfl rfl ?_
              refine E_ret rfl rfl ?_
              exact finM_same hS hi rfl q (by unfold oKnot; (try simp only [Int.toNat_natCast]); rw [cif_neg (by first | exact fun g9 => absurd g9.2.1 (by unfold kind; omega) | exact fun g9 => absurd g9.2.2.1 (by unfold whl; omega) | exact fun g9 => g9.2.2.2 ⟨k1, hk1, hk2⟩)]) hS (fun _ _ _ => rfl)
            · refine E_go (p' := 77) (L' := [some (aA 124), some (aI ((i : Nat) : Int)), some (aI ((ci : Nat) : Int)), some (aI (h)), some (aI (s)), some (aI (t)), some (aI ((60 * i + ci : Nat) : Int))]) (st' := [aI (-1)]) rfl rfl rfl ?_
              refine E_s (p' := 78) (st' := aI (-1) :: _) rfl rfl ?_
              refine E_s (p' := 81) rfl rfl ?_
              refine E_s (p' := 82) (st' := aA 124 :: _) rfl rfl ?_
              refine E_gA (b := 131) rfl rfl rfl rfl rfl rfl ?_
              refine E_s (p' := 87) (st' := aI ((60 * i + ci : Nat) : Int) :: _) rfl rfl ?_
              refine E_ald (e := 60 * i + ci) (N := 240) (v := (((Ctz (S i) ci)))) rfl rfl (rfl) (by omega) (MR_131 hM (by omega) (by omega)) ?_
              refine E_s (p' := 89) (st' := aI (-1) :: _) rfl rfl ?_
              refine E_icmp_eq (x := (((Ctz (S i) ci)))) (y := (-1)) rfl (by decide) (fun h_10 => ?_) (fun h_10 => ?_)
              · refine E_go (p' := 106) (L' := [some (aA 124), some (aI ((i : Nat) : Int)), some (aI ((ci : Nat) : Int)), some (aI (h)), some (aI (s)), some (aI (t)), some (aI ((60 * i + ci : Nat) : Int))]) (st' := []) rfl rfl rfl ?_
                refine E_s (p' := 107) (st' := aA 124 :: _) rfl rfl ?_
                refine E_gA (b := 132) rfl rfl rfl rfl rfl rfl ?_
                refine E_s (p' := 112) (st' := aI ((60 * i + ci : Nat) : Int) :: _) rfl rfl ?_
                refine E_ald (e := 60 * i + ci) (N := 240) (v := ((Ck (S i) ci : Nat) : Int)) rfl rfl (rfl) (by omega) (MR_132 hM (by omega) (by omega)) ?_
                refine E_s (p' := 115) (st' := aI 30 :: _) rfl rfl ?_
                refine E_icmp_ne (x := ((Ck (S i) ci : Nat) : Int)) (y := 30) rfl (by decide) (fun h_11 => ?_) (fun h_11 => ?_)
                · refine E_go (p' := 121) (L' := [some (aA 124), some (aI ((i : Nat) : Int)), some (aI ((ci : Nat) : Int)), some (aI (h)), some (aI (s)), some (aI (t)), some (aI ((60 * i + ci : Nat) : Int))]) (st' := []) rfl rfl rfl ?_
                  have hw1 : whl (S i) ci h := by unfold whl; omega
                  have hkd : kind s t := by unfold kind; omega
                  obtain ⟨hn, eh⟩ : ∃ x : Nat, h = (x : Int) := ⟨h.toNat, by omega⟩
                  obtain ⟨sn, es⟩ : ∃ x : Nat, s = (x : Int) := ⟨s.toNat, by omega⟩
                  obtain ⟨tn, et⟩ : ∃ x : Nat, t = (x : Int) := ⟨t.toNat, by unfold kind at hkd; omega⟩
                  subst eh es et
                  have hb3 : hn ≤ 600 ∧ sn < 4 ∧ tn < 16 ∧ 1 ≤ hn := by unfold kind at hkd; omega
                  have eht := pck_ht (h := hn) (s := sn) (t := tn) hb3.2.1 hb3.2.2.1
                  refine E_s (p' := 122) (st' := aA 124 :: _) rfl rfl ?_
                  refine E_s (p' := 124) (st' := aI ((60 * i + ci : Nat) : Int) :: _) rfl rfl ?_
                  refine E_s (p' := 125) (st' := aI ((hn : Nat) : Int) :: _) rfl rfl ?_
                  refine E_s (p' := 127) (st' := aI ((sn : Nat) : Int) :: _) rfl rfl ?_
                  refine E_s (p' := 129) (st' := aI ((tn : Nat) : Int) :: _) rfl rfl ?_
                  refine E_callV (k' := 138) (a := 124) (r := []) (L0 := [some (aA 124), some (aI ((60 * i + ci : Nat) : Int)), some (aI ((hn : Nat) : Int)), some (aI ((sn : Nat) : Int)), some (aI ((tn : Nat) : Int)), none]) rfl rfl rfl rfl rfl rfl rfl rfl rfl rfl ?_
                  refine m_put hi hM hV hcc (by omega) hb3.2.1 hb3.2.2.1 (fun k hk e => hnf k hk (by omega)) (fun m1 hM1 hx1 hF1 => ?_)
                  refine E_go (p' := 132) (L' := [some (aA 124), some (aI ((i : Nat) : Int)), some (aI ((ci : Nat) : Int)), some (aI ((hn : Nat) : Int)), some (aI ((sn : Nat) : Int)), some (aI ((tn : Nat) : Int)), some (aI ((60 * i + ci : Nat) : Int))]) (st' := []) rfl rfl rfl ?_
                  refine E_s (p' := 133) (st' := aA 124 :: _) rfl rfl ?_
                  refine E_s (p' := 134) (st' := aI ((i : Nat) : Int) :: _) rfl rfl ?_
                  refine E_callV (k' := 133) (a := 124) (r := []) (L0 := [some (aA 124), some (aI ((i : Nat) : Int))]) rfl rfl rfl rfl rfl rfl rfl rfl rfl rfl ?_
                  refine m_changes (i := i) (by omega) ?_
                  refine E_go (p' := 137) (L' := [some (aA 124), some (aI ((i : Nat) : Int)), some (aI ((ci : Nat) : Int)), some (aI ((hn : Nat) : Int)), some (aI ((sn : Nat) : Int)), some (aI ((tn : Nat) : Int)), some (aI ((60 * i + ci : Nat) : Int))]) (st' := []) rfl rfl rfl ?_
                  refine E_s (p' := 138) (st' := aA 124 :: _) rfl rfl ?_
                  refine E_gA (b := 132) rfl rfl rfl rfl rfl rfl ?_
                  refine E_s (p' := 143) (st' := aI ((60 * i + ci : Nat) : Int) :: _) rfl rfl ?_
                  refine E_ald (e := 60 * i + ci) (N := 240) (v := ((Ck (S i) ci + 1 : Nat) : Int)) rfl rfl (rfl) (by omega) ((up2_ne (by omega)).trans (((MR_132 hM1 hcc rfl).trans (by show ((upf (Ck (S i)) ci (Ck (S i) ci + 1) ci : Nat) : Int) = _; rw [upf_eq])))) ?_
                  refine E_ret rfl rfl ?_
                  have hps := posn_sp (Cp (S i) ci) hn (Ck (S i) ci)
                  exact finMx hS hi rfl q (by unfold oKnot; simp only [Int.toNat_natCast]; rw [cif_pos ⟨(by unfold inC; omega), hkd, hw1, (fun ⟨k, hk, e⟩ => hnf k hk e)⟩, cif_neg (by omega)]) (V_ins hV hcc (by omega) (by unfold kok; rw [pck_so hb3.2.1 hb3.2.2.1, pck_tu hb3.2.2.1]; unfold kind at hkd; omega) (by rw [eht]; unfold whl at hw1; omega) (fun k hk e => hnf k hk (by rw [e, eht])) (posn_le _ _ _) (by rw [eht]; exact hps.1) (by rw [eht]; exact hps.2)) (hM1.of (fun b j g1 g2 => up2_ne (by omega))) (hx1.up (by unfold blk; omega)) (fun b j hb => (up2_ne (by omega)).trans (hF1 _ _ (by omega)))
                · refine E_go (p' := 118) (L' := [some (aA 124), some (aI ((i : Nat) : Int)), some (aI ((ci : Nat) : Int)), some (aI (h)), some (aI (s)), some (aI (t)), some (aI ((60 * i + ci : Nat) : Int))]) (st' := []) rfl rfl rfl ?_
                  refine E_s (p' := 120) (st' := aI (-3) :: _) rfl rfl ?_
                  refine E_ret rfl rfl ?_
                  exact finM_same hS hi rfl q (by unfold oKnot; (try simp only [Int.toNat_natCast]); rw [cif_pos ⟨(by unfold inC; omega), (by unfold kind; omega), (by unfold whl; omega), (fun ⟨k, hk, e⟩ => hnf k hk e)⟩, cif_pos (by omega)]) hS (fun _ _ _ => rfl)
              · refine E_go (p' := 92) (L' := [some (aA 124), some (aI ((i : Nat) : Int)), some (aI ((ci : Nat) : Int)), some (aI (h)), some (aI (s)), some (aI (t)), some (aI ((60 * i + ci : Nat) : Int))]) (st' := []) rfl rfl rfl ?_
                refine E_s (p' := 93) (st' := aI (h) :: _) rfl rfl ?_
                refine E_s (p' := 94) (st' := aA 124 :: _) rfl rfl ?_
                refine E_gA (b := 131) rfl rfl rfl rfl rfl rfl ?_
                refine E_s (p' := 99) (st' := aI ((60 * i + ci : Nat) : Int) :: _) rfl rfl ?_
                refine E_ald (e := 60 * i + ci) (N := 240) (v := (((Ctz (S i) ci)))) rfl rfl (rfl) (by omega) (MR_131 hM (by omega) (by omega)) ?_
                refine E_icmp_lt (x := (h)) (y := (((Ctz (S i) ci)))) rfl (by decide) (fun h_12 => ?_) (fun h_12 => ?_)
                · refine E_go (p' := 106) (L' := [some (aA 124), some (aI ((i : Nat) : Int)), some (aI ((ci : Nat) : Int)), some (aI (h)), some (aI (s)), some (aI (t)), some (aI ((60 * i + ci : Nat) : Int))]) (st' := []) rfl rfl rfl ?_
                  refine E_s (p' := 107) (st' := aA 124 :: _) rfl rfl ?_
                  refine E_gA (b := 132) rfl rfl rfl rfl rfl rfl ?_
                  refine E_s (p' := 112) (st' := aI ((60 * i + ci : Nat) : Int) :: _) rfl rfl ?_
                  refine E_ald (e := 60 * i + ci) (N := 240) (v := ((Ck (S i) ci : Nat) : Int)) rfl rfl (rfl) (by omega) (MR_132 hM (by omega) (by omega)) ?_
                  refine E_s (p' := 115) (st' := aI 30 :: _) rfl rfl ?_
                  refine E_icmp_ne (x := ((Ck (S i) ci : Nat) : Int)) (y := 30) rfl (by decide) (fun h_13 => ?_) (fun h_13 => ?_)
                  · refine E_go (p' := 121) (L' := [some (aA 124), some (aI ((i : Nat) : Int)), some (aI ((ci : Nat) : Int)), some (aI (h)), some (aI (s)), some (aI (t)), some (aI ((60 * i + ci : Nat) : Int))]) (st' := []) rfl rfl rfl ?_
                    have hw1 : whl (S i) ci h := by unfold whl; omega
                    have hkd : kind s t := by unfold kind; omega
                    obtain ⟨hn, eh⟩ : ∃ x : Nat, h = (x : Int) := ⟨h.toNat, by omega⟩
                    obtain ⟨sn, es⟩ : ∃ x : Nat, s = (x : Int) := ⟨s.toNat, by omega⟩
                    obtain ⟨tn, et⟩ : ∃ x : Nat, t = (x : Int) := ⟨t.toNat, by unfold kind at hkd; omega⟩
                    subst eh es et
                    have hb3 : hn ≤ 600 ∧ sn < 4 ∧ tn < 16 ∧ 1 ≤ hn := by unfold kind at hkd; omega
                    have eht := pck_ht (h := hn) (s := sn) (t := tn) hb3.2.1 hb3.2.2.1
                    refine E_s (p' := 122) (st' := aA 124 :: _) rfl rfl ?_
                    refine E_s (p' := 124) (st' := aI ((60 * i + ci : Nat) : Int) :: _) rfl rfl ?_
                    refine E_s (p' := 125) (st' := aI ((hn : Nat) : Int) :: _) rfl rfl ?_
                    refine E_s (p' := 127) (st' := aI ((sn : Nat) : Int) :: _) rfl rfl ?_
                    refine E_s (p' := 129) (st' := aI ((tn : Nat) : Int) :: _) rfl rfl ?_
                    refine E_callV (k' := 138) (a := 124) (r := []) (L0 := [some (aA 124), some (aI ((60 * i + ci : Nat) : Int)), some (aI ((hn : Nat) : Int)), some (aI ((sn : Nat) : Int)), some (aI ((tn : Nat) : Int)), none]) rfl rfl rfl rfl rfl rfl rfl rfl rfl rfl ?_
                    refine m_put hi hM hV hcc (by omega) hb3.2.1 hb3.2.2.1 (fun k hk e => hnf k hk (by omega)) (fun m1 hM1 hx1 hF1 => ?_)
                    refine E_go (p' := 132) (L' := [some (aA 124), some (aI ((i : Nat) : Int)), some (aI ((ci : Nat) : Int)), some (aI ((hn : Nat) : Int)), some (aI ((sn : Nat) : Int)), some (aI ((tn : Nat) : Int)), some (aI ((60 * i + ci : Nat) : Int))]) (st' := []) rfl rfl rfl ?_
                    refine E_s (p' := 133) (st' := aA 124 :: _) rfl rfl ?_
                    refine E_s (p' := 134) (st' := aI ((i : Nat) : Int) :: _) rfl rfl ?_
                    refine E_callV (k' := 133) (a := 124) (r := []) (L0 := [some (aA 124), some (aI ((i : Nat) : Int))]) rfl rfl rfl rfl rfl rfl rfl rfl rfl rfl ?_
                    refine m_changes (i := i) (by omega) ?_
                    refine E_go (p' := 137) (L' := [some (aA 124), some (aI ((i : Nat) : Int)), some (aI ((ci : Nat) : Int)), some (aI ((hn : Nat) : Int)), some (aI ((sn : Nat) : Int)), some (aI ((tn : Nat) : Int)), some (aI ((60 * i + ci : Nat) : Int))]) (st' := []) rfl rfl rfl ?_
                    refine E_s (p' := 138) (st' := aA 124 :: _) rfl rfl ?_
                    refine E_gA (b := 132) rfl rfl rfl rfl rfl rfl ?_
                    refine E_s (p' := 143) (st' := aI ((60 * i + ci : Nat) : Int) :: _) rfl rfl ?_
                    refine E_ald (e := 60 * i + ci) (N := 240) (v := ((Ck (S i) ci + 1 : Nat) : Int)) rfl rfl (rfl) (by omega) ((up2_ne (by omega)).trans (((MR_132 hM1 hcc rfl).trans (by show ((upf (Ck (S i)) ci (Ck (S i) ci + 1) ci : Nat) : Int) = _; rw [upf_eq])))) ?_
                    refine E_ret rfl rfl ?_
                    have hps := posn_sp (Cp (S i) ci) hn (Ck (S i) ci)
                    exact finMx hS hi rfl q (by unfold oKnot; simp only [Int.toNat_natCast]; rw [cif_pos ⟨(by unfold inC; omega), hkd, hw1, (fun ⟨k, hk, e⟩ => hnf k hk e)⟩, cif_neg (by omega)]) (V_ins hV hcc (by omega) (by unfold kok; rw [pck_so hb3.2.1 hb3.2.2.1, pck_tu hb3.2.2.1]; unfold kind at hkd; omega) (by rw [eht]; unfold whl at hw1; omega) (fun k hk e => hnf k hk (by rw [e, eht])) (posn_le _ _ _) (by rw [eht]; exact hps.1) (by rw [eht]; exact hps.2)) (hM1.of (fun b j g1 g2 => up2_ne (by omega))) (hx1.up (by unfold blk; omega)) (fun b j hb => (up2_ne (by omega)).trans (hF1 _ _ (by omega)))
                  · refine E_go (p' := 118) (L' := [some (aA 124), some (aI ((i : Nat) : Int)), some (aI ((ci : Nat) : Int)), some (aI (h)), some (aI (s)), some (aI (t)), some (aI ((60 * i + ci : Nat) : Int))]) (st' := []) rfl rfl rfl ?_
                    refine E_s (p' := 120) (st' := aI (-3) :: _) rfl rfl ?_
                    refine E_ret rfl rfl ?_
                    exact finM_same hS hi rfl q (by unfold oKnot; (try simp only [Int.toNat_natCast]); rw [cif_pos ⟨(by unfold inC; omega), (by unfold kind; omega), (by unfold whl; omega), (fun ⟨k, hk, e⟩ => hnf k hk e)⟩, cif_pos (by omega)]) hS (fun _ _ _ => rfl)
                · refine E_go (p' := 103) (L' := [some (aA 124), some (aI ((i : Nat) : Int)), some (aI ((ci : Nat) : Int)), some (aI (h)), some (aI (s)), some (aI (t)), some (aI ((60 * i + ci : Nat) : Int))]) (st' := []) rfl rfl rfl ?_
                  refine E_s (p' := 105) (st' := aI (-2) :: _) rfl rfl ?_
                  refine E_ret rfl rfl ?_
                  exact finM_same hS hi rfl q (by unfold oKnot; (try simp only [Int.toNat_natCast]); rw [cif_neg (by first | exact fun g9 => absurd g9.2.1 (by unfold kind; omega) | exact fun g9 => absurd g9.2.2.1 (by unfold whl; omega) | exact fun g9 => g9.2.2.2 ⟨k1, hk1, hk2⟩)]) hS (fun _ _ _ => rfl)
          · refine E_go (p' := 67) (L' := [some (aA 124), some (aI ((i : Nat) : Int)), some (aI ((ci : Nat) : Int)), some (aI (h)), some (aI (s)), some (aI (t)), some (aI ((60 * i + ci : Nat) : Int))]) (st' := [aI 0]) rfl rfl rfl ?_
            refine E_s (p' := 103) rfl rfl ?_
            refine E_s (p' := 105) (st' := aI (-2) :: _) rfl rfl ?_
            refine E_ret rfl rfl ?_
            exact finM_same hS hi rfl q (by unfold oKnot; (try simp only [Int.toNat_natCast]); rw [cif_neg (by first | exact fun g9 => absurd g9.2.1 (by unfold kind; omega) | exact fun g9 => absurd g9.2.2.1 (by unfold whl; omega) | exact fun g9 => g9.2.2.2 ⟨k1, hk1, hk2⟩)]) hS (fun _ _ _ => rfl)
        · refine E_go (p' := 44) (L' := [some (aA 124), some (aI ((i : Nat) : Int)), some (aI ((ci : Nat) : Int)), some (aI (h)), some (aI (s)), some (aI (t)), none]) (st' := []) rfl rfl rfl ?_
          refine E_s (p' := 46) (st' := aI (-2) :: _) rfl rfl ?_
          refine E_ret rfl rfl ?_
          exact finM_same hS hi rfl q (by unfold oKnot; (try simp only [Int.toNat_natCast]); rw [cif_neg (by first | exact fun g9 => absurd g9.2.1 (by unfold kind; omega) | exact fun g9 => absurd g9.2.2.1 (by unfold whl; omega) | exact fun g9 => g9.2.2.2 ⟨k1, hk1, hk2⟩)]) hS (fun _ _ _ => rfl)
      · refine E_go (p' := 25) (L' := [some (aA 124), some (aI ((i : Nat) : Int)), some (aI ((ci : Nat) : Int)), some (aI (h)), some (aI (s)), some (aI (t)), none]) (st' := []) rfl rfl rfl ?_
        refine E_s (p' := 27) (st' := aI (t) :: _) rfl rfl ?_
        refine E_s (p' := 28) (st' := aI 2 :: _) rfl rfl ?_
        refine E_s (p' := 30) (st' := aI 9 :: _) rfl rfl ?_
        refine E_callL (p' := 33) (L0 := [some (aI (t)), some (aI 2), some (aI 9)]) rfl rfl rfl ?_
        refine m_in (fun h_14 h_15 => ?_) (fun h_16 => ?_)
        · refine E_go (p' := 33) (L' := [some (aA 124), some (aI ((i : Nat) : Int)), some (aI ((ci : Nat) : Int)), some (aI (h)), some (aI (s)), some (aI (t)), none]) (st' := [aI 1]) rfl rfl rfl ?_
          refine E_s (p' := 47) rfl rfl ?_
          have hctz := Ctz_c (S i) ci
          obtain ⟨⟨vg1, vg2⟩, ⟨vo1, vo2⟩, vc1, ⟨vl1, vl2⟩, vt1, vk1⟩ := hV.2.2.1 ci hcc
          refine E_s (p' := 49) (st' := aI 60 :: _) rfl rfl ?_
          refine E_s (p' := 50) (st' := aI ((i : Nat) : Int) :: _) rfl rfl ?_
          refine E_mul (v := ((60 * i : Nat) : Int)) rfl (by omega) (by omega) ?_
          refine E_s (p' := 52) (st' := aI ((ci : Nat) : Int) :: _) rfl rfl ?_
          refine E_add (v := ((60 * i + ci : Nat) : Int)) rfl (by omega) (by omega) ?_
          refine E_s (p' := 55) (L' := [some (aA 124), some (aI ((i : Nat) : Int)), some (aI ((ci : Nat) : Int)), some (aI (h)), some (aI (s)), some (aI (t)), some (aI ((60 * i + ci : Nat) : Int))]) rfl rfl ?_
          refine E_s (p' := 56) (st' := aI (h) :: _) rfl rfl ?_
          refine E_s (p' := 57) (st' := aI 1 :: _) rfl rfl ?_
          refine E_s (p' := 58) (st' := aA 124 :: _) rfl rfl ?_
          refine E_gA (b := 130) rfl rfl rfl rfl rfl rfl ?_
          refine E_s (p' := 63) (st' := aI ((60 * i + ci : Nat) : Int) :: _) rfl rfl ?_
          refine E_ald (e := 60 * i + ci) (N := 240) (v := ((Cl (S i) ci : Nat) : Int)) rfl rfl (rfl) (by omega) (MR_130 hM (by omega) (by omega)) ?_
          refine E_callL (p' := 67) (L0 := [some (aI (h)), some (aI 1), some (aI ((Cl (S i) ci : Nat) : Int))]) rfl rfl rfl ?_
          refine m_in (fun h_17 h_18 => ?_) (fun h_19 => ?_)
          · refine E_go (p' := 67) (L' := [some (aA 124), some (aI ((i : Nat) : Int)), some (aI ((ci : Nat) : Int)), some (aI (h)), some (aI (s)), some (aI (t)), some (aI ((60 * i + ci : Nat) : Int))]) (st' := [aI 1]) rfl rfl rfl ?_
            refine E_s (p' := 70) rfl rfl ?_
            refine E_s (p' := 71) (st' := aA 124 :: _) rfl rfl ?_
            refine E_s (p' := 73) (st' := aI ((60 * i + ci : Nat) : Int) :: _) rfl rfl ?_
            refine E_s (p' := 74) (st' := aI (h) :: _) rfl rfl ?_
            refine E_callV (k' := 137) (a := 124) (r := []) (L0 := [some (aA 124), some (aI ((60 * i + ci : Nat) : Int)), some (aI (h)), none]) rfl rfl rfl rfl rfl rfl rfl rfl rfl rfl ?_
            refine m_find hi hM hV hcc (fun k1 hk1 hk2 => ?_) (fun hnf => ?_)
            · refine E_go (p' := 77) (L' := [some (aA 124), some (aI ((i : Nat) : Int)), some (aI ((ci : Nat) : Int)), some (aI (h)), some (aI (s)), some (aI (t)), some (aI ((60 * i + ci : Nat) : Int))]) (st' := [aI ((k1 : Nat) : Int)]) rfl rfl rfl ?_
              refine E_s (p' := 78) (st' := aI (-1) :: _) rfl rfl ?_
              refine E_icmp_ne (x := ((k1 : Nat) : Int)) (y := (-1)) rfl (by decide) (fun h_20 => ?_) (fun q => absurd q (by omega))
              refine E_go (p' := 103) (L' := [some (aA 124), some (aI ((i : Nat) : Int)), some (aI ((ci : Nat) : Int)), some (aI (h)), some (aI (s)), some (aI (t)), some (aI ((60 * i + ci : Nat) : Int))]) (st' := []) rfl rfl rfl ?_
              refine E_s (p' := 105) (st' := aI (-2) :: _) rfl rfl ?_
              refine E_ret rfl rfl ?_
              exact finM_same hS hi rfl q (by unfold oKnot; (try simp only [Int.toNat_natCast]); rw [cif_neg (by first | exact fun g9 => absurd g9.2.1 (by unfold kind; omega) | exact fun g9 => absurd g9.2.2.1 (by unfold whl; omega) | exact fun g9 => g9.2.2.2 ⟨k1, hk1, hk2⟩)]) hS (fun _ _ _ => rfl)
            · refine E_go (p' := 77) (L' := [some (aA 124), some (aI ((i : Nat) : Int)), some (aI ((ci : Nat) : Int)), some (aI (h)), some (aI (s)), some (aI (t)), some (aI ((60 * i + ci : Nat) : Int))]) (st' := [aI (-1)]) rfl rfl rfl ?_
              refine E_s (p' := 78) (st' := aI (-1) :: _) rfl rfl ?_
              refine E_s (p' := 81) rfl rfl ?_
              refine E_s (p' := 82) (st' := aA 124 :: _) rfl rfl ?_
              refine E_gA (b := 131) rfl rfl rfl rfl rfl rfl ?_
              refine E_s (p' := 87) (st' := aI ((60 * i + ci : Nat) : Int) :: _) rfl rfl ?_
              refine E_ald (e := 60 * i + ci) (N := 240) (v := (((Ctz (S i) ci)))) rfl rfl (rfl) (by omega) (MR_131 hM (by omega) (by omega)) ?_
              refine E_s (p' := 89) (st' := aI (-1) :: _) rfl rfl ?_
              refine E_icmp_eq (x := (((Ctz (S i) ci)))) (y := (-1)) rfl (by decide) (fun h_21 => ?_) (fun h_21 => ?_)
              · refine E_go (p' := 106) (L' := [some (aA 124), some (aI ((i : Nat) : Int)), some (aI ((ci : Nat) : Int)), some (aI (h)), some (aI (s)), some (aI (t)), some (aI ((60 * i + ci : Nat) : Int))]) (st' := []) rfl rfl rfl ?_
                refine E_s (p' := 107) (st' := aA 124 :: _) rfl rfl ?_
                refine E_gA (b := 132) rfl rfl rfl rfl rfl rfl ?_
                refine E_s (p' := 112) (st' := aI ((60 * i + ci : Nat) : Int) :: _) rfl rfl ?_
                refine E_ald (e := 60 * i + ci) (N := 240) (v := ((Ck (S i) ci : Nat) : Int)) rfl rfl (rfl) (by omega) (MR_132 hM (by omega) (by omega)) ?_
                refine E_s (p' := 115) (st' := aI 30 :: _) rfl rfl ?_
                refine E_icmp_ne (x := ((Ck (S i) ci : Nat) : Int)) (y := 30) rfl (by decide) (fun h_22 => ?_) (fun h_22 => ?_)
                · refine E_go (p' := 121) (L' := [some (aA 124), some (aI ((i : Nat) : Int)), some (aI ((ci : Nat) : Int)), some (aI (h)), some (aI (s)), some (aI (t)), some (aI ((60 * i + ci : Nat) : Int))]) (st' := []) rfl rfl rfl ?_
                  have hw1 : whl (S i) ci h := by unfold whl; omega
                  have hkd : kind s t := by unfold kind; omega
                  obtain ⟨hn, eh⟩ : ∃ x : Nat, h = (x : Int) := ⟨h.toNat, by omega⟩
                  obtain ⟨sn, es⟩ : ∃ x : Nat, s = (x : Int) := ⟨s.toNat, by omega⟩
                  obtain ⟨tn, et⟩ : ∃ x : Nat, t = (x : Int) := ⟨t.toNat, by unfold kind at hkd; omega⟩
                  subst eh es et
                  have hb3 : hn ≤ 600 ∧ sn < 4 ∧ tn < 16 ∧ 1 ≤ hn := by unfold kind at hkd; omega
                  have eht := pck_ht (h := hn) (s := sn) (t := tn) hb3.2.1 hb3.2.2.1
                  refine E_s (p' := 122) (st' := aA 124 :: _) rfl rfl ?_
                  refine E_s (p' := 124) (st' := aI ((60 * i + ci : Nat) : Int) :: _) rfl rfl ?_
                  refine E_s (p' := 125) (st' := aI ((hn : Nat) : Int) :: _) rfl rfl ?_
                  refine E_s (p' := 127) (st' := aI ((sn : Nat) : Int) :: _) rfl rfl ?_
                  refine E_s (p' := 129) (st' := aI ((tn : Nat) : Int) :: _) rfl rfl ?_
                  refine E_callV (k' := 138) (a := 124) (r := []) (L0 := [some (aA 124), some (aI ((60 * i + ci : Nat) : Int)), some (aI ((hn : Nat) : Int)), some (aI ((sn : Nat) : Int)), some (aI ((tn : Nat) : Int)), none]) rfl rfl rfl rfl rfl rfl rfl rfl rfl rfl ?_
                  refine m_put hi hM hV hcc (by omega) hb3.2.1 hb3.2.2.1 (fun k hk e => hnf k hk (by omega)) (fun m1 hM1 hx1 hF1 => ?_)
                  refine E_go (p' := 132) (L' := [some (aA 124), some (aI ((i : Nat) : Int)), some (aI ((ci : Nat) : Int)), some (aI ((hn : Nat) : Int)), some (aI ((sn : Nat) : Int)), some (aI ((tn : Nat) : Int)), some (aI ((60 * i + ci : Nat) : Int))]) (st' := []) rfl rfl rfl ?_
                  refine E_s (p' := 133) (st' := aA 124 :: _) rfl rfl ?_
                  refine E_s (p' := 134) (st' := aI ((i : Nat) : Int) :: _) rfl rfl ?_
                  refine E_callV (k' := 133) (a := 124) (r := []) (L0 := [some (aA 124), some (aI ((i : Nat) : Int))]) rfl rfl rfl rfl rfl rfl rfl rfl rfl rfl ?_
                  refine m_changes (i := i) (by omega) ?_
                  refine E_go (p' := 137) (L' := [some (aA 124), some (aI ((i : Nat) : Int)), some (aI ((ci : Nat) : Int)), some (aI ((hn : Nat) : Int)), some (aI ((sn : Nat) : Int)), some (aI ((tn : Nat) : Int)), some (aI ((60 * i + ci : Nat) : Int))]) (st' := []) rfl rfl rfl ?_
                  refine E_s (p' := 138) (st' := aA 124 :: _) rfl rfl ?_
                  refine E_gA (b := 132) rfl rfl rfl rfl rfl rfl ?_
                  refine E_s (p' := 143) (st' := aI ((60 * i + ci : Nat) : Int) :: _) rfl rfl ?_
                  refine E_ald (e := 60 * i + ci) (N := 240) (v := ((Ck (S i) ci + 1 : Nat) : Int)) rfl rfl (rfl) (by omega) ((up2_ne (by omega)).trans (((MR_132 hM1 hcc rfl).trans (by show ((upf (Ck (S i)) ci (Ck (S i) ci + 1) ci : Nat) : Int) = _; rw [upf_eq])))) ?_
                  refine E_ret rfl rfl ?_
                  have hps := posn_sp (Cp (S i) ci) hn (Ck (S i) ci)
                  exact finMx hS hi rfl q (by unfold oKnot; simp only [Int.toNat_natCast]; rw [cif_pos ⟨(by unfold inC; omega), hkd, hw1, (fun ⟨k, hk, e⟩ => hnf k hk e)⟩, cif_neg (by omega)]) (V_ins hV hcc (by omega) (by unfold kok; rw [pck_so hb3.2.1 hb3.2.2.1, pck_tu hb3.2.2.1]; unfold kind at hkd; omega) (by rw [eht]; unfold whl at hw1; omega) (fun k hk e => hnf k hk (by rw [e, eht])) (posn_le _ _ _) (by rw [eht]; exact hps.1) (by rw [eht]; exact hps.2)) (hM1.of (fun b j g1 g2 => up2_ne (by omega))) (hx1.up (by unfold blk; omega)) (fun b j hb => (up2_ne (by omega)).trans (hF1 _ _ (by omega)))
                · refine E_go (p' := 118) (L' := [some (aA 124), some (aI ((i : Nat) : Int)), some (aI ((ci : Nat) : Int)), some (aI (h)), some (aI (s)), some (aI (t)), some (aI ((60 * i + ci : Nat) : Int))]) (st' := []) rfl rfl rfl ?_
                  refine E_s (p' := 120) (st' := aI (-3) :: _) rfl rfl ?_
                  refine E_ret rfl rfl ?_
                  exact finM_same hS hi rfl q (by unfold oKnot; (try simp only [Int.toNat_natCast]); rw [cif_pos ⟨(by unfold inC; omega), (by unfold kind; omega), (by unfold whl; omega), (fun ⟨k, hk, e⟩ => hnf k hk e)⟩, cif_pos (by omega)]) hS (fun _ _ _ => rfl)
              · refine E_go (p' := 92) (L' := [some (aA 124), some (aI ((i : Nat) : Int)), some (aI ((ci : Nat) : Int)), some (aI (h)), some (aI (s)), some (aI (t)), some (aI ((60 * i + ci : Nat) : Int))]) (st' := []) rfl rfl rfl ?_
                refine E_s (p' := 93) (st' := aI (h) :: _) rfl rfl ?_
                refine E_s (p' := 94) (st' := aA 124 :: _) rfl rfl ?_
                refine E_gA (b := 131) rfl rfl rfl rfl rfl rfl ?_
                refine E_s (p' := 99) (st' := aI ((60 * i + ci : Nat) : Int) :: _) rfl rfl ?_
                refine E_ald (e := 60 * i + ci) (N := 240) (v := (((Ctz (S i) ci)))) rfl rfl (rfl) (by omega) (MR_131 hM (by omega) (by omega)) ?_
                refine E_icmp_lt (x := (h)) (y := (((Ctz (S i) ci)))) rfl (by decide) (fun h_23 => ?_) (fun h_23 => ?_)
                · refine E_go (p' := 106) (L' := [some (aA 124), some (aI ((i : Nat) : Int)), some (aI ((ci : Nat) : Int)), some (aI (h)), some (aI (s)), some (aI (t)), some (aI ((60 * i + ci : Nat) : Int))]) (st' := []) rfl rfl rfl ?_
                  refine E_s (p' := 107) (st' := aA 124 :: _) rfl rfl ?_
                  refine E_gA (b := 132) rfl rfl rfl rfl rfl rfl ?_
                  refine E_s (p' := 112) (st' := aI ((60 * i + ci : Nat) : Int) :: _) rfl rfl ?_
                  refine E_ald (e := 60 * i + ci) (N := 240) (v := ((Ck (S i) ci : Nat) : Int)) rfl rfl (rfl) (by omega) (MR_132 hM (by omega) (by omega)) ?_
                  refine E_s (p' := 115) (st' := aI 30 :: _) rfl rfl ?_
                  refine E_icmp_ne (x := ((Ck (S i) ci : Nat) : Int)) (y := 30) rfl (by decide) (fun h_24 => ?_) (fun h_24 => ?_)
                  · refine E_go (p' := 121) (L' := [some (aA 124), some (aI ((i : Nat) : Int)), some (aI ((ci : Nat) : Int)), some (aI (h)), some (aI (s)), some (aI (t)), some (aI ((60 * i + ci : Nat) : Int))]) (st' := []) rfl rfl rfl ?_
                    have hw1 : whl (S i) ci h := by unfold whl; omega
                    have hkd : kind s t := by unfold kind; omega
                    obtain ⟨hn, eh⟩ : ∃ x : Nat, h = (x : Int) := ⟨h.toNat, by omega⟩
                    obtain ⟨sn, es⟩ : ∃ x : Nat, s = (x : Int) := ⟨s.toNat, by omega⟩
                    obtain ⟨tn, et⟩ : ∃ x : Nat, t = (x : Int) := ⟨t.toNat, by unfold kind at hkd; omega⟩
                    subst eh es et
                    have hb3 : hn ≤ 600 ∧ sn < 4 ∧ tn < 16 ∧ 1 ≤ hn := by unfold kind at hkd; omega
                    have eht := pck_ht (h := hn) (s := sn) (t := tn) hb3.2.1 hb3.2.2.1
                    refine E_s (p' := 122) (st' := aA 124 :: _) rfl rfl ?_
                    refine E_s (p' := 124) (st' := aI ((60 * i + ci : Nat) : Int) :: _) rfl rfl ?_
                    refine E_s (p' := 125) (st' := aI ((hn : Nat) : Int) :: _) rfl rfl ?_
                    refine E_s (p' := 127) (st' := aI ((sn : Nat) : Int) :: _) rfl rfl ?_
                    refine E_s (p' := 129) (st' := aI ((tn : Nat) : Int) :: _) rfl rfl ?_
                    refine E_callV (k' := 138) (a := 124) (r := []) (L0 := [some (aA 124), some (aI ((60 * i + ci : Nat) : Int)), some (aI ((hn : Nat) : Int)), some (aI ((sn : Nat) : Int)), some (aI ((tn : Nat) : Int)), none]) rfl rfl rfl rfl rfl rfl rfl rfl rfl rfl ?_
                    refine m_put hi hM hV hcc (by omega) hb3.2.1 hb3.2.2.1 (fun k hk e => hnf k hk (by omega)) (fun m1 hM1 hx1 hF1 => ?_)
                    refine E_go (p' := 132) (L' := [some (aA 124), some (aI ((i : Nat) : Int)), some (aI ((ci : Nat) : Int)), some (aI ((hn : Nat) : Int)), some (aI ((sn : Nat) : Int)), some (aI ((tn : Nat) : Int)), some (aI ((60 * i + ci : Nat) : Int))]) (st' := []) rfl rfl rfl ?_
                    refine E_s (p' := 133) (st' := aA 124 :: _) rfl rfl ?_
                    refine E_s (p' := 134) (st' := aI ((i : Nat) : Int) :: _) rfl rfl ?_
                    refine E_callV (k' := 133) (a := 124) (r := []) (L0 := [some (aA 124), some (aI ((i : Nat) : Int))]) rfl rfl rfl rfl rfl rfl rfl rfl rfl rfl ?_
                    refine m_changes (i := i) (by omega) ?_
                    refine E_go (p' := 137) (L' := [some (aA 124), some (aI ((i : Nat) : Int)), some (aI ((ci : Nat) : Int)), some (aI ((hn : Nat) : Int)), some (aI ((sn : Nat) : Int)), some (aI ((tn : Nat) : Int)), some (aI ((60 * i + ci : Nat) : Int))]) (st' := []) rfl rfl rfl ?_
                    refine E_s (p' := 138) (st' := aA 124 :: _) rfl rfl ?_
                    refine E_gA (b := 132) rfl rfl rfl rfl rfl rfl ?_
                    refine E_s (p' := 143) (st' := aI ((60 * i + ci : Nat) : Int) :: _) rfl rfl ?_
                    refine E_ald (e := 60 * i + ci) (N := 240) (v := ((Ck (S i) ci + 1 : Nat) : Int)) rfl rfl (rfl) (by omega) ((up2_ne (by omega)).trans (((MR_132 hM1 hcc rfl).trans (by show ((upf (Ck (S i)) ci (Ck (S i) ci + 1) ci : Nat) : Int) = _; rw [upf_eq])))) ?_
                    refine E_ret rfl rfl ?_
                    have hps := posn_sp (Cp (S i) ci) hn (Ck (S i) ci)
                    exact finMx hS hi rfl q (by unfold oKnot; simp only [Int.toNat_natCast]; rw [cif_pos ⟨(by unfold inC; omega), hkd, hw1, (fun ⟨k, hk, e⟩ => hnf k hk e)⟩, cif_neg (by omega)]) (V_ins hV hcc (by omega) (by unfold kok; rw [pck_so hb3.2.1 hb3.2.2.1, pck_tu hb3.2.2.1]; unfold kind at hkd; omega) (by rw [eht]; unfold whl at hw1; omega) (fun k hk e => hnf k hk (by rw [e, eht])) (posn_le _ _ _) (by rw [eht]; exact hps.1) (by rw [eht]; exact hps.2)) (hM1.of (fun b j g1 g2 => up2_ne (by omega))) (hx1.up (by unfold blk; omega)) (fun b j hb => (up2_ne (by omega)).trans (hF1 _ _ (by omega)))
                  · refine E_go (p' := 118) (L' := [some (aA 124), some (aI ((i : Nat) : Int)), some (aI ((ci : Nat) : Int)), some (aI (h)), some (aI (s)), some (aI (t)), some (aI ((60 * i + ci : Nat) : Int))]) (st' := []) rfl rfl rfl ?_
                    refine E_s (p' := 120) (st' := aI (-3) :: _) rfl rfl ?_
                    refine E_ret rfl rfl ?_
                    exact finM_same hS hi rfl q (by unfold oKnot; (try simp only [Int.toNat_natCast]); rw [cif_pos ⟨(by unfold inC; omega), (by unfold kind; omega), (by unfold whl; omega), (fun ⟨k, hk, e⟩ => hnf k hk e)⟩, cif_pos (by omega)]) hS (fun _ _ _ => rfl)
                · refine E_go (p' := 103) (L' := [some (aA 124), some (aI ((i : Nat) : Int)), some (aI ((ci : Nat) : Int)), some (aI (h)), some (aI (s)), some (aI (t)), some (aI ((60 * i + ci : Nat) : Int))]) (st' := []) rfl rfl rfl ?_
                  refine E_s (p' := 105) (st' := aI (-2) :: _) rfl rfl ?_
                  refine E_ret rfl rfl ?_
                  exact finM_same hS hi rfl q (by unfold oKnot; (try simp only [Int.toNat_natCast]); rw [cif_neg (by first | exact fun g9 => absurd g9.2.1 (by unfold kind; omega) | exact fun g9 => absurd g9.2.2.1 (by unfold whl; omega) | exact fun g9 => g9.2.2.2 ⟨k1, hk1, hk2⟩)]) hS (fun _ _ _ => rfl)
          · refine E_go (p' := 67) (L' := [some (aA 124), some (aI ((i : Nat) : Int)), some (aI ((ci : Nat) : Int)), some (aI (h)), some (aI (s)), some (aI (t)), some (aI ((60 * i + ci : Nat) : Int))]) (st' := [aI 0]) rfl rfl rfl ?_
            refine E_s (p' := 103) rfl rfl ?_
            refine E_s (p' := 105) (st' := aI (-2) :: _) rfl rfl ?_
            refine E_ret rfl rfl ?_
            exact finM_same hS hi rfl q (by unfold oKnot; (try simp only [Int.toNat_natCast]); rw [cif_neg (by first | exact fun g9 => absurd g9.2.1 (by unfold kind; omega) | exact fun g9 => absurd g9.2.2.1 (by unfold whl; omega) | exact fun g9 => g9.2.2.2 ⟨k1, hk1, hk2⟩)]) hS (fun _ _ _ => rfl)
        · refine E_go (p' := 33) (L' := [some (aA 124), some (aI ((i : Nat) : Int)), some (aI ((ci : Nat) : Int)), some (aI (h)), some (aI (s)), some (aI (t)), none]) (st' := [aI 0]) rfl rfl rfl ?_
          refine E_s (p' := 36) rfl rfl ?_
          refine E_s (p' := 44) rfl rfl ?_
          refine E_s (p' := 46) (st' := aI (-2) :: _) rfl rfl ?_
          refine E_ret rfl rfl ?_
          exact finM_same hS hi rfl q (by unfold oKnot; (try simp only [Int.toNat_natCast]); rw [cif_neg (by first | exact fun g9 => absurd g9.2.1 (by unfold kind; omega) | exact fun g9 => absurd g9.2.2.1 (by unfold whl; omega) | exact fun g9 => g9.2.2.2 ⟨k1, hk1, hk2⟩)]) hS (fun _ _ _ => rfl)
    · refine E_go (p' := 16) (L' := [some (aA 124), some (aI ((i : Nat) : Int)), some (aI ((ci : Nat) : Int)), some (aI (h)), some (aI (s)), some (aI (t)), none]) (st' := [aI 0]) rfl rfl rfl ?_
      refine E_s (p' := 44) rfl rfl ?_
      refine E_s (p' := 46) (st' := aI (-2) :: _) rfl rfl ?_
      refine E_ret rfl rfl ?_
      exact finM_same hS hi rfl q (by unfold oKnot; (try simp only [Int.toNat_natCast]); rw [cif_neg (by first | exact fun g9 => absurd g9.2.1 (by unfold kind; omega) | exact fun g9 => absurd g9.2.2.1 (by unfold whl; omega) | exact fun g9 => g9.2.2.2 ⟨k1, hk1, hk2⟩)]) hS (fun _ _ _ => rfl)
  · refine E_go (p' := 6) (L' := [some (aA 124), some (aI (r)), some (aI (c)), some (aI (h)), some (aI (s)), some (aI (t)), none]) (st' := [aI 0]) rfl rfl rfl ?_
    refine E_s (p' := 44) rfl rfl ?_
    refine E_s (p' := 46) (st' := aI (-2) :: _) rfl rfl ?_
    refine E_ret rfl rfl ?_
    rcases hno with hr | ⟨i, hi, hr, hno⟩
    · exact finM_out hS q hr
    · exact finM_same hS hi hr q (by unfold oKnot; rw [cif_neg (fun g9 => hno g9.1)]) hS (fun _ _ _ => rfl)
end
section
variable {len : Nat} {m0 : Mm} {Q : Option AV → Sx → Prop} {R : RD} {i c k1 : Nat} {h : Int}
theorem yl_untie (hi : i < 4) (hM : MR R i m0) (hV : VR R) (hcc : c < Cn R) (hk1 : k1 < Ck R c) (hk : ∀ m1 : Mm, m1 132 (60 * i + c) = (Ck R c : Int) - 1 → (∀ b e, 133 ≤ b ∧ b ≤ 135 → k1 ≤ e → e + 1 < Ck R c → m1 b (1800 * i + 30 * c + e) = m0 b (1800 * i + 30 * c + e + 1)) → (∀ b z, ¬ (b = 132 ∧ z = 60 * i + c) → ¬ (133 ≤ b ∧ b ≤ 135 ∧ 1800 * i + 30 * c + k1 ≤ z ∧ z + 1 < 1800 * i + 30 * c + Ck R c) → m1 b z = m0 b z) → E 139 129 [some (aA 124), some (aI (i : Int)), some (aI (c : Int)), some (aI h), some (aI ((60 * i + c : Nat) : Int)), some (aI (k1 : Int)), some (aI ((1800 * i + 30 * c + (Ck R c - 1) : Nat) : Int))] [] (m1, tl len) Q) : ∀ (d : Nat) (j : Nat) (m : Mm), (Ck R c ≤ j + d) → (k1 ≤ j ∧ j < Ck R c) → (m 132 (60 * i + c) = (Ck R c : Int) - 1) → (∀ b e, 133 ≤ b ∧ b ≤ 135 → k1 ≤ e → e < j → m b (1800 * i + 30 * c + e) = m0 b (1800 * i + 30 * c + e + 1)) → (∀ b z, ¬ ((b = 132 ∧ z = 60 * i + c) ∨ (133 ≤ b ∧ b ≤ 135 ∧ 1800 * i + 30 * c + k1 ≤ z ∧ z < 1800 * i + 30 * c + j)) → m b z = m0 b z) → E 139 57 [some (aA 124), some (aI ((i : Nat) : Int)), some (aI ((c : Nat) : Int)), some (aI (h)), some (aI ((60 * i + c : Nat) : Int)), some (aI ((k1 : Nat) : Int)), some (aI ((1800 * i + 30 * c + j : Nat) : Int))] [] (m, tl len) Q := by
  intro d
  induction d with
  | zero => intro j m hd hj I0 I1 I2; omega
  | succ d ih =>
    intro j m hd hj I0 I1 I2
    have hn60 := hV.1
    have hk30 := (hV.2.2.1 c hcc).2.2.2.2.2
    refine E_s (p' := 59) (st' := aI ((1800 * i + 30 * c + j : Nat) : Int) :: _) rfl rfl ?_
    refine E_s (p' := 61) (st' := aI 30 :: _) rfl rfl ?_
    refine E_s (p' := 63) (st' := aI ((60 * i + c : Nat) : Int) :: _) rfl rfl ?_
    refine E_mul (v := ((1800 * i + 30 * c : Nat) : Int)) rfl (by omega) (by omega) ?_
    refine E_s (p' := 65) (st' := aA 124 :: _) rfl rfl ?_
    refine E_gA (b := 132) rfl rfl rfl rfl rfl rfl ?_
    refine E_s (p' := 70) (st' := aI ((60 * i + c : Nat) : Int) :: _) rfl rfl ?_
    refine E_ald (e := 60 * i + c) (N := 240) (v := ((Ck R c : Int) - 1)) rfl rfl (rfl) (by omega) I0 ?_
    refine E_add (v := (1800 * (i : Int) + 30 * (c : Int) + (Ck R c : Int) - 1)) rfl (by omega) (by omega) ?_
    refine E_icmp_ge (x := ((1800 * i + 30 * c + j : Nat) : Int)) (y := (1800 * (i : Int) + 30 * (c : Int) + (Ck R c : Int) - 1)) rfl (by decide) (fun h_1 => ?_) (fun h_1 => ?_)
    · refine E_go (p' := 129) (L' := [some (aA 124), some (aI ((i : Nat) : Int)), some (aI ((c : Nat) : Int)), some (aI (h)), some (aI ((60 * i + c : Nat) : Int)), some (aI ((k1 : Nat) : Int)), some (aI ((1800 * i + 30 * c + j : Nat) : Int))]) (st' := []) rfl rfl rfl ?_
      have ej : j = Ck R c - 1 := by omega
      subst ej
      exact hk m I0 (fun b e g1 g2 g3 => I1 b e g1 g2 (by omega)) (fun b z g1 g2 => I2 b z (by omega))
    · refine E_go (p' := 75) (L' := [some (aA 124), some (aI ((i : Nat) : Int)), some (aI ((c : Nat) : Int)), some (aI (h)), some (aI ((60 * i + c : Nat) : Int)), some (aI ((k1 : Nat) : Int)), some (aI ((1800 * i + 30 * c + j : Nat) : Int))]) (st' := []) rfl rfl rfl ?_
      refine E_s (p' := 76) (st' := aA 124 :: _) rfl rfl ?_
      refine E_gA (b := 133) rfl rfl rfl rfl rfl rfl ?_
      refine E_s (p' := 81) (st' := aI ((1800 * i + 30 * c + j : Nat) : Int) :: _) rfl rfl ?_
      refine E_s (p' := 82) (st' := aA 124 :: _) rfl rfl ?_
      refine E_gA (b := 133) rfl rfl rfl rfl rfl rfl ?_
      refine E_s (p' := 87) (st' := aI ((1800 * i + 30 * c + j : Nat) : Int) :: _) rfl rfl ?_
      refine E_s (p' := 88) (st' := aI 1 :: _) rfl rfl ?_
      refine E_add (v := ((1800 * i + 30 * c + j + 1 : Nat) : Int)) rfl (by omega) (by omega) ?_
      refine E_ald (e := 1800 * i + 30 * c + j + 1) (N := 7200) (v := ((ht (Cp R c (j + 1)) : Nat) : Int)) rfl rfl (rfl) (by omega) ((I2 _ (1800 * i + 30 * c + j + 1) (by omega)).trans (MR_133 hM hcc (by omega) (by omega))) ?_
      refine E_ast (e := 1800 * i + 30 * c + j) (N := 7200) rfl rfl (rfl) (by omega) ?_
      refine E_s (p' := 92) (st' := aA 124 :: _) rfl rfl ?_
      refine E_gA (b := 134) rfl rfl rfl rfl rfl rfl ?_
      refine E_s (p' := 97) (st' := aI ((1800 * i + 30 * c + j : Nat) : Int) :: _) rfl rfl ?_
      refine E_s (p' := 98) (st' := aA 124 :: _) rfl rfl ?_
      refine E_gA (b := 134) rfl rfl rfl rfl rfl rfl ?_
      refine E_s (p' := 103) (st' := aI ((1800 * i + 30 * c + j : Nat) : Int) :: _) rfl rfl ?_
      refine E_s (p' := 104) (st' := aI 1 :: _) rfl rfl ?_
      refine E_add (v := ((1800 * i + 30 * c + j + 1 : Nat) : Int)) rfl (by omega) (by omega) ?_
      refine E_ald (e := 1800 * i + 30 * c + j + 1) (N := 7200) (v := ((so (Cp R c (j + 1)) : Nat) : Int)) rfl rfl (rfl) (by omega) ((up2_ne (by omega)).trans (((I2 _ (1800 * i + 30 * c + j + 1) (by omega)).trans (MR_134 hM hcc (by omega) (by omega))))) ?_
      refine E_ast (e := 1800 * i + 30 * c + j) (N := 7200) rfl rfl (rfl) (by omega) ?_
      refine E_s (p' := 108) (st' := aA 124 :: _) rfl rfl ?_
      refine E_gA (b := 135) rfl rfl rfl rfl rfl rfl ?_
      refine E_s (p' := 113) (st' := aI ((1800 * i + 30 * c + j : Nat) : Int) :: _) rfl rfl ?_
      refine E_s (p' := 114) (st' := aA 124 :: _) rfl rfl ?_
      refine E_gA (b := 135) rfl rfl rfl rfl rfl rfl ?_
      refine E_s (p' := 119) (st' := aI ((1800 * i + 30 * c + j : Nat) : Int) :: _) rfl rfl ?_
      refine E_s (p' := 120) (st' := aI 1 :: _) rfl rfl ?_
      refine E_add (v := ((1800 * i + 30 * c + j + 1 : Nat) : Int)) rfl (by omega) (by omega) ?_
      refine E_ald (e := 1800 * i + 30 * c + j + 1) (N := 7200) (v := ((tu (Cp R c (j + 1)) : Nat) : Int)) rfl rfl (rfl) (by omega) ((up2_ne (by omega)).trans ((up2_ne (by omega)).trans (((I2 _ (1800 * i + 30 * c + j + 1) (by omega)).trans (MR_135 hM hcc (by omega) (by omega)))))) ?_
      refine E_ast (e := 1800 * i + 30 * c + j) (N := 7200) rfl rfl (rfl) (by omega) ?_
      refine E_inc (x := ((1800 * i + 30 * c + j : Nat) : Int)) (w := ((1800 * i + 30 * c + j + 1 : Nat) : Int)) (L' := [some (aA 124), some (aI ((i : Nat) : Int)), some (aI ((c : Nat) : Int)), some (aI (h)), some (aI ((60 * i + c : Nat) : Int)), some (aI ((k1 : Nat) : Int)), some (aI ((1800 * i + 30 * c + j + 1 : Nat) : Int))]) rfl rfl rfl (by omega) (by omega) rfl ?_
      refine E_s (p' := 57) rfl rfl ?_
      refine ih (j + 1) _ (by omega) (by omega) (((up2_ne (by omega)).trans ((up2_ne (by omega)).trans (up2_ne (by omega)))).trans I0) (fun b e g1 g2 g3 => ?_) (fun b z g1 => ?_)
      · by_cases g : e = j
        · subst g
          rcases (show b = 133 ∨ b = 134 ∨ b = 135 by omega) with g4 | g4 | g4
          · subst g4; exact ((up2_ne (by omega)).trans ((up2_ne (by omega)).trans up2_eq)).trans (MR_133 hM hcc (k := e + 1) (by omega) (by omega)).symm
          · subst g4; exact ((up2_ne (by omega)).trans up2_eq).trans (MR_134 hM hcc (k := e + 1) (by omega) (by omega)).symm
          · subst g4; exact up2_eq.trans (MR_135 hM hcc (k := e + 1) (by omega) (by omega)).symm
        · exact ((up2_sl (by omega)).trans ((up2_sl (by omega)).trans (up2_sl (by omega)))).trans (I1 b e g1 g2 (by omega))
      · exact ((up2_o (by omega)).trans ((up2_o (by omega)).trans (up2_o (by omega)))).trans (I2 b z (by omega))
end
section
variable {len : Nat} {m : Mm} {Q : Option AV → Sx → Prop} {S : Nat → RD} {r c l g o h s t : Int}
theorem M_untie (hS : MS S m) (q : ∀ m1, MS (on1 S r (-1) (oUntie c h)).2 m1 → Co1 m m1 → Q (some (aI (on1 S r (-1) (oUntie c h)).1)) (m1, tl len)) : E 139 0 [some (aA 124), some (aI (r)), some (aI (c)), some (aI (h)), none, none, none] [] (m, tl len) Q := by
  refine E_s (p' := 1) (st' := aA 124 :: _) rfl rfl ?_
  refine E_s (p' := 2) (st' := aI (r) :: _) rfl rfl ?_
  refine E_s (p' := 3) (st' := aI (c) :: _) rfl rfl ?_
  refine E_callV (k' := 135) (a := 124) (r := []) (L0 := [some (aA 124), some (aI (r)), some (aI (c))]) rfl rfl rfl rfl rfl rfl rfl rfl rfl rfl ?_
  refine m_isCord hS (fun i ci hi hr hc hcc => ?_) (fun hno => ?_)
  · refine E_go (p' := 6) (L' := [some (aA 124), some (aI (r)), some (aI (c)), some (aI (h)), none, none, none]) (st' := [aI 1]) rfl rfl rfl ?_
    obtain ⟨hV, hM⟩ := hS i hi
    have hn60 := hV.1
    have hs40 := hV.2.2.2.2.1
    subst hr hc
    refine E_s (p' := 11) rfl rfl ?_
    have hk30 := (hV.2.2.1 ci hcc).2.2.2.2.2
    refine E_s (p' := 13) (st' := aI 60 :: _) rfl rfl ?_
    refine E_s (p' := 14) (st' := aI ((i : Nat) : Int) :: _) rfl rfl ?_
    refine E_mul (v := ((60 * i : Nat) : Int)) rfl (by omega) (by omega) ?_
    refine E_s (p' := 16) (st' := aI ((ci : Nat) : Int) :: _) rfl rfl ?_
    refine E_add (v := ((60 * i + ci : Nat) : Int)) rfl (by omega) (by omega) ?_
    refine E_s (p' := 19) (L' := [some (aA 124), some (aI ((i : Nat) : Int)), some (aI ((ci : Nat) : Int)), some (aI (h)), some (aI ((60 * i + ci : Nat) : Int)), none, none]) rfl rfl ?_
    refine E_s (p' := 20) (st' := aA 124 :: _) rfl rfl ?_
    refine E_s (p' := 22) (st' := aI ((60 * i + ci : Nat) : Int) :: _) rfl rfl ?_
    refine E_s (p' := 23) (st' := aI (h) :: _) rfl rfl ?_
    refine E_callV (k' := 137) (a := 124) (r := []) (L0 := [some (aA 124), some (aI ((60 * i + ci : Nat) : Int)), some (aI (h)), none]) rfl rfl rfl rfl rfl rfl rfl rfl rfl rfl ?_
    refine m_find hi hM hV hcc (fun k1 hk1 hk2 => ?_) (fun hnf => ?_)
    · refine E_go (p' := 26) (L' := [some (aA 124), some (aI ((i : Nat) : Int)), some (aI ((ci : Nat) : Int)), some (aI (h)), some (aI ((60 * i + ci : Nat) : Int)), none, none]) (st' := [aI ((k1 : Nat) : Int)]) rfl rfl rfl ?_
      refine E_s (p' := 28) (L' := [some (aA 124), some (aI ((i : Nat) : Int)), some (aI ((ci : Nat) : Int)), some (aI (h)), some (aI ((60 * i + ci : Nat) : Int)), some (aI ((k1 : Nat) : Int)), none]) rfl rfl ?_
      refine E_s (p' := 30) (st' := aI ((k1 : Nat) : Int) :: _) rfl rfl ?_
      refine E_s (p' := 31) (st' := aI (-1) :: _) rfl rfl ?_
      refine E_icmp_ne (x := ((k1 : Nat) : Int)) (y := (-1)) rfl (by decide) (fun h_1 => ?_) (fun q => absurd q (by omega))
      refine E_go (p' := 36) (L' := [some (aA 124), some (aI ((i : Nat) : Int)), some (aI ((ci : Nat) : Int)), some (aI (h)), some (aI ((60 * i + ci : Nat) : Int)), some (aI ((k1 : Nat) : Int)), none]) (st' := []) rfl rfl rfl ?_
      refine E_s (p' := 37) (st' := aA 124 :: _) rfl rfl ?_
      refine E_gA (b := 132) rfl rfl rfl rfl rfl rfl ?_
      refine E_s (p' := 42) (st' := aI ((60 * i + ci : Nat) : Int) :: _) rfl rfl ?_
      refine E_s (p' := 43) rfl rfl ?_
      refine E_ald (e := 60 * i + ci) (N := 240) (v := ((Ck (S i) ci : Nat) : Int)) rfl rfl (rfl) (by omega) (MR_132 hM (by omega) (by omega)) ?_
      refine E_s (p' := 45) (st' := aI 1 :: _) rfl rfl ?_
      refine E_sub (v := ((Ck (S i) ci : Int) - 1)) rfl (by omega) (by omega) ?_
      refine E_ast (e := 60 * i + ci) (N := 240) rfl rfl (rfl) (by omega) ?_
      refine E_s (p' := 49) (st' := aI 30 :: _) rfl rfl ?_
      refine E_s (p' := 51) (st' := aI ((60 * i + ci : Nat) : Int) :: _) rfl rfl ?_
      refine E_mul (v := ((1800 * i + 30 * ci : Nat) : Int)) rfl (by omega) (by omega) ?_
      refine E_s (p' := 54) (st' := aI ((k1 : Nat) : Int) :: _) rfl rfl ?_
      refine E_add (v := ((1800 * i + 30 * ci + k1 : Nat) : Int)) rfl (by omega) (by omega) ?_
      refine E_s (p' := 57) (L' := [some (aA 124), some (aI ((i : Nat) : Int)), some (aI ((ci : Nat) : Int)), some (aI (h)), some (aI ((60 * i + ci : Nat) : Int)), some (aI ((k1 : Nat) : Int)), some (aI ((1800 * i + 30 * ci + k1 : Nat) : Int))]) rfl rfl ?_
      refine yl_untie hi hM hV hcc hk1 (fun m1 J0 J1 J2 => ?_) (Ck (S i) ci + 1) k1 _ (by omega) (by omega) up2_eq (fun b e _ g1 g2 => absurd g1 (by omega)) (fun b z g1 => up2_o (by omega))
      refine E_s (p' := 130) (st' := aA 124 :: _) rfl rfl ?_
      refine E_s (p' := 131) (st' := aI ((i : Nat) : Int) :: _) rfl rfl ?_
      refine E_callV (k' := 133) (a := 124) (r := []) (L0 := [some (aA 124), some (aI ((i : Nat) : Int))]) rfl rfl rfl rfl rfl rfl rfl rfl rfl rfl ?_
      refine m_changes (i := i) (by omega) ?_
      refine E_go (p' := 134) (L' := [some (aA 124), some (aI ((i : Nat) : Int)), some (aI ((ci : Nat) : Int)), some (aI (h)), some (aI ((60 * i + ci : Nat) : Int)), some (aI ((k1 : Nat) : Int)), some (aI ((1800 * i + 30 * ci + (Ck (S i) ci - 1) : Nat) : Int))]) (st' := []) rfl rfl rfl ?_
      refine E_s (p' := 135) (st' := aA 124 :: _) rfl rfl ?_
      refine E_gA (b := 132) rfl rfl rfl rfl rfl rfl ?_
      refine E_s (p' := 140) (st' := aI ((60 * i + ci : Nat) : Int) :: _) rfl rfl ?_
      refine E_ald (e := 60 * i + ci) (N := 240) (v := ((Ck (S i) ci : Int) - 1)) rfl rfl (rfl) (by omega) ((up2_ne (by omega)).trans (J0)) ?_
      refine E_ret rfl rfl ?_
      obtain ⟨hn, eh⟩ : ∃ x : Nat, h = (x : Int) := ⟨h.toNat, by omega⟩
      subst eh
      have ep := posn_u (P := Cp (S i) ci) (h := hn) (n := Ck (S i) ci) (k := k1) (by omega) (fun j hj => by have := hV.mono hcc hj hk1; omega) (fun _ => by omega)
      have hrm : ∀ (b : Nat) (f : Nat → Nat), (133 ≤ b ∧ b ≤ 135) → (∀ e, e < Ck (S i) ci → m b (1800 * i + 30 * ci + e) = (f (Cp (S i) ci e) : Int)) → ∀ e, e < Ck (S i) ci - 1 → up2 m1 140 i 0 b (1800 * i + 30 * ci + e) = (f (remP (Cp (S i) ci) k1 e) : Int) := fun b f hb hf e he => by
        refine (up2_ne (by omega)).trans ?_
        unfold remP
        rcases Nat.lt_or_ge e k1 with g | g
        · rw [if_pos g]; exact (J2 _ _ (by omega) (by omega)).trans (hf e (by omega))
        · rw [if_neg (by omega)]; exact (J1 b e hb g (by omega)).trans (hf (e + 1) (by omega))
      refine finMx hS hi rfl q (v := (Ck (S i) ci : Int) - 1) (R := Rkn (S i) ci (Ck (S i) ci - 1) (remP (Cp (S i) ci) k1)) (by unfold oUntie; simp only [Int.toNat_natCast]; rw [cif_pos ⟨(by unfold inC; omega), (⟨k1, hk1, hk2⟩ : tied (S i) ci hn)⟩, ← ep]; exact Prod.ext (show ((Ck (S i) ci - 1 : Nat) : Int) = _ by omega) rfl) (V_rem hV hcc hk1) (MR.kn hM hV (by omega) ((up2_ne (by omega)).trans (J0.trans (by omega))) (fun e he => ⟨hrm 133 ht (by omega) (fun e he => MR_133 hM hcc he rfl) e he, hrm 134 so (by omega) (fun e he => MR_134 hM hcc he rfl) e he, hrm 135 tu (by omega) (fun e he => MR_135 hM hcc he rfl) e he⟩) (fun b z g1 g2 g3 g4 => (up2_ne (by omega)).trans (J2 b z (by omega) (by omega)))) (fun b z hb => ?_) (fun b z hb => (up2_ne (by omega)).trans (J2 _ _ (by omega) (by omega)))
      have hb2 : ¬ ((b < 125 ∨ 139 < b) ∨ (b = 132 ∧ 60 * i ≤ z ∧ z < 60 * i + 60) ∨ (133 ≤ b ∧ b ≤ 135 ∧ 1800 * i ≤ z ∧ z < 1800 * i + 1800)) := fun g => hb (by unfold blk; omega)
      exact (up2_ne (by omega)).trans (J2 _ _ (by omega) (by omega))
    · refine E_go (p' := 26) (L' := [some (aA 124), some (aI ((i : Nat) : Int)), some (aI ((ci : Nat) : Int)), some (aI (h)), some (aI ((60 * i + ci : Nat) : Int)), none, none]) (st' := [aI (-1)]) rfl rfl rfl ?_
      refine E_s (p' := 28) (L' := [some (aA 124), some (aI ((i : Nat) : Int)), some (aI ((ci : Nat) : Int)), some (aI (h)), some (aI ((60 * i + ci : Nat) : Int)), some (aI (-1)), none]) rfl rfl ?_
      refine E_s (p' := 30) (st' := aI (-1) :: _) rfl rfl ?_
      refine E_s (p' := 31) (st' := aI (-1) :: _) rfl rfl ?_
      refine E_s (p' := 34) rfl rfl ?_
      refine E_s (p' := 35) (st' := aI (-1) :: _) rfl rfl ?_
      refine E_ret rfl rfl ?_
      exact finM_same hS hi rfl q (by unfold oUntie; (try simp only [Int.toNat_natCast]); rw [cif_neg (fun g9 => g9.2.elim (fun k g8 => hnf k g8.1 g8.2))]) hS (fun _ _ _ => rfl)
  · refine E_go (p' := 6) (L' := [some (aA 124), some (aI (r)), some (aI (c)), some (aI (h)), none, none, none]) (st' := [aI 0]) rfl rfl rfl ?_
    refine E_s (p' := 9) rfl rfl ?_
    refine E_s (p' := 10) (st' := aI (-1) :: _) rfl rfl ?_
    refine E_ret rfl rfl ?_
    rcases hno with hr | ⟨i, hi, hr, hno⟩
    · exact finM_out hS q hr
    · exact finM_same hS hi hr q (by unfold oUntie; rw [cif_neg (fun g9 => hno g9.1)]) hS (fun _ _ _ => rfl)
end
