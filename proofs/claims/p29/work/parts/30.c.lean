section
variable {len n : Nat} {m : Mm} {S : Nat → RD} {xs : Nat → Int} {l1 l2 : List (Nat × Nat)}
theorem yl_law (hx32 : ∀ j, -2147483648 ≤ xs j ∧ xs j ≤ 2147483647) (hl9 : len ≤ 3072) : ∀ (d p : Nat) (S : Nat → RD) (l1 l2 : List (Nat × Nat)) (n : Nat) (m : Mm), len < p + d → IV xs S l1 l2 n m → p ≤ 3072 → E 0 18 [some (aA 0), some (aA 1), some (aA 124), some (aI ((p : Nat) : Int))] [] (m, tl len) PQ := by
  intro d
  induction d with
  | zero =>
    intro p S l1 l2 n m hd hI hp9
    refine E_s (p' := 19) (st' := aI ((p : Nat) : Int) :: _) rfl rfl ?_
    refine E_s (p' := 20) (st' := aA 0 :: _) rfl rfl ?_
    refine E_s (st' := aI ((len : Nat) : Int) :: _) rfl rfl ?_
    refine E_s (p' := 23) (st' := aI 6 :: _) rfl rfl ?_
    refine E_sub (v := ((len : Int) - 6)) rfl (by omega) (by omega) ?_
    refine E_icmp_gt (x := ((p : Nat) : Int)) (y := ((len : Int) - 6)) rfl (by decide) (fun h_1 => ?_) (fun q => absurd q (by omega))
    refine E_go (p' := 1180) (L' := [some (aA 0), some (aA 1), some (aA 124), some (aI ((p : Nat) : Int))]) (st' := []) rfl rfl rfl ?_
    refine E_s (p' := 1181) (st' := aI 1 :: _) rfl rfl ?_
    refine E_ret rfl rfl ?_
    exact ⟨rfl, rfl⟩
  | succ d ih =>
    intro p S l1 l2 n m hd hI hp9
    have hk : p + 6 ≤ len → ∀ (S : Nat → RD) (l1 l2 : List (Nat × Nat)) (n : Nat) (m : Mm), IV xs S l1 l2 n m → E 0 1174 [some (aA 0), some (aA 1), some (aA 124), some (aI ((p : Nat) : Int))] [] (m, tl len) PQ := by
      intro hp S l1 l2 n m3 hI2
      refine E_inc (x := ((p : Nat) : Int)) (w := ((p + 6 : Nat) : Int)) (L' := [some (aA 0), some (aA 1), some (aA 124), some (aI ((p + 6 : Nat) : Int))]) rfl rfl rfl (by omega) (by omega) rfl ?_
      refine E_s (p' := 18) rfl rfl ?_
      exact ih (p + 6) _ _ _ _ _ (by omega) hI2 (by omega)
    refine E_s (p' := 19) (st' := aI ((p : Nat) : Int) :: _) rfl rfl ?_
    refine E_s (p' := 20) (st' := aA 0 :: _) rfl rfl ?_
    refine E_s (st' := aI ((len : Nat) : Int) :: _) rfl rfl ?_
    refine E_s (p' := 23) (st' := aI 6 :: _) rfl rfl ?_
    refine E_sub (v := ((len : Int) - 6)) rfl (by omega) (by omega) ?_
    refine E_icmp_gt (x := ((p : Nat) : Int)) (y := ((len : Int) - 6)) rfl (by decide) (fun h_1 => ?_) (fun h_1 => ?_)
    · refine E_go (p' := 1180) (L' := [some (aA 0), some (aA 1), some (aA 124), some (aI ((p : Nat) : Int))]) (st' := []) rfl rfl rfl ?_
      refine E_s (p' := 1181) (st' := aI 1 :: _) rfl rfl ?_
      refine E_ret rfl rfl ?_
      exact ⟨rfl, rfl⟩
    · refine E_go (p' := 27) (L' := [some (aA 0), some (aA 1), some (aA 124), some (aI ((p : Nat) : Int))]) (st' := []) rfl rfl rfl ?_
      have hp : p + 6 ≤ len := by omega
      refine E_s (p' := 28) (st' := aA 0 :: _) rfl rfl ?_
      refine E_s (p' := 29) (st' := aI ((p : Nat) : Int) :: _) rfl rfl ?_
      refine E_scr (j := ((p : Nat) : Int)) (v := (((xs p)))) rfl (inbN (len := len) (by omega)) (hI.2.2.2.2.2 p) ?_
      refine E_s (p' := 32) (st' := aI 31 :: _) rfl rfl ?_
      refine E_s (st' := aI (b32 (fun a b => a &&& b) (xs p) 31) :: _) rfl rfl ?_
      obtain ⟨op, hop, eop⟩ := and31 (xs p)
      rw [eop]
      rcases (show ((op : Nat) : Int) = 0 ∨ ((op : Nat) : Int) = 1 ∨ ((op : Nat) : Int) = 2 ∨ ((op : Nat) : Int) = 3 ∨ ((op : Nat) : Int) = 4 ∨ ((op : Nat) : Int) = 5 ∨ ((op : Nat) : Int) = 6 ∨ ((op : Nat) : Int) = 7 ∨ ((op : Nat) : Int) = 8 ∨ ((op : Nat) : Int) = 9 ∨ ((op : Nat) : Int) = 10 ∨ ((op : Nat) : Int) = 11 ∨ ((op : Nat) : Int) = 12 ∨ ((op : Nat) : Int) = 13 ∨ ((op : Nat) : Int) = 14 ∨ ((op : Nat) : Int) = 15 ∨ ((op : Nat) : Int) = 16 ∨ ((op : Nat) : Int) = 17 ∨ ((op : Nat) : Int) = 18 ∨ ((op : Nat) : Int) = 19 ∨ ((op : Nat) : Int) = 20 ∨ ((op : Nat) : Int) = 21 ∨ ((op : Nat) : Int) = 22 ∨ ((op : Nat) : Int) = 23 ∨ ((op : Nat) : Int) = 24 ∨ ((op : Nat) : Int) = 25 ∨ ((op : Nat) : Int) = 26 ∨ ((op : Nat) : Int) = 27 ∨ (((op : Nat) : Int) ≠ 0 ∧ ((op : Nat) : Int) ≠ 1 ∧ ((op : Nat) : Int) ≠ 2 ∧ ((op : Nat) : Int) ≠ 3 ∧ ((op : Nat) : Int) ≠ 4 ∧ ((op : Nat) : Int) ≠ 5 ∧ ((op : Nat) : Int) ≠ 6 ∧ ((op : Nat) : Int) ≠ 7 ∧ ((op : Nat) : Int) ≠ 8 ∧ ((op : Nat) : Int) ≠ 9 ∧ ((op : Nat) : Int) ≠ 10 ∧ ((op : Nat) : Int) ≠ 11 ∧ ((op : Nat) : Int) ≠ 12 ∧ ((op : Nat) : Int) ≠ 13 ∧ ((op : Nat) : Int) ≠ 14 ∧ ((op : Nat) : Int) ≠ 15 ∧ ((op : Nat) : Int) ≠ 16 ∧ ((op : Nat) : Int) ≠ 17 ∧ ((op : Nat) : Int) ≠ 18 ∧ ((op : Nat) : Int) ≠ 19 ∧ ((op : Nat) : Int) ≠ 20 ∧ ((op : Nat) : Int) ≠ 21 ∧ ((op : Nat) : Int) ≠ 22 ∧ ((op : Nat) : Int) ≠ 23 ∧ ((op : Nat) : Int) ≠ 24 ∧ ((op : Nat) : Int) ≠ 25 ∧ ((op : Nat) : Int) ≠ 26 ∧ ((op : Nat) : Int) ≠ 27) by omega) with h_2 | h_3 | h_4 | h_5 | h_6 | h_7 | h_8 | h_9 | h_10 | h_11 | h_12 | h_13 | h_14 | h_15 | h_16 | h_17 | h_18 | h_19 | h_20 | h_21 | h_22 | h_23 | h_24 | h_25 | h_26 | h_27 | h_28 | h_29 | h_30
      · refine E_valv h_2 ?_
        refine E_s (p' := 160) rfl rfl ?_
        exact st_cord hI hx32 hp hl9 (hk hp)
      · refine E_valv h_3 ?_
        refine E_s (p' := 213) rfl rfl ?_
        exact st_hang hI hx32 hp hl9 (hk hp)
      · refine E_valv h_4 ?_
        refine E_s (p' := 266) rfl rfl ?_
        exact st_knot hI hx32 hp hl9 (hk hp)
      · refine E_valv h_5 ?_
        refine E_s (p' := 329) rfl rfl ?_
        exact st_untie hI hx32 hp hl9 (hk hp)
      · refine E_valv h_6 ?_
        refine E_s (p' := 372) rfl rfl ?_
        exact st_tear hI hx32 hp hl9 (hk hp)
      · refine E_valv h_7 ?_
        refine E_s (p' := 415) rfl rfl ?_
        exact st_tie hI hx32 hp hl9 (hk hp)
      · refine E_valv h_8 ?_
        refine E_s (p' := 458) rfl rfl ?_
        exact st_gap hI hx32 hp hl9 (hk hp)
      · refine E_valv h_9 ?_
        refine E_s (p' := 491) rfl rfl ?_
        exact st_clear hI hx32 hp hl9 (hk hp)
      · refine E_valv h_10 ?_
        refine E_s (p' := 514) rfl rfl ?_
        exact st_copy hI hx32 hp hl9 (hk hp)
      · refine E_valv h_11 ?_
        refine E_s (p' := 547) rfl rfl ?_
        exact st_about hI hx32 hp hl9 (hk hp)
      · refine E_valv h_12 ?_
        refine E_s (p' := 590) rfl rfl ?_
        exact st_knotAt hI hx32 hp hl9 (hk hp)
      · refine E_valv h_13 ?_
        refine E_s (p' := 643) rfl rfl ?_
        exact st_levels hI hx32 hp hl9 (hk hp)
      · refine E_valv h_14 ?_
        refine E_s (p' := 666) rfl rfl ?_
        exact st_level hI hx32 hp hl9 (hk hp)
      · refine E_valv h_15 ?_
        refine E_s (p' := 709) rfl rfl ?_
        exact st_number hI hx32 hp hl9 (hk hp)
      · refine E_valv h_16 ?_
        refine E_s (p' := 742) rfl rfl ?_
        exact st_under hI hx32 hp hl9 (hk hp)
      · refine E_valv h_17 ?_
        refine E_s (p' := 775) rfl rfl ?_
        exact st_sum hI hx32 hp hl9 (hk hp)
      · refine E_valv h_18 ?_
        refine E_s (p' := 808) rfl rfl ?_
        exact st_part hI hx32 hp hl9 (hk hp)
      · refine E_valv h_19 ?_
        refine E_s (p' := 841) rfl rfl ?_
        exact st_drop hI hx32 hp hl9 (hk hp)
      · refine E_valv h_20 ?_
        refine E_s (p' := 864) rfl rfl ?_
        exact st_sumAt hI hx32 hp hl9 (hk hp)
      · refine E_valv h_21 ?_
        refine E_s (p' := 907) rfl rfl ?_
        exact st_settle hI hx32 hp hl9 (hk hp)
      · refine E_valv h_22 ?_
        refine E_s (p' := 930) rfl rfl ?_
        exact st_span hI hx32 hp hl9 (hk hp)
      · refine E_valv h_23 ?_
        refine E_s (p' := 973) rfl rfl ?_
        exact st_cure hI hx32 hp hl9 (hk hp)
      · refine E_valv h_24 ?_
        refine E_s (p' := 996) rfl rfl ?_
        exact st_cured hI hx32 hp hl9 (hk hp)
      · refine E_valv h_25 ?_
        refine E_s (p' := 1019) rfl rfl ?_
        exact st_found hI hx32 hp hl9 (hk hp)
      · refine E_valv h_26 ?_
        refine E_s (p' := 1042) rfl rfl ?_
        exact st_grouping hI hx32 hp hl9 (hk hp)
      · refine E_valv h_27 ?_
        refine E_s (p' := 1075) rfl rfl ?_
        exact st_period hI hx32 hp hl9 (hk hp)
      · refine E_valv h_28 ?_
        refine E_s (p' := 1108) rfl rfl ?_
        exact st_likeness hI hx32 hp hl9 (hk hp)
      · refine E_valv h_29 ?_
        refine E_s (p' := 1141) rfl rfl ?_
        exact st_count hI hx32 hp hl9 (hk hp)
      · refine E_tabO rfl (by omega) (by decide) ?_
        refine E_go (p' := 1174) (L' := [some (aA 0), some (aA 1), some (aA 124), some (aI ((p : Nat) : Int))]) (st' := []) rfl rfl rfl ?_
        exact hk hp _ _ _ _ _ hI
end
theorem whole_start {p : Program} {e : Env} {s : State} {m : MethodId} {below : List Frame} {meth : Method} {c : Code} (l : Launch) {b L : Nat} {xs : Nat → Int32} (hL : L ≤ 3072) (C0 : lw_At p s m meth c b L xs) : W p l e room_1 s m #[Value.ref b] below meth c s.heap [] 0 0 (lw_Z below #[Value.ref b] s) (entryFrame m ([Value.ref b] : List Value).toArray 4) := by
  have h : E 0 0 (entL 0 [aA 0]) [] (sx0 (m0 fun j => (xs j).toInt) L) PQ := by
    refine ctor _ _ ?_
    exact yl_law (fun j => i32r (xs j)) hL (L + 1) 0 _ _ _ _ _ (by omega) (IV0 _ L) (by omega)
  obtain ⟨n, v, s2, hr, h1, h2⟩ := h
  subst h1
  exact law_of l (by omega) C0 n s2 hr (by omega) (by rw [h2]; decide +kernel)
