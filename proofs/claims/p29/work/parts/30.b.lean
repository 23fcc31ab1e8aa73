section
variable {len p n : Nat} {m : Mm} {Q : Option AV → Sx → Prop} {S : Nat → RD} {xs : Nat → Int} {l1 l2 : List (Nat × Nat)}
theorem st_cord (hI : IV xs S l1 l2 n m) (hx32 : ∀ j, -2147483648 ≤ xs j ∧ xs j ≤ 2147483647) (hp : p + 6 ≤ len) (hl9 : len ≤ 3072) (hk : ∀ (S : Nat → RD) (l1 l2 : List (Nat × Nat)) (n : Nat) (m : Mm), IV xs S l1 l2 n m → E 0 1174 [some (aA 0), some (aA 1), some (aA 124), some (aI ((p : Nat) : Int))] [] (m, tl len) Q) : E 0 160 [some (aA 0), some (aA 1), some (aA 124), some (aI ((p : Nat) : Int))] [] (m, tl len) Q := by
  refine E_s (p' := 161) (st' := aA 1 :: _) rfl rfl ?_
  refine E_s (p' := 162) (st' := aA 0 :: _) rfl rfl ?_
  refine E_s (p' := 163) (st' := aI ((p : Nat) : Int) :: _) rfl rfl ?_
  refine E_s (p' := 164) (st' := aI 1 :: _) rfl rfl ?_
  refine E_add (v := ((p + 1 : Nat) : Int)) rfl (by omega) (by omega) ?_
  refine E_scr (j := ((p + 1 : Nat) : Int)) (v := (((xs (p + 1))))) rfl (inbN (len := len) (by omega)) (hI.2.2.2.2.2 (p + 1)) ?_
  refine E_s (p' := 167) (st' := aA 0 :: _) rfl rfl ?_
  refine E_s (p' := 168) (st' := aI ((p : Nat) : Int) :: _) rfl rfl ?_
  refine E_s (p' := 169) (st' := aI 2 :: _) rfl rfl ?_
  refine E_add (v := ((p + 2 : Nat) : Int)) rfl (by omega) (by omega) ?_
  refine E_scr (j := ((p + 2 : Nat) : Int)) (v := (((xs (p + 2))))) rfl (inbN (len := len) (by omega)) (hI.2.2.2.2.2 (p + 2)) ?_
  refine E_s (p' := 172) (st' := aA 0 :: _) rfl rfl ?_
  refine E_s (p' := 173) (st' := aI ((p : Nat) : Int) :: _) rfl rfl ?_
  refine E_s (p' := 174) (st' := aI 3 :: _) rfl rfl ?_
  refine E_add (v := ((p + 3 : Nat) : Int)) rfl (by omega) (by omega) ?_
  refine E_scr (j := ((p + 3 : Nat) : Int)) (v := (((xs (p + 3))))) rfl (inbN (len := len) (by omega)) (hI.2.2.2.2.2 (p + 3)) ?_
  refine E_s (p' := 177) (st' := aA 0 :: _) rfl rfl ?_
  refine E_s (p' := 178) (st' := aI ((p : Nat) : Int) :: _) rfl rfl ?_
  refine E_s (p' := 179) (st' := aI 4 :: _) rfl rfl ?_
  refine E_add (v := ((p + 4 : Nat) : Int)) rfl (by omega) (by omega) ?_
  refine E_scr (j := ((p + 4 : Nat) : Int)) (v := (((xs (p + 4))))) rfl (inbN (len := len) (by omega)) (hI.2.2.2.2.2 (p + 4)) ?_
  refine E_callV (k' := 11) (a := 1) (r := []) (L0 := [some (aA 1), some (aI (((xs (p + 1))))), some (aI (((xs (p + 2))))), some (aI (((xs (p + 3))))), some (aI (((xs (p + 4))))), none]) rfl rfl rfl rfl rfl rfl rfl rfl rfl rfl ?_
  refine C_cord hI.1 (fun m1 hS1 hF1 => ?_)
  refine E_go (p' := 184) (L' := [some (aA 0), some (aA 1), some (aA 124), some (aI ((p : Nat) : Int))]) (st' := [aI (((on1 S (((xs (p + 1)))) (-2) (oCord (((xs (p + 2)))) (((xs (p + 3)))) (((xs (p + 4)))))).1))]) rfl rfl rfl ?_
  have hm1 := hI.mid (fun b j hb => hF1 b j (by omega))
  refine E_s (p' := 185) rfl rfl ?_
  refine E_s (p' := 186) (st' := aA 124 :: _) rfl rfl ?_
  refine E_s (p' := 187) (st' := aA 0 :: _) rfl rfl ?_
  refine E_s (p' := 188) (st' := aI ((p : Nat) : Int) :: _) rfl rfl ?_
  refine E_s (p' := 189) (st' := aI 1 :: _) rfl rfl ?_
  refine E_add (v := ((p + 1 : Nat) : Int)) rfl (by omega) (by omega) ?_
  refine E_scr (j := ((p + 1 : Nat) : Int)) (v := (((xs (p + 1))))) rfl (inbN (len := len) (by omega)) (hm1.2.2.2 (p + 1)) ?_
  refine E_s (p' := 192) (st' := aA 0 :: _) rfl rfl ?_
  refine E_s (p' := 193) (st' := aI ((p : Nat) : Int) :: _) rfl rfl ?_
  refine E_s (p' := 194) (st' := aI 2 :: _) rfl rfl ?_
  refine E_add (v := ((p + 2 : Nat) : Int)) rfl (by omega) (by omega) ?_
  refine E_scr (j := ((p + 2 : Nat) : Int)) (v := (((xs (p + 2))))) rfl (inbN (len := len) (by omega)) (hm1.2.2.2 (p + 2)) ?_
  refine E_s (p' := 197) (st' := aA 0 :: _) rfl rfl ?_
  refine E_s (p' := 198) (st' := aI ((p : Nat) : Int) :: _) rfl rfl ?_
  refine E_s (p' := 199) (st' := aI 3 :: _) rfl rfl ?_
  refine E_add (v := ((p + 3 : Nat) : Int)) rfl (by omega) (by omega) ?_
  refine E_scr (j := ((p + 3 : Nat) : Int)) (v := (((xs (p + 3))))) rfl (inbN (len := len) (by omega)) (hm1.2.2.2 (p + 3)) ?_
  refine E_s (p' := 202) (st' := aA 0 :: _) rfl rfl ?_
  refine E_s (p' := 203) (st' := aI ((p : Nat) : Int) :: _) rfl rfl ?_
  refine E_s (p' := 204) (st' := aI 4 :: _) rfl rfl ?_
  refine E_add (v := ((p + 4 : Nat) : Int)) rfl (by omega) (by omega) ?_
  refine E_scr (j := ((p + 4 : Nat) : Int)) (v := (((xs (p + 4))))) rfl (inbN (len := len) (by omega)) (hm1.2.2.2 (p + 4)) ?_
  refine E_callV (k' := 128) (a := 124) (r := []) (L0 := [some (aA 124), some (aI (((xs (p + 1))))), some (aI (((xs (p + 2))))), some (aI (((xs (p + 3))))), some (aI (((xs (p + 4)))))]) rfl rfl rfl rfl rfl rfl rfl rfl rfl rfl ?_
  refine M_cord hm1.1 (fun m2 hS2 hF2 => ?_)
  refine E_go (p' := 209) (L' := [some (aA 0), some (aA 1), some (aA 124), some (aI ((p : Nat) : Int))]) (st' := [aI (((on1 S (((xs (p + 1)))) (-2) (oCord (((xs (p + 2)))) (((xs (p + 3)))) (((xs (p + 4)))))).1))]) rfl rfl rfl ?_
  refine E_s (p' := 210) rfl rfl ?_
  refine E_s (p' := 1174) rfl rfl ?_
  exact hk _ _ _ _ _ (hI.step hS1 hF1 hS2 hF2)
theorem st_hang (hI : IV xs S l1 l2 n m) (hx32 : ∀ j, -2147483648 ≤ xs j ∧ xs j ≤ 2147483647) (hp : p + 6 ≤ len) (hl9 : len ≤ 3072) (hk : ∀ (S : Nat → RD) (l1 l2 : List (Nat × Nat)) (n : Nat) (m : Mm), IV xs S l1 l2 n m → E 0 1174 [some (aA 0), some (aA 1), some (aA 124), some (aI ((p : Nat) : Int))] [] (m, tl len) Q) : E 0 213 [some (aA 0), some (aA 1), some (aA 124), some (aI ((p : Nat) : Int))] [] (m, tl len) Q := by
  refine E_s (p' := 214) (st' := aA 1 :: _) rfl rfl ?_
  refine E_s (p' := 215) (st' := aA 0 :: _) rfl rfl ?_
  refine E_s (p' := 216) (st' := aI ((p : Nat) : Int) :: _) rfl rfl ?_
  refine E_s (p' := 217) (st' := aI 1 :: _) rfl rfl ?_
  refine E_add (v := ((p + 1 : Nat) : Int)) rfl (by omega) (by omega) ?_
  refine E_scr (j := ((p + 1 : Nat) : Int)) (v := (((xs (p + 1))))) rfl (inbN (len := len) (by omega)) (hI.2.2.2.2.2 (p + 1)) ?_
  refine E_s (p' := 220) (st' := aA 0 :: _) rfl rfl ?_
  refine E_s (p' := 221) (st' := aI ((p : Nat) : Int) :: _) rfl rfl ?_
  refine E_s (p' := 222) (st' := aI 2 :: _) rfl rfl ?_
  refine E_add (v := ((p + 2 : Nat) : Int)) rfl (by omega) (by omega) ?_
  refine E_scr (j := ((p + 2 : Nat) : Int)) (v := (((xs (p + 2))))) rfl (inbN (len := len) (by omega)) (hI.2.2.2.2.2 (p + 2)) ?_
  refine E_s (p' := 225) (st' := aA 0 :: _) rfl rfl ?_
  refine E_s (p' := 226) (st' := aI ((p : Nat) : Int) :: _) rfl rfl ?_
  refine E_s (p' := 227) (st' := aI 3 :: _) rfl rfl ?_
  refine E_add (v := ((p + 3 : Nat) : Int)) rfl (by omega) (by omega) ?_
  refine E_scr (j := ((p + 3 : Nat) : Int)) (v := (((xs (p + 3))))) rfl (inbN (len := len) (by omega)) (hI.2.2.2.2.2 (p + 3)) ?_
  refine E_s (p' := 230) (st' := aA 0 :: _) rfl rfl ?_
  refine E_s (p' := 231) (st' := aI ((p : Nat) : Int) :: _) rfl rfl ?_
  refine E_s (p' := 232) (st' := aI 4 :: _) rfl rfl ?_
  refine E_add (v := ((p + 4 : Nat) : Int)) rfl (by omega) (by omega) ?_
  refine E_scr (j := ((p + 4 : Nat) : Int)) (v := (((xs (p + 4))))) rfl (inbN (len := len) (by omega)) (hI.2.2.2.2.2 (p + 4)) ?_
  refine E_callV (k' := 16) (a := 1) (r := []) (L0 := [some (aA 1), some (aI (((xs (p + 1))))), some (aI (((xs (p + 2))))), some (aI (((xs (p + 3))))), some (aI (((xs (p + 4))))), none]) rfl rfl rfl rfl rfl rfl rfl rfl rfl rfl ?_
  refine C_hang hI.1 (fun m1 hS1 hF1 => ?_)
  refine E_go (p' := 237) (L' := [some (aA 0), some (aA 1), some (aA 124), some (aI ((p : Nat) : Int))]) (st' := [aI (((on1 S (((xs (p + 1)))) (-2) (oHang (((xs (p + 2)))) (((xs (p + 3)))) (((xs (p + 4)))))).1))]) rfl rfl rfl ?_
  have hm1 := hI.mid (fun b j hb => hF1 b j (by omega))
  refine E_s (p' := 238) rfl rfl ?_
  refine E_s (p' := 239) (st' := aA 124 :: _) rfl rfl ?_
  refine E_s (p' := 240) (st' := aA 0 :: _) rfl rfl ?_
  refine E_s (p' := 241) (st' := aI ((p : Nat) : Int) :: _) rfl rfl ?_
  refine E_s (p' := 242) (st' := aI 1 :: _) rfl rfl ?_
  refine E_add (v := ((p + 1 : Nat) : Int)) rfl (by omega) (by omega) ?_
  refine E_scr (j := ((p + 1 : Nat) : Int)) (v := (((xs (p + 1))))) rfl (inbN (len := len) (by omega)) (hm1.2.2.2 (p + 1)) ?_
  refine E_s (p' := 245) (st' := aA 0 :: _) rfl rfl ?_
  refine E_s (p' := 246) (st' := aI ((p : Nat) : Int) :: _) rfl rfl ?_
  refine E_s (p' := 247) (st' := aI 2 :: _) rfl rfl ?_
  refine E_add (v := ((p + 2 : Nat) : Int)) rfl (by omega) (by omega) ?_
  refine E_scr (j := ((p + 2 : Nat) : Int)) (v := (((xs (p + 2))))) rfl (inbN (len := len) (by omega)) (hm1.2.2.2 (p + 2)) ?_
  refine E_s (p' := 250) (st' := aA 0 :: _) rfl rfl ?_
  refine E_s (p' := 251) (st' := aI ((p : Nat) : Int) :: _) rfl rfl ?_
  refine E_s (p' := 252) (st' := aI 3 :: _) rfl rfl ?_
  refine E_add (v := ((p + 3 : Nat) : Int)) rfl (by omega) (by omega) ?_
  refine E_scr (j := ((p + 3 : Nat) : Int)) (v := (((xs (p + 3))))) rfl (inbN (len := len) (by omega)) (hm1.2.2.2 (p + 3)) ?_
  refine E_s (p' := 255) (st' := aA 0 :: _) rfl rfl ?_
  refine E_s (p' := 256) (st' := aI ((p : Nat) : Int) :: _) rfl rfl ?_
  refine E_s (p' := 257) (st' := aI 4 :: _) rfl rfl ?_
  refine E_add (v := ((p + 4 : Nat) : Int)) rfl (by omega) (by omega) ?_
  refine E_scr (j := ((p + 4 : Nat) : Int)) (v := (((xs (p + 4))))) rfl (inbN (len := len) (by omega)) (hm1.2.2.2 (p + 4)) ?_
  refine E_callV (k' := 134) (a := 124) (r := []) (L0 := [some (aA 124), some (aI (((xs (p + 1))))), some (aI (((xs (p + 2))))), some (aI (((xs (p + 3))))), some (aI (((xs (p + 4))))), none, none]) rfl rfl rfl rfl rfl rfl rfl rfl rfl rfl ?_
  refine M_hang hm1.1 (fun m2 hS2 hF2 => ?_)
  refine E_go (p' := 262) (L' := [some (aA 0), some (aA 1), some (aA 124), some (aI ((p : Nat) : Int))]) (st' := [aI (((on1 S (((xs (p + 1)))) (-2) (oHang (((xs (p + 2)))) (((xs (p + 3)))) (((xs (p + 4)))))).1))]) rfl rfl rfl ?_
  refine E_s (p' := 263) rfl rfl ?_
  refine E_s (p' := 1174) rfl rfl ?_
  exact hk _ _ _ _ _ (hI.step hS1 hF1 hS2 hF2)
theorem st_knot (hI : IV xs S l1 l2 n m) (hx32 : ∀ j, -2147483648 ≤ xs j ∧ xs j ≤ 2147483647) (hp : p + 6 ≤ len) (hl9 : len ≤ 3072) (hk : ∀ (S : Nat → RD) (l1 l2 : List (Nat × Nat)) (n : Nat) (m : Mm), IV xs S l1 l2 n m → E 0 1174 [some (aA 0), some (aA 1), some (aA 124), some (aI ((p : Nat) : Int))] [] (m, tl len) Q) : E 0 266 [some (aA 0), some (aA 1), some (aA 124), some (aI ((p : Nat) : Int))] [] (m, tl len) Q := by
  refine E_s (p' := 267) (st' := aA 1 :: _) rfl rfl ?_
  refine E_s (p' := 268) (st' := aA 0 :: _) rfl rfl ?_
  refine E_s (p' := 269) (st' := aI ((p : Nat) : Int) :: _) rfl rfl ?_
  refine E_s (p' := 270) (st' := aI 1 :: _) rfl rfl ?_
  refine E_add (v := ((p + 1 : Nat) : Int)) rfl (by omega) (by omega) ?_
  refine E_scr (j := ((p + 1 : Nat) : Int)) (v := (((xs (p + 1))))) rfl (inbN (len := len) (by omega)) (hI.2.2.2.2.2 (p + 1)) ?_
  refine E_s (p' := 273) (st' := aA 0 :: _) rfl rfl ?_
  refine E_s (p' := 274) (st' := aI ((p : Nat) : Int) :: _) rfl rfl ?_
  refine E_s (p' := 275) (st' := aI 2 :: _) rfl rfl ?_
  refine E_add (v := ((p + 2 : Nat) : Int)) rfl (by omega) (by omega) ?_
  refine E_scr (j := ((p + 2 : Nat) : Int)) (v := (((xs (p + 2))))) rfl (inbN (len := len) (by omega)) (hI.2.2.2.2.2 (p + 2)) ?_
  refine E_s (p' := 278) (st' := aA 0 :: _) rfl rfl ?_
  refine E_s (p' := 279) (st' := aI ((p : Nat) : Int) :: _) rfl rfl ?_
  refine E_s (p' := 280) (st' := aI 3 :: _) rfl rfl ?_
  refine E_add (v := ((p + 3 : Nat) : Int)) rfl (by omega) (by omega) ?_
  refine E_scr (j := ((p + 3 : Nat) : Int)) (v := (((xs (p + 3))))) rfl (inbN (len := len) (by omega)) (hI.2.2.2.2.2 (p + 3)) ?_
  refine E_s (p' := 283) (st' := aA 0 :: _) rfl rfl ?_
  refine E_s (p' := 284) (st' := aI ((p : Nat) : Int) :: _) rfl rfl ?_
  refine E_s (p' := 285) (st' := aI 4 :: _) rfl rfl ?_
  refine E_add (v := ((p + 4 : Nat) : Int)) rfl (by omega) (by omega) ?_
  refine E_scr (j := ((p + 4 : Nat) : Int)) (v := (((xs (p + 4))))) rfl (inbN (len := len) (by omega)) (hI.2.2.2.2.2 (p + 4)) ?_
  refine E_s (p' := 288) (st' := aA 0 :: _) rfl rfl ?_
  refine E_s (p' := 289) (st' := aI ((p : Nat) : Int) :: _) rfl rfl ?_
  refine E_s (p' := 290) (st' := aI 5 :: _) rfl rfl ?_
  refine E_add (v := ((p + 5 : Nat) : Int)) rfl (by omega) (by omega) ?_
  refine E_scr (j := ((p + 5 : Nat) : Int)) (v := (((xs (p + 5))))) rfl (inbN (len := len) (by omega)) (hI.2.2.2.2.2 (p + 5)) ?_
  refine E_callV (k' := 19) (a := 1) (r := []) (L0 := [some (aA 1), some (aI (((xs (p + 1))))), some (aI (((xs (p + 2))))), some (aI (((xs (p + 3))))), some (aI (((xs (p + 4))))), some (aI (((xs (p + 5))))), none]) rfl rfl rfl rfl rfl rfl rfl rfl rfl rfl ?_
  refine C_knot hI.1 (fun m1 hS1 hF1 => ?_)
  refine E_go (p' := 295) (L' := [some (aA 0), some (aA 1), some (aA 124), some (aI ((p : Nat) : Int))]) (st' := [aI (((on1 S (((xs (p + 1)))) (-2) (oKnot (((xs (p + 2)))) (((xs (p + 3)))) (((xs (p + 4)))) (((xs (p + 5)))))).1))]) rfl rfl rfl ?_
  have hm1 := hI.mid (fun b j hb => hF1 b j (by omega))
  refine E_s (p' := 296) rfl rfl ?_
  refine E_s (p' := 297) (st' := aA 124 :: _) rfl rfl ?_
  refine E_s (p' := 298) (st' := aA 0 :: _) rfl rfl ?_
  refine E_s (p' := 299) (st' := aI ((p : Nat) : Int) :: _) rfl rfl ?_
  refine E_s (p' := 300) (st' := aI 1 :: _) rfl rfl ?_
  refine E_add (v := ((p + 1 : Nat) : Int)) rfl (by omega) (by omega) ?_
  refine E_scr (j := ((p + 1 : Nat) : Int)) (v := (((xs (p + 1))))) rfl (inbN (len := len) (by omega)) (hm1.2.2.2 (p + 1)) ?_
  refine E_s (p' := 303) (st' := aA 0 :: _) rfl rfl ?_
  refine E_s (p' := 304) (st' := aI ((p : Nat) : Int) :: _) rfl rfl ?_
  refine E_s (p' := 305) (st' := aI 2 :: _) rfl rfl ?_
  refine E_add (v := ((p + 2 : Nat) : Int)) rfl (by omega) (by omega) ?_
  refine E_scr (j := ((p + 2 : Nat) : Int)) (v := (((xs (p + 2))))) rfl (inbN (len := len) (by omega)) (hm1.2.2.2 (p + 2)) ?_
  refine E_s (p' := 308) (st' := aA 0 :: _) rfl rfl ?_
  refine E_s (p' := 309) (st' := aI ((p : Nat) : Int) :: _) rfl rfl ?_
  refine E_s (p' := 310) (st' := aI 3 :: _) rfl rfl ?_
  refine E_add (v := ((p + 3 : Nat) : Int)) rfl (by omega) (by omega) ?_
  refine E_scr (j := ((p + 3 : Nat) : Int)) (v := (((xs (p + 3))))) rfl (inbN (len := len) (by omega)) (hm1.2.2.2 (p + 3)) ?_
  refine E_s (p' := 313) (st' := aA 0 :: _) rfl rfl ?_
  refine E_s (p' := 314) (st' := aI ((p : Nat) : Int) :: _) rfl rfl ?_
  refine E_s (p' := 315) (st' := aI 4 :: _) rfl rfl ?_
  refine E_add (v := ((p + 4 : Nat) : Int)) rfl (by omega) (by omega) ?_
  refine E_scr (j := ((p + 4 : Nat) : Int)) (v := (((xs (p + 4))))) rfl (inbN (len := len) (by omega)) (hm1.2.2.2 (p + 4)) ?_
  refine E_s (p' := 318) (st' := aA 0 :: _) rfl rfl ?_
  refine E_s (p' := 319) (st' := aI ((p : Nat) : Int) :: _) rfl rfl ?_
  refine E_s (p' := 320) (st' := aI 5 :: _) rfl rfl ?_
  refine E_add (v := ((p + 5 : Nat) : Int)) rfl (by omega) (by omega) ?_
  refine E_scr (j := ((p + 5 : Nat) : Int)) (v := (((xs (p + 5))))) rfl (inbN (len := len) (by omega)) (hm1.2.2.2 (p + 5)) ?_
  refine E_callV (k' := 136) (a := 124) (r := []) (L0 := [some (aA 124), some (aI (((xs (p + 1))))), some (aI (((xs (p + 2))))), some (aI (((xs (p + 3))))), some (aI (((xs (p + 4))))), some (aI (((xs (p + 5))))), none]) rfl rfl rfl rfl rfl rfl rfl rfl rfl rfl ?_
  refine M_knot hm1.1 (fun m2 hS2 hF2 => ?_)
  refine E_go (p' := 325) (L' := [some (aA 0), some (aA 1), some (aA 124), some (aI ((p : Nat) : Int))]) (st' := [aI (((on1 S (((xs (p + 1)))) (-2) (oKnot (((xs (p + 2)))) (((xs (p + 3)))) (((xs (p + 4)))) (((xs (p + 5)))))).1))]) rfl rfl rfl ?_
  refine E_s (p' := 326) rfl rfl ?_
  refine E_s (p' := 1174) rfl rfl ?_
  exact hk _ _ _ _ _ (hI.step hS1 hF1 hS2 hF2)
theorem st_untie (hI : IV xs S l1 l2 n m) (hx32 : ∀ j, -2147483648 ≤ xs j ∧ xs j ≤ 2147483647) (hp : p + 6 ≤ len) (hl9 : len ≤ 3072) (hk : ∀ (S : Nat → RD) (l1 l2 : List (Nat × Nat)) (n : Nat) (m : Mm), IV xs S l1 l2 n m → E 0 1174 [some (aA 0), some (aA 1), some (aA 124), some (aI ((p : Nat) : Int))] [] (m, tl len) Q) : E 0 329 [some (aA 0), some (aA 1), some (aA 124), some (aI ((p : Nat) : Int))] [] (m, tl len) Q := by
  refine E_s (p' := 330) (st' := aA 1 :: _) rfl rfl ?_
  refine E_s (p' := 331) (st' := aA 0 :: _) rfl rfl ?_
  refine E_s (p' := 332) (st' := aI ((p : Nat) : Int) :: _) rfl rfl ?_
  refine E_s (p' := 333) (st' := aI 1 :: _) rfl rfl ?_
  refine E_add (v := ((p + 1 : Nat) : Int)) rfl (by omega) (by omega) ?_
  refine E_scr (j := ((p + 1 : Nat) : Int)) (v := (((xs (p + 1))))) rfl (inbN (len := len) (by omega)) (hI.2.2.2.2.2 (p + 1)) ?_
  refine E_s (p' := 336) (st' := aA 0 :: _) rfl rfl ?_
  refine E_s (p' := 337) (st' := aI ((p : Nat) : Int) :: _) rfl rfl ?_
  refine E_s (p' := 338) (st' := aI 2 :: _) rfl rfl ?_
  refine E_add (v := ((p + 2 : Nat) : Int)) rfl (by omega) (by omega) ?_
  refine E_scr (j := ((p + 2 : Nat) : Int)) (v := (((xs (p + 2))))) rfl (inbN (len := len) (by omega)) (hI.2.2.2.2.2 (p + 2)) ?_
  refine E_s (p' := 341) (st' := aA 0 :: _) rfl rfl ?_
  refine E_s (p' := 342) (st' := aI ((p : Nat) : Int) :: _) rfl rfl ?_
  refine E_s (p' := 343) (st' := aI 3 :: _) rfl rfl ?_
  refine E_add (v := ((p + 3 : Nat) : Int)) rfl (by omega) (by omega) ?_
  refine E_scr (j := ((p + 3 : Nat) : Int)) (v := (((xs (p + 3))))) rfl (inbN (len := len) (by omega)) (hI.2.2.2.2.2 (p + 3)) ?_
  refine E_callV (k' := 29) (a := 1) (r := []) (L0 := [some (aA 1), some (aI (((xs (p + 1))))), some (aI (((xs (p + 2))))), some (aI (((xs (p + 3))))), none]) rfl rfl rfl rfl rfl rfl rfl rfl rfl rfl ?_
  refine C_untie hI.1 (fun m1 hS1 hF1 => ?_)
  refine E_go (p' := 348) (L' := [some (aA 0), some (aA 1), some (aA 124), some (aI ((p : Nat) : Int))]) (st' := [aI (((on1 S (((xs (p + 1)))) (-1) (oUntie (((xs (p + 2)))) (((xs (p + 3)))))).1))]) rfl rfl rfl ?_
  have hm1 := hI.mid (fun b j hb => hF1 b j (by omega))
  refine E_s (p' := 349) rfl rfl ?_
  refine E_s (p' := 350) (st' := aA 124 :: _) rfl rfl ?_
  refine E_s (p' := 351) (st' := aA 0 :: _) rfl rfl ?_
  refine E_s (p' := 352) (st' := aI ((p : Nat) : Int) :: _) rfl rfl ?_
  refine E_s (p' := 353) (st' := aI 1 :: _) rfl rfl ?_
  refine E_add (v := ((p + 1 : Nat) : Int)) rfl (by omega) (by omega) ?_
  refine E_scr (j := ((p + 1 : Nat) : Int)) (v := (((xs (p + 1))))) rfl (inbN (len := len) (by omega)) (hm1.2.2.2 (p + 1)) ?_
  refine E_s (p' := 356) (st' := aA 0 :: _) rfl rfl ?_
  refine E_s (p' := 357) (st' := aI ((p : Nat) : Int) :: _) rfl rfl ?_
  refine E_s (p' := 358) (st' := aI 2 :: _) rfl rfl ?_
  refine E_add (v := ((p + 2 : Nat) : Int)) rfl (by omega) (by omega) ?_
  refine E_scr (j := ((p + 2 : Nat) : Int)) (v := (((xs (p + 2))))) rfl (inbN (len := len) (by omega)) (hm1.2.2.2 (p + 2)) ?_
  refine E_s (p' := 361) (st' := aA 0 :: _) rfl rfl ?_
  refine E_s (p' := 362) (st' := aI ((p : Nat) : Int) :: _) rfl rfl ?_
  refine E_s (p' := 363) (st' := aI 3 :: _) rfl rfl ?_
  refine E_add (v := ((p + 3 : Nat) : Int)) rfl (by omega) (by omega) ?_
  refine E_scr (j := ((p + 3 : Nat) : Int)) (v := (((xs (p + 3))))) rfl (inbN (len := len) (by omega)) (hm1.2.2.2 (p + 3)) ?_
  refine E_callV (k' := 139) (a := 124) (r := []) (L0 := [some (aA 124), some (aI (((xs (p + 1))))), some (aI (((xs (p + 2))))), some (aI (((xs (p + 3))))), none, none, none]) rfl rfl rfl rfl rfl rfl rfl rfl rfl rfl ?_
  refine M_untie hm1.1 (fun m2 hS2 hF2 => ?_)
  refine E_go (p' := 368) (L' := [some (aA 0), some (aA 1), some (aA 124), some (aI ((p : Nat) : Int))]) (st' := [aI (((on1 S (((xs (p + 1)))) (-1) (oUntie (((xs (p + 2)))) (((xs (p + 3)))))).1))]) rfl rfl rfl ?_
  refine E_s (p' := 369) rfl rfl ?_
  refine E_s (p' := 1174) rfl rfl ?_
  exact hk _ _ _ _ _ (hI.step hS1 hF1 hS2 hF2)
theorem st_tear (hI : IV xs S l1 l2 n m) (hx32 : ∀ j, -2147483648 ≤ xs j ∧ xs j ≤ 2147483647) (hp : p + 6 ≤ len) (hl9 : len ≤ 3072) (hk : ∀ (S : Nat → RD) (l1 l2 : List (Nat × Nat)) (n : Nat) (m : Mm), IV xs S l1 l2 n m → E 0 1174 [some (aA 0), some (aA 1), some (aA 124), some (aI ((p : Nat) : Int))] [] (m, tl len) Q) : E 0 372 [some (aA 0), some (aA 1), some (aA 124), some (aI ((p : Nat) : Int))] [] (m, tl len) Q := by
  refine E_s (p' := 373) (st' := aA 1 :: _) rfl rfl ?_
  refine E_s (p' := 374) (st' := aA 0 :: _) rfl rfl ?_
  refine E_s (p' := 375) (st' := aI ((p : Nat) : Int) :: _) rfl rfl ?_
  refine E_s (p' := 376) (st' := aI 1 :: _) rfl rfl ?_
  refine E_add (v := ((p + 1 : Nat) : Int)) rfl (by omega) (by omega) ?_
  refine E_scr (j := ((p + 1 : Nat) : Int)) (v := (((xs (p + 1))))) rfl (inbN (len := len) (by omega)) (hI.2.2.2.2.2 (p + 1)) ?_
  refine E_s (p' := 379) (st' := aA 0 :: _) rfl rfl ?_
  refine E_s (p' := 380) (st' := aI ((p : Nat) : Int) :: _) rfl rfl ?_
  refine E_s (p' := 381) (st' := aI 2 :: _) rfl rfl ?_
  refine E_add (v := ((p + 2 : Nat) : Int)) rfl (by omega) (by omega) ?_
  refine E_scr (j := ((p + 2 : Nat) : Int)) (v := (((xs (p + 2))))) rfl (inbN (len := len) (by omega)) (hI.2.2.2.2.2 (p + 2)) ?_
  refine E_s (p' := 384) (st' := aA 0 :: _) rfl rfl ?_
  refine E_s (p' := 385) (st' := aI ((p : Nat) : Int) :: _) rfl rfl ?_
  refine E_s (p' := 386) (st' := aI 3 :: _) rfl rfl ?_
  refine E_add (v := ((p + 3 : Nat) : Int)) rfl (by omega) (by omega) ?_
  refine E_scr (j := ((p + 3 : Nat) : Int)) (v := (((xs (p + 3))))) rfl (inbN (len := len) (by omega)) (hI.2.2.2.2.2 (p + 3)) ?_
  refine E_callV (k' := 31) (a := 1) (r := []) (L0 := [some (aA 1), some (aI (((xs (p + 1))))), some (aI (((xs (p + 2))))), some (aI (((xs (p + 3))))), none]) rfl rfl rfl rfl rfl rfl rfl rfl rfl rfl ?_
  refine C_tear hI.1 (fun m1 hS1 hF1 => ?_)
  refine E_go (p' := 391) (L' := [some (aA 0), some (aA 1), some (aA 124), some (aI ((p : Nat) : Int))]) (st' := [aI (((on1 S (((xs (p + 1)))) (-2) (oTear (((xs (p + 2)))) (((xs (p + 3)))))).1))]) rfl rfl rfl ?_
  have hm1 := hI.mid (fun b j hb => hF1 b j (by omega))
  refine E_s (p' := 392) rfl rfl ?_
  refine E_s (p' := 393) (st' := aA 124 :: _) rfl rfl ?_
  refine E_s (p' := 394) (st' := aA 0 :: _) rfl rfl ?_
  refine E_s (p' := 395) (st' := aI ((p : Nat) : Int) :: _) rfl rfl ?_
  refine E_s (p' := 396) (st' := aI 1 :: _) rfl rfl ?_
  refine E_add (v := ((p + 1 : Nat) : Int)) rfl (by omega) (by omega) ?_
  refine E_scr (j := ((p + 1 : Nat) : Int)) (v := (((xs (p + 1))))) rfl (inbN (len := len) (by omega)) (hm1.2.2.2 (p + 1)) ?_
  refine E_s (p' := 399) (st' := aA 0 :: _) rfl rfl ?_
  refine E_s (p' := 400) (st' := aI ((p : Nat) : Int) :: _) rfl rfl ?_
  refine E_s (p' := 401) (st' := aI 2 :: _) rfl rfl ?_
  refine E_add (v := ((p + 2 : Nat) : Int)) rfl (by omega) (by omega) ?_
  refine E_scr (j := ((p + 2 : Nat) : Int)) (v := (((xs (p + 2))))) rfl (inbN (len := len) (by omega)) (hm1.2.2.2 (p + 2)) ?_
  refine E_s (p' := 404) (st' := aA 0 :: _) rfl rfl ?_
  refine E_s (p' := 405) (st' := aI ((p : Nat) : Int) :: _) rfl rfl ?_
  refine E_s (p' := 406) (st' := aI 3 :: _) rfl rfl ?_
  refine E_add (v := ((p + 3 : Nat) : Int)) rfl (by omega) (by omega) ?_
  refine E_scr (j := ((p + 3 : Nat) : Int)) (v := (((xs (p + 3))))) rfl (inbN (len := len) (by omega)) (hm1.2.2.2 (p + 3)) ?_
  refine E_callV (k' := 140) (a := 124) (r := []) (L0 := [some (aA 124), some (aI (((xs (p + 1))))), some (aI (((xs (p + 2))))), some (aI (((xs (p + 3))))), none]) rfl rfl rfl rfl rfl rfl rfl rfl rfl rfl ?_
  refine M_tear hm1.1 (fun m2 hS2 hF2 => ?_)
  refine E_go (p' := 411) (L' := [some (aA 0), some (aA 1), some (aA 124), some (aI ((p : Nat) : Int))]) (st' := [aI (((on1 S (((xs (p + 1)))) (-2) (oTear (((xs (p + 2)))) (((xs (p + 3)))))).1))]) rfl rfl rfl ?_
  refine E_s (p' := 412) rfl rfl ?_
  refine E_s (p' := 1174) rfl rfl ?_
  exact hk _ _ _ _ _ (hI.step hS1 hF1 hS2 hF2)
theorem st_tie (hI : IV xs S l1 l2 n m) (hx32 : ∀ j, -2147483648 ≤ xs j ∧ xs j ≤ 2147483647) (hp : p + 6 ≤ len) (hl9 : len ≤ 3072) (hk : ∀ (S : Nat → RD) (l1 l2 : List (Nat × Nat)) (n : Nat) (m : Mm), IV xs S l1 l2 n m → E 0 1174 [some (aA 0), some (aA 1), some (aA 124), some (aI ((p : Nat) : Int))] [] (m, tl len) Q) : E 0 415 [some (aA 0), some (aA 1), some (aA 124), some (aI ((p : Nat) : Int))] [] (m, tl len) Q := by
  refine E_s (p' := 416) (st' := aA 1 :: _) rfl rfl ?_
  refine E_s (p' := 417) (st' := aA 0 :: _) rfl rfl ?_
  refine E_s (p' := 418) (st' := aI ((p : Nat) : Int) :: _) rfl rfl ?_
  refine E_s (p' := 419) (st' := aI 1 :: _) rfl rfl ?_
  refine E_add (v := ((p + 1 : Nat) : Int)) rfl (by omega) (by omega) ?_
  refine E_scr (j := ((p + 1 : Nat) : Int)) (v := (((xs (p + 1))))) rfl (inbN (len := len) (by omega)) (hI.2.2.2.2.2 (p + 1)) ?_
  refine E_s (p' := 422) (st' := aA 0 :: _) rfl rfl ?_
  refine E_s (p' := 423) (st' := aI ((p : Nat) : Int) :: _) rfl rfl ?_
  refine E_s (p' := 424) (st' := aI 2 :: _) rfl rfl ?_
  refine E_add (v := ((p + 2 : Nat) : Int)) rfl (by omega) (by omega) ?_
  refine E_scr (j := ((p + 2 : Nat) : Int)) (v := (((xs (p + 2))))) rfl (inbN (len := len) (by omega)) (hI.2.2.2.2.2 (p + 2)) ?_
  refine E_s (p' := 427) (st' := aA 0 :: _) rfl rfl ?_
  refine E_s (p' := 428) (st' := aI ((p : Nat) : Int) :: _) rfl rfl ?_
  refine E_s (p' := 429) (st' := aI 3 :: _) rfl rfl ?_
  refine E_add (v := ((p + 3 : Nat) : Int)) rfl (by omega) (by omega) ?_
  refine E_scr (j := ((p + 3 : Nat) : Int)) (v := (((xs (p + 3))))) rfl (inbN (len := len) (by omega)) (hI.2.2.2.2.2 (p + 3)) ?_
  refine E_callV (k' := 33) (a := 1) (r := []) (L0 := [some (aA 1), some (aI (((xs (p + 1))))), some (aI (((xs (p + 2))))), some (aI (((xs (p + 3))))), none, none]) rfl rfl rfl rfl rfl rfl rfl rfl rfl rfl ?_
  refine C_tie hI.1 (fun m1 hS1 hF1 => ?_)
  refine E_go (p' := 434) (L' := [some (aA 0), some (aA 1), some (aA 124), some (aI ((p : Nat) : Int))]) (st' := [aI (((on1 S (((xs (p + 1)))) (-2) (oTie (((xs (p + 2)))) (((xs (p + 3)))))).1))]) rfl rfl rfl ?_
  have hm1 := hI.mid (fun b j hb => hF1 b j (by omega))
  refine E_s (p' := 435) rfl rfl ?_
  refine E_s (p' := 436) (st' := aA 124 :: _) rfl rfl ?_
  refine E_s (p' := 437) (st' := aA 0 :: _) rfl rfl ?_
  refine E_s (p' := 438) (st' := aI ((p : Nat) : Int) :: _) rfl rfl ?_
  refine E_s (p' := 439) (st' := aI 1 :: _) rfl rfl ?_
  refine E_add (v := ((p + 1 : Nat) : Int)) rfl (by omega) (by omega) ?_
  refine E_scr (j := ((p + 1 : Nat) : Int)) (v := (((xs (p + 1))))) rfl (inbN (len := len) (by omega)) (hm1.2.2.2 (p + 1)) ?_
  refine E_s (p' := 442) (st' := aA 0 :: _) rfl rfl ?_
  refine E_s (p' := 443) (st' := aI ((p : Nat) : Int) :: _) rfl rfl ?_
  refine E_s (p' := 444) (st' := aI 2 :: _) rfl rfl ?_
  refine E_add (v := ((p + 2 : Nat) : Int)) rfl (by omega) (by omega) ?_
  refine E_scr (j := ((p + 2 : Nat) : Int)) (v := (((xs (p + 2))))) rfl (inbN (len := len) (by omega)) (hm1.2.2.2 (p + 2)) ?_
  refine E_s (p' := 447) (st' := aA 0 :: _) rfl rfl ?_
  refine E_s (p' := 448) (st' := aI ((p : Nat) : Int) :: _) rfl rfl ?_
  refine E_s (p' := 449) (st' := aI 3 :: _) rfl rfl ?_
  refine E_add (v := ((p + 3 : Nat) : Int)) rfl (by omega) (by omega) ?_
  refine E_scr (j := ((p + 3 : Nat) : Int)) (v := (((xs (p + 3))))) rfl (inbN (len := len) (by omega)) (hm1.2.2.2 (p + 3)) ?_
  refine E_callV (k' := 159) (a := 124) (r := []) (L0 := [some (aA 124), some (aI (((xs (p + 1))))), some (aI (((xs (p + 2))))), some (aI (((xs (p + 3))))), none, none, none, none]) rfl rfl rfl rfl rfl rfl rfl rfl rfl rfl ?_
  refine M_tie hm1.1 (fun m2 hS2 hF2 => ?_)
  refine E_go (p' := 454) (L' := [some (aA 0), some (aA 1), some (aA 124), some (aI ((p : Nat) : Int))]) (st' := [aI (((on1 S (((xs (p + 1)))) (-2) (oTie (((xs (p + 2)))) (((xs (p + 3)))))).1))]) rfl rfl rfl ?_
  refine E_s (p' := 455) rfl rfl ?_
  refine E_s (p' := 1174) rfl rfl ?_
  exact hk _ _ _ _ _ (hI.step hS1 hF1 hS2 hF2)
theorem st_gap (hI : IV xs S l1 l2 n m) (hx32 : ∀ j, -2147483648 ≤ xs j ∧ xs j ≤ 2147483647) (hp : p + 6 ≤ len) (hl9 : len ≤ 3072) (hk : ∀ (S : Nat → RD) (l1 l2 : List (Nat × Nat)) (n : Nat) (m : Mm), IV xs S l1 l2 n m → E 0 1174 [some (aA 0), some (aA 1), some (aA 124), some (aI ((p : Nat) : Int))] [] (m, tl len) Q) : E 0 458 [some (aA 0), some (aA 1), some (aA 124), some (aI ((p : Nat) : Int))] [] (m, tl len) Q := by
  refine E_s (p' := 459) (st' := aA 1 :: _) rfl rfl ?_
  refine E_s (p' := 460) (st' := aA 0 :: _) rfl rfl ?_
  refine E_s (p' := 461) (st' := aI ((p : Nat) : Int) :: _) rfl rfl ?_
  refine E_s (p' := 462) (st' := aI 1 :: _) rfl rfl ?_
  refine E_add (v := ((p + 1 : Nat) : Int)) rfl (by omega) (by omega) ?_
  refine E_scr (j := ((p + 1 : Nat) : Int)) (v := (((xs (p + 1))))) rfl (inbN (len := len) (by omega)) (hI.2.2.2.2.2 (p + 1)) ?_
  refine E_s (p' := 465) (st' := aA 0 :: _) rfl rfl ?_
  refine E_s (p' := 466) (st' := aI ((p : Nat) : Int) :: _) rfl rfl ?_
  refine E_s (p' := 467) (st' := aI 2 :: _) rfl rfl ?_
  refine E_add (v := ((p + 2 : Nat) : Int)) rfl (by omega) (by omega) ?_
  refine E_scr (j := ((p + 2 : Nat) : Int)) (v := (((xs (p + 2))))) rfl (inbN (len := len) (by omega)) (hI.2.2.2.2.2 (p + 2)) ?_
  refine E_callV (k' := 59) (a := 1) (r := []) (L0 := [some (aA 1), some (aI (((xs (p + 1))))), some (aI (((xs (p + 2))))), none, none]) rfl rfl rfl rfl rfl rfl rfl rfl rfl rfl ?_
  refine C_gap hI.1 (fun m1 hS1 hF1 => ?_)
  refine E_go (p' := 472) (L' := [some (aA 0), some (aA 1), some (aA 124), some (aI ((p : Nat) : Int))]) (st' := [aI (((on1 S (((xs (p + 1)))) (-2) (oGap (((xs (p + 2)))))).1))]) rfl rfl rfl ?_
  have hm1 := hI.mid (fun b j hb => hF1 b j (by omega))
  refine E_s (p' := 473) rfl rfl ?_
  refine E_s (p' := 474) (st' := aA 124 :: _) rfl rfl ?_
  refine E_s (p' := 475) (st' := aA 0 :: _) rfl rfl ?_
  refine E_s (p' := 476) (st' := aI ((p : Nat) : Int) :: _) rfl rfl ?_
  refine E_s (p' := 477) (st' := aI 1 :: _) rfl rfl ?_
  refine E_add (v := ((p + 1 : Nat) : Int)) rfl (by omega) (by omega) ?_
  refine E_scr (j := ((p + 1 : Nat) : Int)) (v := (((xs (p + 1))))) rfl (inbN (len := len) (by omega)) (hm1.2.2.2 (p + 1)) ?_
  refine E_s (p' := 480) (st' := aA 0 :: _) rfl rfl ?_
  refine E_s (p' := 481) (st' := aI ((p : Nat) : Int) :: _) rfl rfl ?_
  refine E_s (p' := 482) (st' := aI 2 :: _) rfl rfl ?_
  refine E_add (v := ((p + 2 : Nat) : Int)) rfl (by omega) (by omega) ?_
  refine E_scr (j := ((p + 2 : Nat) : Int)) (v := (((xs (p + 2))))) rfl (inbN (len := len) (by omega)) (hm1.2.2.2 (p + 2)) ?_
  refine E_callV (k' := 141) (a := 124) (r := []) (L0 := [some (aA 124), some (aI (((xs (p + 1))))), some (aI (((xs (p + 2))))), none]) rfl rfl rfl rfl rfl rfl rfl rfl rfl rfl ?_
  refine M_gap hm1.1 (fun m2 hS2 hF2 => ?_)
  refine E_go (p' := 487) (L' := [some (aA 0), some (aA 1), some (aA 124), some (aI ((p : Nat) : Int))]) (st' := [aI (((on1 S (((xs (p + 1)))) (-2) (oGap (((xs (p + 2)))))).1))]) rfl rfl rfl ?_
  refine E_s (p' := 488) rfl rfl ?_
  refine E_s (p' := 1174) rfl rfl ?_
  exact hk _ _ _ _ _ (hI.step hS1 hF1 hS2 hF2)
theorem st_clear (hI : IV xs S l1 l2 n m) (hx32 : ∀ j, -2147483648 ≤ xs j ∧ xs j ≤ 2147483647) (hp : p + 6 ≤ len) (hl9 : len ≤ 3072) (hk : ∀ (S : Nat → RD) (l1 l2 : List (Nat × Nat)) (n : Nat) (m : Mm), IV xs S l1 l2 n m → E 0 1174 [some (aA 0), some (aA 1), some (aA 124), some (aI ((p : Nat) : Int))] [] (m, tl len) Q) : E 0 491 [some (aA 0), some (aA 1), some (aA 124), some (aI ((p : Nat) : Int))] [] (m, tl len) Q := by
  refine E_s (p' := 492) (st' := aA 1 :: _) rfl rfl ?_
  refine E_s (p' := 493) (st' := aA 0 :: _) rfl rfl ?_
  refine E_s (p' := 494) (st' := aI ((p : Nat) : Int) :: _) rfl rfl ?_
  refine E_s (p' := 495) (st' := aI 1 :: _) rfl rfl ?_
  refine E_add (v := ((p + 1 : Nat) : Int)) rfl (by omega) (by omega) ?_
  refine E_scr (j := ((p + 1 : Nat) : Int)) (v := (((xs (p + 1))))) rfl (inbN (len := len) (by omega)) (hI.2.2.2.2.2 (p + 1)) ?_
  refine E_callV (k' := 60) (a := 1) (r := []) (L0 := [some (aA 1), some (aI (((xs (p + 1))))), none, none]) rfl rfl rfl rfl rfl rfl rfl rfl rfl rfl ?_
  refine C_clear hI.1 (fun m1 hS1 hF1 => ?_)
  refine E_go (p' := 500) (L' := [some (aA 0), some (aA 1), some (aA 124), some (aI ((p : Nat) : Int))]) (st' := [aI (((on1 S (((xs (p + 1)))) (-2) oClear).1))]) rfl rfl rfl ?_
  have hm1 := hI.mid (fun b j hb => hF1 b j (by omega))
  refine E_s (p' := 501) rfl rfl ?_
  refine E_s (p' := 502) (st' := aA 124 :: _) rfl rfl ?_
  refine E_s (p' := 503) (st' := aA 0 :: _) rfl rfl ?_
  refine E_s (p' := 504) (st' := aI ((p : Nat) : Int) :: _) rfl rfl ?_
  refine E_s (p' := 505) (st' := aI 1 :: _) rfl rfl ?_
  refine E_add (v := ((p + 1 : Nat) : Int)) rfl (by omega) (by omega) ?_
  refine E_scr (j := ((p + 1 : Nat) : Int)) (v := (((xs (p + 1))))) rfl (inbN (len := len) (by omega)) (hm1.2.2.2 (p + 1)) ?_
  refine E_callV (k' := 142) (a := 124) (r := []) (L0 := [some (aA 124), some (aI (((xs (p + 1))))), none]) rfl rfl rfl rfl rfl rfl rfl rfl rfl rfl ?_
  refine M_clear hm1.1 (fun m2 hS2 hF2 => ?_)
  refine E_go (p' := 510) (L' := [some (aA 0), some (aA 1), some (aA 124), some (aI ((p : Nat) : Int))]) (st' := [aI (((on1 S (((xs (p + 1)))) (-2) oClear).1))]) rfl rfl rfl ?_
  refine E_s (p' := 511) rfl rfl ?_
  refine E_s (p' := 1174) rfl rfl ?_
  exact hk _ _ _ _ _ (hI.step hS1 hF1 hS2 hF2)
theorem st_copy (hI : IV xs S l1 l2 n m) (hx32 : ∀ j, -2147483648 ≤ xs j ∧ xs j ≤ 2147483647) (hp : p + 6 ≤ len) (hl9 : len ≤ 3072) (hk : ∀ (S : Nat → RD) (l1 l2 : List (Nat × Nat)) (n : Nat) (m : Mm), IV xs S l1 l2 n m → E 0 1174 [some (aA 0), some (aA 1), some (aA 124), some (aI ((p : Nat) : Int))] [] (m, tl len) Q) : E 0 514 [some (aA 0), some (aA 1), some (aA 124), some (aI ((p : Nat) : Int))] [] (m, tl len) Q := by
  refine E_s (p' := 515) (st' := aA 1 :: _) rfl rfl ?_
  refine E_s (p' := 516) (st' := aA 0 :: _) rfl rfl ?_
  refine E_s (p' := 517) (st' := aI ((p : Nat) : Int) :: _) rfl rfl ?_
  refine E_s (p' := 518) (st' := aI 1 :: _) rfl rfl ?_
  refine E_add (v := ((p + 1 : Nat) : Int)) rfl (by omega) (by omega) ?_
  refine E_scr (j := ((p + 1 : Nat) : Int)) (v := (((xs (p + 1))))) rfl (inbN (len := len) (by omega)) (hI.2.2.2.2.2 (p + 1)) ?_
  refine E_s (p' := 521) (st' := aA 0 :: _) rfl rfl ?_
  refine E_s (p' := 522) (st' := aI ((p : Nat) : Int) :: _) rfl rfl ?_
  refine E_s (p' := 523) (st' := aI 2 :: _) rfl rfl ?_
  refine E_add (v := ((p + 2 : Nat) : Int)) rfl (by omega) (by omega) ?_
  refine E_scr (j := ((p + 2 : Nat) : Int)) (v := (((xs (p + 2))))) rfl (inbN (len := len) (by omega)) (hI.2.2.2.2.2 (p + 2)) ?_
  refine E_callV (k' := 62) (a := 1) (r := []) (L0 := [some (aA 1), some (aI (((xs (p + 1))))), some (aI (((xs (p + 2))))), none, none]) rfl rfl rfl rfl rfl rfl rfl rfl rfl rfl ?_
  refine C_copy hI.1 (fun v1 S9 m1 hsp hS1 hF1 => ?_)
  refine E_go (p' := 528) (L' := [some (aA 0), some (aA 1), some (aA 124), some (aI ((p : Nat) : Int))]) (st' := [aI (v1)]) rfl rfl rfl ?_
  have hm1 := hI.mid (fun b j hb => hF1 b j (by omega))
  refine E_s (p' := 529) rfl rfl ?_
  refine E_s (p' := 530) (st' := aA 124 :: _) rfl rfl ?_
  refine E_s (p' := 531) (st' := aA 0 :: _) rfl rfl ?_
  refine E_s (p' := 532) (st' := aI ((p : Nat) : Int) :: _) rfl rfl ?_
  refine E_s (p' := 533) (st' := aI 1 :: _) rfl rfl ?_
  refine E_add (v := ((p + 1 : Nat) : Int)) rfl (by omega) (by omega) ?_
  refine E_scr (j := ((p + 1 : Nat) : Int)) (v := (((xs (p + 1))))) rfl (inbN (len := len) (by omega)) (hm1.2.2.2 (p + 1)) ?_
  refine E_s (p' := 536) (st' := aA 0 :: _) rfl rfl ?_
  refine E_s (p' := 537) (st' := aI ((p : Nat) : Int) :: _) rfl rfl ?_
  refine E_s (p' := 538) (st' := aI 2 :: _) rfl rfl ?_
  refine E_add (v := ((p + 2 : Nat) : Int)) rfl (by omega) (by omega) ?_
  refine E_scr (j := ((p + 2 : Nat) : Int)) (v := (((xs (p + 2))))) rfl (inbN (len := len) (by omega)) (hm1.2.2.2 (p + 2)) ?_
  refine E_callV (k' := 143) (a := 124) (r := []) (L0 := [some (aA 124), some (aI (((xs (p + 1))))), some (aI (((xs (p + 2))))), none, none, none]) rfl rfl rfl rfl rfl rfl rfl rfl rfl rfl ?_
  refine M_copy hm1.1 (fun v2 m2 hsp2 hF2 => ?_)
  refine E_go (p' := 543) (L' := [some (aA 0), some (aA 1), some (aA 124), some (aI ((p : Nat) : Int))]) (st' := [aI (v2)]) rfl rfl rfl ?_
  obtain ⟨ev, hS2⟩ := copy_eq hm1.1 hsp hsp2
  refine E_s (p' := 544) rfl rfl ?_
  refine E_s (p' := 1174) rfl rfl ?_
  exact hk _ _ _ _ _ (hI.step hS1 hF1 hS2 hF2)
theorem st_about (hI : IV xs S l1 l2 n m) (hx32 : ∀ j, -2147483648 ≤ xs j ∧ xs j ≤ 2147483647) (hp : p + 6 ≤ len) (hl9 : len ≤ 3072) (hk : ∀ (S : Nat → RD) (l1 l2 : List (Nat × Nat)) (n : Nat) (m : Mm), IV xs S l1 l2 n m → E 0 1174 [some (aA 0), some (aA 1), some (aA 124), some (aI ((p : Nat) : Int))] [] (m, tl len) Q) : E 0 547 [some (aA 0), some (aA 1), some (aA 124), some (aI ((p : Nat) : Int))] [] (m, tl len) Q := by
  refine E_s (p' := 548) (st' := aA 1 :: _) rfl rfl ?_
  refine E_s (p' := 549) (st' := aA 0 :: _) rfl rfl ?_
  refine E_s (p' := 550) (st' := aI ((p : Nat) : Int) :: _) rfl rfl ?_
  refine E_s (p' := 551) (st' := aI 1 :: _) rfl rfl ?_
  refine E_add (v := ((p + 1 : Nat) : Int)) rfl (by omega) (by omega) ?_
  refine E_scr (j := ((p + 1 : Nat) : Int)) (v := (((xs (p + 1))))) rfl (inbN (len := len) (by omega)) (hI.2.2.2.2.2 (p + 1)) ?_
  refine E_s (p' := 554) (st' := aA 0 :: _) rfl rfl ?_
  refine E_s (p' := 555) (st' := aI ((p : Nat) : Int) :: _) rfl rfl ?_
  refine E_s (p' := 556) (st' := aI 2 :: _) rfl rfl ?_
  refine E_add (v := ((p + 2 : Nat) : Int)) rfl (by omega) (by omega) ?_
  refine E_scr (j := ((p + 2 : Nat) : Int)) (v := (((xs (p + 2))))) rfl (inbN (len := len) (by omega)) (hI.2.2.2.2.2 (p + 2)) ?_
  refine E_s (p' := 559) (st' := aA 0 :: _) rfl rfl ?_
  refine E_s (p' := 560) (st' := aI ((p : Nat) : Int) :: _) rfl rfl ?_
  refine E_s (p' := 561) (st' := aI 3 :: _) rfl rfl ?_
  refine E_add (v := ((p + 3 : Nat) : Int)) rfl (by omega) (by omega) ?_
  refine E_scr (j := ((p + 3 : Nat) : Int)) (v := (((xs (p + 3))))) rfl (inbN (len := len) (by omega)) (hI.2.2.2.2.2 (p + 3)) ?_
  refine E_callV (k' := 67) (a := 1) (r := []) (L0 := [some (aA 1), some (aI (((xs (p + 1))))), some (aI (((xs (p + 2))))), some (aI (((xs (p + 3))))), none, none]) rfl rfl rfl rfl rfl rfl rfl rfl rfl rfl ?_
  refine C_about hI.1 (fun m1 hS1 hF1 => ?_)
  refine E_go (p' := 566) (L' := [some (aA 0), some (aA 1), some (aA 124), some (aI ((p : Nat) : Int))]) (st' := [aI (((qy S (((xs (p + 1)))) (-1) (aAbout (((xs (p + 2)))) (((xs (p + 3))))))))]) rfl rfl rfl ?_
  have hm1 := hI.mid (fun b j hb => hF1 b j (by omega))
  refine E_s (p' := 567) rfl rfl ?_
  refine E_s (p' := 568) (st' := aA 124 :: _) rfl rfl ?_
  refine E_s (p' := 569) (st' := aA 0 :: _) rfl rfl ?_
  refine E_s (p' := 570) (st' := aI ((p : Nat) : Int) :: _) rfl rfl ?_
  refine E_s (p' := 571) (st' := aI 1 :: _) rfl rfl ?_
  refine E_add (v := ((p + 1 : Nat) : Int)) rfl (by omega) (by omega) ?_
  refine E_scr (j := ((p + 1 : Nat) : Int)) (v := (((xs (p + 1))))) rfl (inbN (len := len) (by omega)) (hm1.2.2.2 (p + 1)) ?_
  refine E_s (p' := 574) (st' := aA 0 :: _) rfl rfl ?_
  refine E_s (p' := 575) (st' := aI ((p : Nat) : Int) :: _) rfl rfl ?_
  refine E_s (p' := 576) (st' := aI 2 :: _) rfl rfl ?_
  refine E_add (v := ((p + 2 : Nat) : Int)) rfl (by omega) (by omega) ?_
  refine E_scr (j := ((p + 2 : Nat) : Int)) (v := (((xs (p + 2))))) rfl (inbN (len := len) (by omega)) (hm1.2.2.2 (p + 2)) ?_
  refine E_s (p' := 579) (st' := aA 0 :: _) rfl rfl ?_
  refine E_s (p' := 580) (st' := aI ((p : Nat) : Int) :: _) rfl rfl ?_
  refine E_s (p' := 581) (st' := aI 3 :: _) rfl rfl ?_
  refine E_add (v := ((p + 3 : Nat) : Int)) rfl (by omega) (by omega) ?_
  refine E_scr (j := ((p + 3 : Nat) : Int)) (v := (((xs (p + 3))))) rfl (inbN (len := len) (by omega)) (hm1.2.2.2 (p + 3)) ?_
  refine E_callV (k' := 145) (a := 124) (r := []) (L0 := [some (aA 124), some (aI (((xs (p + 1))))), some (aI (((xs (p + 2))))), some (aI (((xs (p + 3))))), none, none, none]) rfl rfl rfl rfl rfl rfl rfl rfl rfl rfl ?_
  refine M_about hm1.1 (fun m2 hS2 hF2 => ?_)
  refine E_go (p' := 586) (L' := [some (aA 0), some (aA 1), some (aA 124), some (aI ((p : Nat) : Int))]) (st' := [aI (((qy S (((xs (p + 1)))) (-1) (aAbout (((xs (p + 2)))) (((xs (p + 3))))))))]) rfl rfl rfl ?_
  refine E_s (p' := 587) rfl rfl ?_
  refine E_s (p' := 1174) rfl rfl ?_
  exact hk _ _ _ _ _ (hI.step hS1 hF1 hS2 hF2)
theorem st_knotAt (hI : IV xs S l1 l2 n m) (hx32 : ∀ j, -2147483648 ≤ xs j ∧ xs j ≤ 2147483647) (hp : p + 6 ≤ len) (hl9 : len ≤ 3072) (hk : ∀ (S : Nat → RD) (l1 l2 : List (Nat × Nat)) (n : Nat) (m : Mm), IV xs S l1 l2 n m → E 0 1174 [some (aA 0), some (aA 1), some (aA 124), some (aI ((p : Nat) : Int))] [] (m, tl len) Q) : E 0 590 [some (aA 0), some (aA 1), some (aA 124), some (aI ((p : Nat) : Int))] [] (m, tl len) Q := by
  refine E_s (p' := 591) (st' := aA 1 :: _) rfl rfl ?_
  refine E_s (p' := 592) (st' := aA 0 :: _) rfl rfl ?_
  refine E_s (p' := 593) (st' := aI ((p : Nat) : Int) :: _) rfl rfl ?_
  refine E_s (p' := 594) (st' := aI 1 :: _) rfl rfl ?_
  refine E_add (v := ((p + 1 : Nat) : Int)) rfl (by omega) (by omega) ?_
  refine E_scr (j := ((p + 1 : Nat) : Int)) (v := (((xs (p + 1))))) rfl (inbN (len := len) (by omega)) (hI.2.2.2.2.2 (p + 1)) ?_
  refine E_s (p' := 597) (st' := aA 0 :: _) rfl rfl ?_
  refine E_s (p' := 598) (st' := aI ((p : Nat) : Int) :: _) rfl rfl ?_
  refine E_s (p' := 599) (st' := aI 2 :: _) rfl rfl ?_
  refine E_add (v := ((p + 2 : Nat) : Int)) rfl (by omega) (by omega) ?_
  refine E_scr (j := ((p + 2 : Nat) : Int)) (v := (((xs (p + 2))))) rfl (inbN (len := len) (by omega)) (hI.2.2.2.2.2 (p + 2)) ?_
  refine E_s (p' := 602) (st' := aA 0 :: _) rfl rfl ?_
  refine E_s (p' := 603) (st' := aI ((p : Nat) : Int) :: _) rfl rfl ?_
  refine E_s (p' := 604) (st' := aI 3 :: _) rfl rfl ?_
  refine E_add (v := ((p + 3 : Nat) : Int)) rfl (by omega) (by omega) ?_
  refine E_scr (j := ((p + 3 : Nat) : Int)) (v := (((xs (p + 3))))) rfl (inbN (len := len) (by omega)) (hI.2.2.2.2.2 (p + 3)) ?_
  refine E_s (p' := 607) (st' := aA 0 :: _) rfl rfl ?_
  refine E_s (p' := 608) (st' := aI ((p : Nat) : Int) :: _) rfl rfl ?_
  refine E_s (p' := 609) (st' := aI 4 :: _) rfl rfl ?_
  refine E_add (v := ((p + 4 : Nat) : Int)) rfl (by omega) (by omega) ?_
  refine E_scr (j := ((p + 4 : Nat) : Int)) (v := (((xs (p + 4))))) rfl (inbN (len := len) (by omega)) (hI.2.2.2.2.2 (p + 4)) ?_
  refine E_callV (k' := 69) (a := 1) (r := []) (L0 := [some (aA 1), some (aI (((xs (p + 1))))), some (aI (((xs (p + 2))))), some (aI (((xs (p + 3))))), some (aI (((xs (p + 4))))), none, none]) rfl rfl rfl rfl rfl rfl rfl rfl rfl rfl ?_
  refine C_knotAt hI.1 (fun m1 hS1 hF1 => ?_)
  refine E_go (p' := 614) (L' := [some (aA 0), some (aA 1), some (aA 124), some (aI ((p : Nat) : Int))]) (st' := [aI (((qy S (((xs (p + 1)))) (-1) (aKnotAt (((xs (p + 2)))) (((xs (p + 3)))) (((xs (p + 4))))))))]) rfl rfl rfl ?_
  have hm1 := hI.mid (fun b j hb => hF1 b j (by omega))
  refine E_s (p' := 615) rfl rfl ?_
  refine E_s (p' := 616) (st' := aA 124 :: _) rfl rfl ?_
  refine E_s (p' := 617) (st' := aA 0 :: _) rfl rfl ?_
  refine E_s (p' := 618) (st' := aI ((p : Nat) : Int) :: _) rfl rfl ?_
  refine E_s (p' := 619) (st' := aI 1 :: _) rfl rfl ?_
  refine E_add (v := ((p + 1 : Nat) : Int)) rfl (by omega) (by omega) ?_
  refine E_scr (j := ((p + 1 : Nat) : Int)) (v := (((xs (p + 1))))) rfl (inbN (len := len) (by omega)) (hm1.2.2.2 (p + 1)) ?_
  refine E_s (p' := 622) (st' := aA 0 :: _) rfl rfl ?_
  refine E_s (p' := 623) (st' := aI ((p : Nat) : Int) :: _) rfl rfl ?_
  refine E_s (p' := 624) (st' := aI 2 :: _) rfl rfl ?_
  refine E_add (v := ((p + 2 : Nat) : Int)) rfl (by omega) (by omega) ?_
  refine E_scr (j := ((p + 2 : Nat) : Int)) (v := (((xs (p + 2))))) rfl (inbN (len := len) (by omega)) (hm1.2.2.2 (p + 2)) ?_
  refine E_s (p' := 627) (st' := aA 0 :: _) rfl rfl ?_
  refine E_s (p' := 628) (st' := aI ((p : Nat) : Int) :: _) rfl rfl ?_
  refine E_s (p' := 629) (st' := aI 3 :: _) rfl rfl ?_
  refine E_add (v := ((p + 3 : Nat) : Int)) rfl (by omega) (by omega) ?_
  refine E_scr (j := ((p + 3 : Nat) : Int)) (v := (((xs (p + 3))))) rfl (inbN (len := len) (by omega)) (hm1.2.2.2 (p + 3)) ?_
  refine E_s (p' := 632) (st' := aA 0 :: _) rfl rfl ?_
  refine E_s (p' := 633) (st' := aI ((p : Nat) : Int) :: _) rfl rfl ?_
  refine E_s (p' := 634) (st' := aI 4 :: _) rfl rfl ?_
  refine E_add (v := ((p + 4 : Nat) : Int)) rfl (by omega) (by omega) ?_
  refine E_scr (j := ((p + 4 : Nat) : Int)) (v := (((xs (p + 4))))) rfl (inbN (len := len) (by omega)) (hm1.2.2.2 (p + 4)) ?_
  refine E_callV (k' := 152) (a := 124) (r := []) (L0 := [some (aA 124), some (aI (((xs (p + 1))))), some (aI (((xs (p + 2))))), some (aI (((xs (p + 3))))), some (aI (((xs (p + 4))))), none]) rfl rfl rfl rfl rfl rfl rfl rfl rfl rfl ?_
  refine M_knotAt hm1.1 (fun m2 hS2 hF2 => ?_)
  refine E_go (p' := 639) (L' := [some (aA 0), some (aA 1), some (aA 124), some (aI ((p : Nat) : Int))]) (st' := [aI (((qy S (((xs (p + 1)))) (-1) (aKnotAt (((xs (p + 2)))) (((xs (p + 3)))) (((xs (p + 4))))))))]) rfl rfl rfl ?_
  refine E_s (p' := 640) rfl rfl ?_
  refine E_s (p' := 1174) rfl rfl ?_
  exact hk _ _ _ _ _ (hI.step hS1 hF1 hS2 hF2)
theorem st_levels (hI : IV xs S l1 l2 n m) (hx32 : ∀ j, -2147483648 ≤ xs j ∧ xs j ≤ 2147483647) (hp : p + 6 ≤ len) (hl9 : len ≤ 3072) (hk : ∀ (S : Nat → RD) (l1 l2 : List (Nat × Nat)) (n : Nat) (m : Mm), IV xs S l1 l2 n m → E 0 1174 [some (aA 0), some (aA 1), some (aA 124), some (aI ((p : Nat) : Int))] [] (m, tl len) Q) : E 0 643 [some (aA 0), some (aA 1), some (aA 124), some (aI ((p : Nat) : Int))] [] (m, tl len) Q := by
  refine E_s (p' := 644) (st' := aA 1 :: _) rfl rfl ?_
  refine E_s (p' := 645) (st' := aA 0 :: _) rfl rfl ?_
  refine E_s (p' := 646) (st' := aI ((p : Nat) : Int) :: _) rfl rfl ?_
  refine E_s (p' := 647) (st' := aI 1 :: _) rfl rfl ?_
  refine E_add (v := ((p + 1 : Nat) : Int)) rfl (by omega) (by omega) ?_
  refine E_scr (j := ((p + 1 : Nat) : Int)) (v := (((xs (p + 1))))) rfl (inbN (len := len) (by omega)) (hI.2.2.2.2.2 (p + 1)) ?_
  refine E_callV (k' := 70) (a := 1) (r := []) (L0 := [some (aA 1), some (aI (((xs (p + 1))))), none]) rfl rfl rfl rfl rfl rfl rfl rfl rfl rfl ?_
  refine C_levels hI.1 (fun m1 hS1 hF1 => ?_)
  refine E_go (p' := 652) (L' := [some (aA 0), some (aA 1), some (aA 124), some (aI ((p : Nat) : Int))]) (st' := [aI (((qy S (((xs (p + 1)))) (-2) aLevels)))]) rfl rfl rfl ?_
  have hm1 := hI.mid (fun b j hb => hF1 b j (by omega))
  refine E_s (p' := 653) rfl rfl ?_
  refine E_s (p' := 654) (st' := aA 124 :: _) rfl rfl ?_
  refine E_s (p' := 655) (st' := aA 0 :: _) rfl rfl ?_
  refine E_s (p' := 656) (st' := aI ((p : Nat) : Int) :: _) rfl rfl ?_
  refine E_s (p' := 657) (st' := aI 1 :: _) rfl rfl ?_
  refine E_add (v := ((p + 1 : Nat) : Int)) rfl (by omega) (by omega) ?_
  refine E_scr (j := ((p + 1 : Nat) : Int)) (v := (((xs (p + 1))))) rfl (inbN (len := len) (by omega)) (hm1.2.2.2 (p + 1)) ?_
  refine E_callV (k' := 153) (a := 124) (r := []) (L0 := [some (aA 124), some (aI (((xs (p + 1)))))]) rfl rfl rfl rfl rfl rfl rfl rfl rfl rfl ?_
  refine M_levels hm1.1 (fun m2 hS2 hF2 => ?_)
  refine E_go (p' := 662) (L' := [some (aA 0), some (aA 1), some (aA 124), some (aI ((p : Nat) : Int))]) (st' := [aI (((qy S (((xs (p + 1)))) (-2) aLevels)))]) rfl rfl rfl ?_
  refine E_s (p' := 663) rfl rfl ?_
  refine E_s (p' := 1174) rfl rfl ?_
  exact hk _ _ _ _ _ (hI.step hS1 hF1 hS2 hF2)
theorem st_level (hI : IV xs S l1 l2 n m) (hx32 : ∀ j, -2147483648 ≤ xs j ∧ xs j ≤ 2147483647) (hp : p + 6 ≤ len) (hl9 : len ≤ 3072) (hk : ∀ (S : Nat → RD) (l1 l2 : List (Nat × Nat)) (n : Nat) (m : Mm), IV xs S l1 l2 n m → E 0 1174 [some (aA 0), some (aA 1), some (aA 124), some (aI ((p : Nat) : Int))] [] (m, tl len) Q) : E 0 666 [some (aA 0), some (aA 1), some (aA 124), some (aI ((p : Nat) : Int))] [] (m, tl len) Q := by
  refine E_s (p' := 667) (st' := aA 1 :: _) rfl rfl ?_
  refine E_s (p' := 668) (st' := aA 0 :: _) rfl rfl ?_
  refine E_s (p' := 669) (st' := aI ((p : Nat) : Int) :: _) rfl rfl ?_
  refine E_s (p' := 670) (st' := aI 1 :: _) rfl rfl ?_
  refine E_add (v := ((p + 1 : Nat) : Int)) rfl (by omega) (by omega) ?_
  refine E_scr (j := ((p + 1 : Nat) : Int)) (v := (((xs (p + 1))))) rfl (inbN (len := len) (by omega)) (hI.2.2.2.2.2 (p + 1)) ?_
  refine E_s (p' := 673) (st' := aA 0 :: _) rfl rfl ?_
  refine E_s (p' := 674) (st' := aI ((p : Nat) : Int) :: _) rfl rfl ?_
  refine E_s (p' := 675) (st' := aI 2 :: _) rfl rfl ?_
  refine E_add (v := ((p + 2 : Nat) : Int)) rfl (by omega) (by omega) ?_
  refine E_scr (j := ((p + 2 : Nat) : Int)) (v := (((xs (p + 2))))) rfl (inbN (len := len) (by omega)) (hI.2.2.2.2.2 (p + 2)) ?_
  refine E_s (p' := 678) (st' := aA 0 :: _) rfl rfl ?_
  refine E_s (p' := 679) (st' := aI ((p : Nat) : Int) :: _) rfl rfl ?_
  refine E_s (p' := 680) (st' := aI 3 :: _) rfl rfl ?_
  refine E_add (v := ((p + 3 : Nat) : Int)) rfl (by omega) (by omega) ?_
  refine E_scr (j := ((p + 3 : Nat) : Int)) (v := (((xs (p + 3))))) rfl (inbN (len := len) (by omega)) (hI.2.2.2.2.2 (p + 3)) ?_
  refine E_callV (k' := 71) (a := 1) (r := []) (L0 := [some (aA 1), some (aI (((xs (p + 1))))), some (aI (((xs (p + 2))))), some (aI (((xs (p + 3))))), none, none]) rfl rfl rfl rfl rfl rfl rfl rfl rfl rfl ?_
  refine C_level hI.1 (fun m1 hS1 hF1 => ?_)
  refine E_go (p' := 685) (L' := [some (aA 0), some (aA 1), some (aA 124), some (aI ((p : Nat) : Int))]) (st' := [aI (((qy S (((xs (p + 1)))) (-1) (aLevel (((xs (p + 2)))) (((xs (p + 3))))))))]) rfl rfl rfl ?_
  have hm1 := hI.mid (fun b j hb => hF1 b j (by omega))
  refine E_s (p' := 686) rfl rfl ?_
  refine E_s (p' := 687) (st' := aA 124 :: _) rfl rfl ?_
  refine E_s (p' := 688) (st' := aA 0 :: _) rfl rfl ?_
  refine E_s (p' := 689) (st' := aI ((p : Nat) : Int) :: _) rfl rfl ?_
  refine E_s (p' := 690) (st' := aI 1 :: _) rfl rfl ?_
  refine E_add (v := ((p + 1 : Nat) : Int)) rfl (by omega) (by omega) ?_
  refine E_scr (j := ((p + 1 : Nat) : Int)) (v := (((xs (p + 1))))) rfl (inbN (len := len) (by omega)) (hm1.2.2.2 (p + 1)) ?_
  refine E_s (p' := 693) (st' := aA 0 :: _) rfl rfl ?_
  refine E_s (p' := 694) (st' := aI ((p : Nat) : Int) :: _) rfl rfl ?_
  refine E_s (p' := 695) (st' := aI 2 :: _) rfl rfl ?_
  refine E_add (v := ((p + 2 : Nat) : Int)) rfl (by omega) (by omega) ?_
  refine E_scr (j := ((p + 2 : Nat) : Int)) (v := (((xs (p + 2))))) rfl (inbN (len := len) (by omega)) (hm1.2.2.2 (p + 2)) ?_
  refine E_s (p' := 698) (st' := aA 0 :: _) rfl rfl ?_
  refine E_s (p' := 699) (st' := aI ((p : Nat) : Int) :: _) rfl rfl ?_
  refine E_s (p' := 700) (st' := aI 3 :: _) rfl rfl ?_
  refine E_add (v := ((p + 3 : Nat) : Int)) rfl (by omega) (by omega) ?_
  refine E_scr (j := ((p + 3 : Nat) : Int)) (v := (((xs (p + 3))))) rfl (inbN (len := len) (by omega)) (hm1.2.2.2 (p + 3)) ?_
  refine E_callV (k' := 154) (a := 124) (r := []) (L0 := [some (aA 124), some (aI (((xs (p + 1))))), some (aI (((xs (p + 2))))), some (aI (((xs (p + 3)))))]) rfl rfl rfl rfl rfl rfl rfl rfl rfl rfl ?_
  refine M_level hm1.1 (fun m2 hS2 hF2 => ?_)
  refine E_go (p' := 705) (L' := [some (aA 0), some (aA 1), some (aA 124), some (aI ((p : Nat) : Int))]) (st' := [aI (((qy S (((xs (p + 1)))) (-1) (aLevel (((xs (p + 2)))) (((xs (p + 3))))))))]) rfl rfl rfl ?_
  refine E_s (p' := 706) rfl rfl ?_
  refine E_s (p' := 1174) rfl rfl ?_
  exact hk _ _ _ _ _ (hI.step hS1 hF1 hS2 hF2)
theorem st_number (hI : IV xs S l1 l2 n m) (hx32 : ∀ j, -2147483648 ≤ xs j ∧ xs j ≤ 2147483647) (hp : p + 6 ≤ len) (hl9 : len ≤ 3072) (hk : ∀ (S : Nat → RD) (l1 l2 : List (Nat × Nat)) (n : Nat) (m : Mm), IV xs S l1 l2 n m → E 0 1174 [some (aA 0), some (aA 1), some (aA 124), some (aI ((p : Nat) : Int))] [] (m, tl len) Q) : E 0 709 [some (aA 0), some (aA 1), some (aA 124), some (aI ((p : Nat) : Int))] [] (m, tl len) Q := by
  refine E_s (p' := 710) (st' := aA 1 :: _) rfl rfl ?_
  refine E_s (p' := 711) (st' := aA 0 :: _) rfl rfl ?_
  refine E_s (p' := 712) (st' := aI ((p : Nat) : Int) :: _) rfl rfl ?_
  refine E_s (p' := 713) (st' := aI 1 :: _) rfl rfl ?_
  refine E_add (v := ((p + 1 : Nat) : Int)) rfl (by omega) (by omega) ?_
  refine E_scr (j := ((p + 1 : Nat) : Int)) (v := (((xs (p + 1))))) rfl (inbN (len := len) (by omega)) (hI.2.2.2.2.2 (p + 1)) ?_
  refine E_s (p' := 716) (st' := aA 0 :: _) rfl rfl ?_
  refine E_s (p' := 717) (st' := aI ((p : Nat) : Int) :: _) rfl rfl ?_
  refine E_s (p' := 718) (st' := aI 2 :: _) rfl rfl ?_
  refine E_add (v := ((p + 2 : Nat) : Int)) rfl (by omega) (by omega) ?_
  refine E_scr (j := ((p + 2 : Nat) : Int)) (v := (((xs (p + 2))))) rfl (inbN (len := len) (by omega)) (hI.2.2.2.2.2 (p + 2)) ?_
  refine E_callV (k' := 72) (a := 1) (r := []) (L0 := [some (aA 1), some (aI (((xs (p + 1))))), some (aI (((xs (p + 2))))), none]) rfl rfl rfl rfl rfl rfl rfl rfl rfl rfl ?_
  refine C_number hI.1 (fun m1 hS1 hF1 => ?_)
  refine E_go (p' := 723) (L' := [some (aA 0), some (aA 1), some (aA 124), some (aI ((p : Nat) : Int))]) (st' := [aI (((qy S (((xs (p + 1)))) (-1) (aNumber (((xs (p + 2))))))))]) rfl rfl rfl ?_
  have hm1 := hI.mid (fun b j hb => hF1 b j (by omega))
  refine E_s (p' := 724) rfl rfl ?_
  refine E_s (p' := 725) (st' := aA 124 :: _) rfl rfl ?_
  refine E_s (p' := 726) (st' := aA 0 :: _) rfl rfl ?_
  refine E_s (p' := 727) (st' := aI ((p : Nat) : Int) :: _) rfl rfl ?_
  refine E_s (p' := 728) (st' := aI 1 :: _) rfl rfl ?_
  refine E_add (v := ((p + 1 : Nat) : Int)) rfl (by omega) (by omega) ?_
  refine E_scr (j := ((p + 1 : Nat) : Int)) (v := (((xs (p + 1))))) rfl (inbN (len := len) (by omega)) (hm1.2.2.2 (p + 1)) ?_
  refine E_s (p' := 731) (st' := aA 0 :: _) rfl rfl ?_
  refine E_s (p' := 732) (st' := aI ((p : Nat) : Int) :: _) rfl rfl ?_
  refine E_s (p' := 733) (st' := aI 2 :: _) rfl rfl ?_
  refine E_add (v := ((p + 2 : Nat) : Int)) rfl (by omega) (by omega) ?_
  refine E_scr (j := ((p + 2 : Nat) : Int)) (v := (((xs (p + 2))))) rfl (inbN (len := len) (by omega)) (hm1.2.2.2 (p + 2)) ?_
  refine E_callV (k' := 155) (a := 124) (r := []) (L0 := [some (aA 124), some (aI (((xs (p + 1))))), some (aI (((xs (p + 2)))))]) rfl rfl rfl rfl rfl rfl rfl rfl rfl rfl ?_
  refine M_number hm1.1 (fun m2 hS2 hF2 => ?_)
  refine E_go (p' := 738) (L' := [some (aA 0), some (aA 1), some (aA 124), some (aI ((p : Nat) : Int))]) (st' := [aI (((qy S (((xs (p + 1)))) (-1) (aNumber (((xs (p + 2))))))))]) rfl rfl rfl ?_
  refine E_s (p' := 739) rfl rfl ?_
  refine E_s (p' := 1174) rfl rfl ?_
  exact hk _ _ _ _ _ (hI.step hS1 hF1 hS2 hF2)
theorem st_under (hI : IV xs S l1 l2 n m) (hx32 : ∀ j, -2147483648 ≤ xs j ∧ xs j ≤ 2147483647) (hp : p + 6 ≤ len) (hl9 : len ≤ 3072) (hk : ∀ (S : Nat → RD) (l1 l2 : List (Nat × Nat)) (n : Nat) (m : Mm), IV xs S l1 l2 n m → E 0 1174 [some (aA 0), some (aA 1), some (aA 124), some (aI ((p : Nat) : Int))] [] (m, tl len) Q) : E 0 742 [some (aA 0), some (aA 1), some (aA 124), some (aI ((p : Nat) : Int))] [] (m, tl len) Q := by
  refine E_s (p' := 743) (st' := aA 1 :: _) rfl rfl ?_
  refine E_s (p' := 744) (st' := aA 0 :: _) rfl rfl ?_
  refine E_s (p' := 745) (st' := aI ((p : Nat) : Int) :: _) rfl rfl ?_
  refine E_s (p' := 746) (st' := aI 1 :: _) rfl rfl ?_
  refine E_add (v := ((p + 1 : Nat) : Int)) rfl (by omega) (by omega) ?_
  refine E_scr (j := ((p + 1 : Nat) : Int)) (v := (((xs (p + 1))))) rfl (inbN (len := len) (by omega)) (hI.2.2.2.2.2 (p + 1)) ?_
  refine E_s (p' := 749) (st' := aA 0 :: _) rfl rfl ?_
  refine E_s (p' := 750) (st' := aI ((p : Nat) : Int) :: _) rfl rfl ?_
  refine E_s (p' := 751) (st' := aI 2 :: _) rfl rfl ?_
  refine E_add (v := ((p + 2 : Nat) : Int)) rfl (by omega) (by omega) ?_
  refine E_scr (j := ((p + 2 : Nat) : Int)) (v := (((xs (p + 2))))) rfl (inbN (len := len) (by omega)) (hI.2.2.2.2.2 (p + 2)) ?_
  refine E_callV (k' := 73) (a := 1) (r := []) (L0 := [some (aA 1), some (aI (((xs (p + 1))))), some (aI (((xs (p + 2))))), none, none, none]) rfl rfl rfl rfl rfl rfl rfl rfl rfl rfl ?_
  refine C_under hI.1 (fun m1 hS1 hF1 => ?_)
  refine E_go (p' := 756) (L' := [some (aA 0), some (aA 1), some (aA 124), some (aI ((p : Nat) : Int))]) (st' := [aI (((qy S (((xs (p + 1)))) (-1) (aUnder (((xs (p + 2))))))))]) rfl rfl rfl ?_
  have hm1 := hI.mid (fun b j hb => hF1 b j (by omega))
  refine E_s (p' := 757) rfl rfl ?_
  refine E_s (p' := 758) (st' := aA 124 :: _) rfl rfl ?_
  refine E_s (p' := 759) (st' := aA 0 :: _) rfl rfl ?_
  refine E_s (p' := 760) (st' := aI ((p : Nat) : Int) :: _) rfl rfl ?_
  refine E_s (p' := 761) (st' := aI 1 :: _) rfl rfl ?_
  refine E_add (v := ((p + 1 : Nat) : Int)) rfl (by omega) (by omega) ?_
  refine E_scr (j := ((p + 1 : Nat) : Int)) (v := (((xs (p + 1))))) rfl (inbN (len := len) (by omega)) (hm1.2.2.2 (p + 1)) ?_
  refine E_s (p' := 764) (st' := aA 0 :: _) rfl rfl ?_
  refine E_s (p' := 765) (st' := aI ((p : Nat) : Int) :: _) rfl rfl ?_
  refine E_s (p' := 766) (st' := aI 2 :: _) rfl rfl ?_
  refine E_add (v := ((p + 2 : Nat) : Int)) rfl (by omega) (by omega) ?_
  refine E_scr (j := ((p + 2 : Nat) : Int)) (v := (((xs (p + 2))))) rfl (inbN (len := len) (by omega)) (hm1.2.2.2 (p + 2)) ?_
  refine E_callV (k' := 156) (a := 124) (r := []) (L0 := [some (aA 124), some (aI (((xs (p + 1))))), some (aI (((xs (p + 2))))), none, none]) rfl rfl rfl rfl rfl rfl rfl rfl rfl rfl ?_
  refine M_under hm1.1 (fun m2 hS2 hF2 => ?_)
  refine E_go (p' := 771) (L' := [some (aA 0), some (aA 1), some (aA 124), some (aI ((p : Nat) : Int))]) (st' := [aI (((qy S (((xs (p + 1)))) (-1) (aUnder (((xs (p + 2))))))))]) rfl rfl rfl ?_
  refine E_s (p' := 772) rfl rfl ?_
  refine E_s (p' := 1174) rfl rfl ?_
  exact hk _ _ _ _ _ (hI.step hS1 hF1 hS2 hF2)
theorem st_sum (hI : IV xs S l1 l2 n m) (hx32 : ∀ j, -2147483648 ≤ xs j ∧ xs j ≤ 2147483647) (hp : p + 6 ≤ len) (hl9 : len ≤ 3072) (hk : ∀ (S : Nat → RD) (l1 l2 : List (Nat × Nat)) (n : Nat) (m : Mm), IV xs S l1 l2 n m → E 0 1174 [some (aA 0), some (aA 1), some (aA 124), some (aI ((p : Nat) : Int))] [] (m, tl len) Q) : E 0 775 [some (aA 0), some (aA 1), some (aA 124), some (aI ((p : Nat) : Int))] [] (m, tl len) Q := by
  refine E_s (p' := 776) (st' := aA 1 :: _) rfl rfl ?_
  refine E_s (p' := 777) (st' := aA 0 :: _) rfl rfl ?_
  refine E_s (p' := 778) (st' := aI ((p : Nat) : Int) :: _) rfl rfl ?_
  refine E_s (p' := 779) (st' := aI 1 :: _) rfl rfl ?_
  refine E_add (v := ((p + 1 : Nat) : Int)) rfl (by omega) (by omega) ?_
  refine E_scr (j := ((p + 1 : Nat) : Int)) (v := (((xs (p + 1))))) rfl (inbN (len := len) (by omega)) (hI.2.2.2.2.2 (p + 1)) ?_
  refine E_s (p' := 782) (st' := aA 0 :: _) rfl rfl ?_
  refine E_s (p' := 783) (st' := aI ((p : Nat) : Int) :: _) rfl rfl ?_
  refine E_s (p' := 784) (st' := aI 2 :: _) rfl rfl ?_
  refine E_add (v := ((p + 2 : Nat) : Int)) rfl (by omega) (by omega) ?_
  refine E_scr (j := ((p + 2 : Nat) : Int)) (v := (((xs (p + 2))))) rfl (inbN (len := len) (by omega)) (hI.2.2.2.2.2 (p + 2)) ?_
  refine E_callV (k' := 75) (a := 1) (r := []) (L0 := [some (aA 1), some (aI (((xs (p + 1))))), some (aI (((xs (p + 2))))), none]) rfl rfl rfl rfl rfl rfl rfl rfl rfl rfl ?_
  refine C_sum hI.1 (fun m1 hS1 hF1 => ?_)
  refine E_go (p' := 789) (L' := [some (aA 0), some (aA 1), some (aA 124), some (aI ((p : Nat) : Int))]) (st' := [aI (((on1 S (((xs (p + 1)))) (-2) (oSum (((xs (p + 2)))))).1))]) rfl rfl rfl ?_
  have hm1 := hI.mid (fun b j hb => hF1 b j (by omega))
  refine E_s (p' := 790) rfl rfl ?_
  refine E_s (p' := 791) (st' := aA 124 :: _) rfl rfl ?_
  refine E_s (p' := 792) (st' := aA 0 :: _) rfl rfl ?_
  refine E_s (p' := 793) (st' := aI ((p : Nat) : Int) :: _) rfl rfl ?_
  refine E_s (p' := 794) (st' := aI 1 :: _) rfl rfl ?_
  refine E_add (v := ((p + 1 : Nat) : Int)) rfl (by omega) (by omega) ?_
  refine E_scr (j := ((p + 1 : Nat) : Int)) (v := (((xs (p + 1))))) rfl (inbN (len := len) (by omega)) (hm1.2.2.2 (p + 1)) ?_
  refine E_s (p' := 797) (st' := aA 0 :: _) rfl rfl ?_
  refine E_s (p' := 798) (st' := aI ((p : Nat) : Int) :: _) rfl rfl ?_
  refine E_s (p' := 799) (st' := aI 2 :: _) rfl rfl ?_
  refine E_add (v := ((p + 2 : Nat) : Int)) rfl (by omega) (by omega) ?_
  refine E_scr (j := ((p + 2 : Nat) : Int)) (v := (((xs (p + 2))))) rfl (inbN (len := len) (by omega)) (hm1.2.2.2 (p + 2)) ?_
  refine E_callV (k' := 161) (a := 124) (r := []) (L0 := [some (aA 124), some (aI (((xs (p + 1))))), some (aI (((xs (p + 2)))))]) rfl rfl rfl rfl rfl rfl rfl rfl rfl rfl ?_
  refine M_sum hm1.1 (fun m2 hS2 hF2 => ?_)
  refine E_go (p' := 804) (L' := [some (aA 0), some (aA 1), some (aA 124), some (aI ((p : Nat) : Int))]) (st' := [aI (((on1 S (((xs (p + 1)))) (-2) (oSum (((xs (p + 2)))))).1))]) rfl rfl rfl ?_
  refine E_s (p' := 805) rfl rfl ?_
  refine E_s (p' := 1174) rfl rfl ?_
  exact hk _ _ _ _ _ (hI.step hS1 hF1 hS2 hF2)
theorem st_part (hI : IV xs S l1 l2 n m) (hx32 : ∀ j, -2147483648 ≤ xs j ∧ xs j ≤ 2147483647) (hp : p + 6 ≤ len) (hl9 : len ≤ 3072) (hk : ∀ (S : Nat → RD) (l1 l2 : List (Nat × Nat)) (n : Nat) (m : Mm), IV xs S l1 l2 n m → E 0 1174 [some (aA 0), some (aA 1), some (aA 124), some (aI ((p : Nat) : Int))] [] (m, tl len) Q) : E 0 808 [some (aA 0), some (aA 1), some (aA 124), some (aI ((p : Nat) : Int))] [] (m, tl len) Q := by
  refine E_s (p' := 809) (st' := aA 1 :: _) rfl rfl ?_
  refine E_s (p' := 810) (st' := aA 0 :: _) rfl rfl ?_
  refine E_s (p' := 811) (st' := aI ((p : Nat) : Int) :: _) rfl rfl ?_
  refine E_s (p' := 812) (st' := aI 1 :: _) rfl rfl ?_
  refine E_add (v := ((p + 1 : Nat) : Int)) rfl (by omega) (by omega) ?_
  refine E_scr (j := ((p + 1 : Nat) : Int)) (v := (((xs (p + 1))))) rfl (inbN (len := len) (by omega)) (hI.2.2.2.2.2 (p + 1)) ?_
  refine E_s (p' := 815) (st' := aA 0 :: _) rfl rfl ?_
  refine E_s (p' := 816) (st' := aI ((p : Nat) : Int) :: _) rfl rfl ?_
  refine E_s (p' := 817) (st' := aI 2 :: _) rfl rfl ?_
  refine E_add (v := ((p + 2 : Nat) : Int)) rfl (by omega) (by omega) ?_
  refine E_scr (j := ((p + 2 : Nat) : Int)) (v := (((xs (p + 2))))) rfl (inbN (len := len) (by omega)) (hI.2.2.2.2.2 (p + 2)) ?_
  refine E_callV (k' := 77) (a := 1) (r := []) (L0 := [some (aA 1), some (aI (((xs (p + 1))))), some (aI (((xs (p + 2))))), none, none]) rfl rfl rfl rfl rfl rfl rfl rfl rfl rfl ?_
  refine C_part hI.1 (fun m1 hS1 hF1 => ?_)
  refine E_go (p' := 822) (L' := [some (aA 0), some (aA 1), some (aA 124), some (aI ((p : Nat) : Int))]) (st' := [aI (((on1 S (((xs (p + 1)))) (-2) (oPart (((xs (p + 2)))))).1))]) rfl rfl rfl ?_
  have hm1 := hI.mid (fun b j hb => hF1 b j (by omega))
  refine E_s (p' := 823) rfl rfl ?_
  refine E_s (p' := 824) (st' := aA 124 :: _) rfl rfl ?_
  refine E_s (p' := 825) (st' := aA 0 :: _) rfl rfl ?_
  refine E_s (p' := 826) (st' := aI ((p : Nat) : Int) :: _) rfl rfl ?_
  refine E_s (p' := 827) (st' := aI 1 :: _) rfl rfl ?_
  refine E_add (v := ((p + 1 : Nat) : Int)) rfl (by omega) (by omega) ?_
  refine E_scr (j := ((p + 1 : Nat) : Int)) (v := (((xs (p + 1))))) rfl (inbN (len := len) (by omega)) (hm1.2.2.2 (p + 1)) ?_
  refine E_s (p' := 830) (st' := aA 0 :: _) rfl rfl ?_
  refine E_s (p' := 831) (st' := aI ((p : Nat) : Int) :: _) rfl rfl ?_
  refine E_s (p' := 832) (st' := aI 2 :: _) rfl rfl ?_
  refine E_add (v := ((p + 2 : Nat) : Int)) rfl (by omega) (by omega) ?_
  refine E_scr (j := ((p + 2 : Nat) : Int)) (v := (((xs (p + 2))))) rfl (inbN (len := len) (by omega)) (hm1.2.2.2 (p + 2)) ?_
  refine E_callV (k' := 162) (a := 124) (r := []) (L0 := [some (aA 124), some (aI (((xs (p + 1))))), some (aI (((xs (p + 2))))), none, none]) rfl rfl rfl rfl rfl rfl rfl rfl rfl rfl ?_
  refine M_part hm1.1 (fun m2 hS2 hF2 => ?_)
  refine E_go (p' := 837) (L' := [some (aA 0), some (aA 1), some (aA 124), some (aI ((p : Nat) : Int))]) (st' := [aI (((on1 S (((xs (p + 1)))) (-2) (oPart (((xs (p + 2)))))).1))]) rfl rfl rfl ?_
  refine E_s (p' := 838) rfl rfl ?_
  refine E_s (p' := 1174) rfl rfl ?_
  exact hk _ _ _ _ _ (hI.step hS1 hF1 hS2 hF2)
theorem st_drop (hI : IV xs S l1 l2 n m) (hx32 : ∀ j, -2147483648 ≤ xs j ∧ xs j ≤ 2147483647) (hp : p + 6 ≤ len) (hl9 : len ≤ 3072) (hk : ∀ (S : Nat → RD) (l1 l2 : List (Nat × Nat)) (n : Nat) (m : Mm), IV xs S l1 l2 n m → E 0 1174 [some (aA 0), some (aA 1), some (aA 124), some (aI ((p : Nat) : Int))] [] (m, tl len) Q) : E 0 841 [some (aA 0), some (aA 1), some (aA 124), some (aI ((p : Nat) : Int))] [] (m, tl len) Q := by
  refine E_s (p' := 842) (st' := aA 1 :: _) rfl rfl ?_
  refine E_s (p' := 843) (st' := aA 0 :: _) rfl rfl ?_
  refine E_s (p' := 844) (st' := aI ((p : Nat) : Int) :: _) rfl rfl ?_
  refine E_s (p' := 845) (st' := aI 1 :: _) rfl rfl ?_
  refine E_add (v := ((p + 1 : Nat) : Int)) rfl (by omega) (by omega) ?_
  refine E_scr (j := ((p + 1 : Nat) : Int)) (v := (((xs (p + 1))))) rfl (inbN (len := len) (by omega)) (hI.2.2.2.2.2 (p + 1)) ?_
  refine E_callV (k' := 81) (a := 1) (r := []) (L0 := [some (aA 1), some (aI (((xs (p + 1))))), none]) rfl rfl rfl rfl rfl rfl rfl rfl rfl rfl ?_
  refine C_drop hI.1 (fun m1 hS1 hF1 => ?_)
  refine E_go (p' := 850) (L' := [some (aA 0), some (aA 1), some (aA 124), some (aI ((p : Nat) : Int))]) (st' := [aI (((on1 S (((xs (p + 1)))) (-2) oDrop).1))]) rfl rfl rfl ?_
  have hm1 := hI.mid (fun b j hb => hF1 b j (by omega))
  refine E_s (p' := 851) rfl rfl ?_
  refine E_s (p' := 852) (st' := aA 124 :: _) rfl rfl ?_
  refine E_s (p' := 853) (st' := aA 0 :: _) rfl rfl ?_
  refine E_s (p' := 854) (st' := aI ((p : Nat) : Int) :: _) rfl rfl ?_
  refine E_s (p' := 855) (st' := aI 1 :: _) rfl rfl ?_
  refine E_add (v := ((p + 1 : Nat) : Int)) rfl (by omega) (by omega) ?_
  refine E_scr (j := ((p + 1 : Nat) : Int)) (v := (((xs (p + 1))))) rfl (inbN (len := len) (by omega)) (hm1.2.2.2 (p + 1)) ?_
  refine E_callV (k' := 163) (a := 124) (r := []) (L0 := [some (aA 124), some (aI (((xs (p + 1)))))]) rfl rfl rfl rfl rfl rfl rfl rfl rfl rfl ?_
  refine M_drop hm1.1 (fun m2 hS2 hF2 => ?_)
  refine E_go (p' := 860) (L' := [some (aA 0), some (aA 1), some (aA 124), some (aI ((p : Nat) : Int))]) (st' := [aI (((on1 S (((xs (p + 1)))) (-2) oDrop).1))]) rfl rfl rfl ?_
  refine E_s (p' := 861) rfl rfl ?_
  refine E_s (p' := 1174) rfl rfl ?_
  exact hk _ _ _ _ _ (hI.step hS1 hF1 hS2 hF2)
theorem st_sumAt (hI : IV xs S l1 l2 n m) (hx32 : ∀ j, -2147483648 ≤ xs j ∧ xs j ≤ 2147483647) (hp : p + 6 ≤ len) (hl9 : len ≤ 3072) (hk : ∀ (S : Nat → RD) (l1 l2 : List (Nat × Nat)) (n : Nat) (m : Mm), IV xs S l1 l2 n m → E 0 1174 [some (aA 0), some (aA 1), some (aA 124), some (aI ((p : Nat) : Int))] [] (m, tl len) Q) : E 0 864 [some (aA 0), some (aA 1), some (aA 124), some (aI ((p : Nat) : Int))] [] (m, tl len) Q := by
  refine E_s (p' := 865) (st' := aA 1 :: _) rfl rfl ?_
  refine E_s (p' := 866) (st' := aA 0 :: _) rfl rfl ?_
  refine E_s (p' := 867) (st' := aI ((p : Nat) : Int) :: _) rfl rfl ?_
  refine E_s (p' := 868) (st' := aI 1 :: _) rfl rfl ?_
  refine E_add (v := ((p + 1 : Nat) : Int)) rfl (by omega) (by omega) ?_
  refine E_scr (j := ((p + 1 : Nat) : Int)) (v := (((xs (p + 1))))) rfl (inbN (len := len) (by omega)) (hI.2.2.2.2.2 (p + 1)) ?_
  refine E_s (p' := 871) (st' := aA 0 :: _) rfl rfl ?_
  refine E_s (p' := 872) (st' := aI ((p : Nat) : Int) :: _) rfl rfl ?_
  refine E_s (p' := 873) (st' := aI 2 :: _) rfl rfl ?_
  refine E_add (v := ((p + 2 : Nat) : Int)) rfl (by omega) (by omega) ?_
  refine E_scr (j := ((p + 2 : Nat) : Int)) (v := (((xs (p + 2))))) rfl (inbN (len := len) (by omega)) (hI.2.2.2.2.2 (p + 2)) ?_
  refine E_s (p' := 876) (st' := aA 0 :: _) rfl rfl ?_
  refine E_s (p' := 877) (st' := aI ((p : Nat) : Int) :: _) rfl rfl ?_
  refine E_s (p' := 878) (st' := aI 3 :: _) rfl rfl ?_
  refine E_add (v := ((p + 3 : Nat) : Int)) rfl (by omega) (by omega) ?_
  refine E_scr (j := ((p + 3 : Nat) : Int)) (v := (((xs (p + 3))))) rfl (inbN (len := len) (by omega)) (hI.2.2.2.2.2 (p + 3)) ?_
  refine E_callV (k' := 82) (a := 1) (r := []) (L0 := [some (aA 1), some (aI (((xs (p + 1))))), some (aI (((xs (p + 2))))), some (aI (((xs (p + 3))))), none, none]) rfl rfl rfl rfl rfl rfl rfl rfl rfl rfl ?_
  refine C_sumAt (hx32 _).2 hI.1 (fun m1 hS1 hF1 => ?_)
  refine E_go (p' := 883) (L' := [some (aA 0), some (aA 1), some (aA 124), some (aI ((p : Nat) : Int))]) (st' := [aI (((qy S (((xs (p + 1)))) (-1) (aSumAt (((xs (p + 2)))) (((xs (p + 3))))))))]) rfl rfl rfl ?_
  have hm1 := hI.mid (fun b j hb => hF1 b j (by omega))
  refine E_s (p' := 884) rfl rfl ?_
  refine E_s (p' := 885) (st' := aA 124 :: _) rfl rfl ?_
  refine E_s (p' := 886) (st' := aA 0 :: _) rfl rfl ?_
  refine E_s (p' := 887) (st' := aI ((p : Nat) : Int) :: _) rfl rfl ?_
  refine E_s (p' := 888) (st' := aI 1 :: _) rfl rfl ?_
  refine E_add (v := ((p + 1 : Nat) : Int)) rfl (by omega) (by omega) ?_
  refine E_scr (j := ((p + 1 : Nat) : Int)) (v := (((xs (p + 1))))) rfl (inbN (len := len) (by omega)) (hm1.2.2.2 (p + 1)) ?_
  refine E_s (p' := 891) (st' := aA 0 :: _) rfl rfl ?_
  refine E_s (p' := 892) (st' := aI ((p : Nat) : Int) :: _) rfl rfl ?_
  refine E_s (p' := 893) (st' := aI 2 :: _) rfl rfl ?_
  refine E_add (v := ((p + 2 : Nat) : Int)) rfl (by omega) (by omega) ?_
  refine E_scr (j := ((p + 2 : Nat) : Int)) (v := (((xs (p + 2))))) rfl (inbN (len := len) (by omega)) (hm1.2.2.2 (p + 2)) ?_
  refine E_s (p' := 896) (st' := aA 0 :: _) rfl rfl ?_
  refine E_s (p' := 897) (st' := aI ((p : Nat) : Int) :: _) rfl rfl ?_
  refine E_s (p' := 898) (st' := aI 3 :: _) rfl rfl ?_
  refine E_add (v := ((p + 3 : Nat) : Int)) rfl (by omega) (by omega) ?_
  refine E_scr (j := ((p + 3 : Nat) : Int)) (v := (((xs (p + 3))))) rfl (inbN (len := len) (by omega)) (hm1.2.2.2 (p + 3)) ?_
  refine E_callV (k' := 164) (a := 124) (r := []) (L0 := [some (aA 124), some (aI (((xs (p + 1))))), some (aI (((xs (p + 2))))), some (aI (((xs (p + 3))))), none, none, none, none]) rfl rfl rfl rfl rfl rfl rfl rfl rfl rfl ?_
  refine M_sumAt (hx32 _).2 hm1.1 (fun m2 hS2 hF2 => ?_)
  refine E_go (p' := 903) (L' := [some (aA 0), some (aA 1), some (aA 124), some (aI ((p : Nat) : Int))]) (st' := [aI (((qy S (((xs (p + 1)))) (-1) (aSumAt (((xs (p + 2)))) (((xs (p + 3))))))))]) rfl rfl rfl ?_
  refine E_s (p' := 904) rfl rfl ?_
  refine E_s (p' := 1174) rfl rfl ?_
  exact hk _ _ _ _ _ (hI.step hS1 hF1 hS2 hF2)
theorem st_settle (hI : IV xs S l1 l2 n m) (hx32 : ∀ j, -2147483648 ≤ xs j ∧ xs j ≤ 2147483647) (hp : p + 6 ≤ len) (hl9 : len ≤ 3072) (hk : ∀ (S : Nat → RD) (l1 l2 : List (Nat × Nat)) (n : Nat) (m : Mm), IV xs S l1 l2 n m → E 0 1174 [some (aA 0), some (aA 1), some (aA 124), some (aI ((p : Nat) : Int))] [] (m, tl len) Q) : E 0 907 [some (aA 0), some (aA 1), some (aA 124), some (aI ((p : Nat) : Int))] [] (m, tl len) Q := by
  refine E_s (p' := 908) (st' := aA 1 :: _) rfl rfl ?_
  refine E_s (p' := 909) (st' := aA 0 :: _) rfl rfl ?_
  refine E_s (p' := 910) (st' := aI ((p : Nat) : Int) :: _) rfl rfl ?_
  refine E_s (p' := 911) (st' := aI 1 :: _) rfl rfl ?_
  refine E_add (v := ((p + 1 : Nat) : Int)) rfl (by omega) (by omega) ?_
  refine E_scr (j := ((p + 1 : Nat) : Int)) (v := (((xs (p + 1))))) rfl (inbN (len := len) (by omega)) (hI.2.2.2.2.2 (p + 1)) ?_
  refine E_callV (k' := 85) (a := 1) (r := []) (L0 := [some (aA 1), some (aI (((xs (p + 1))))), none, none]) rfl rfl rfl rfl rfl rfl rfl rfl rfl rfl ?_
  refine C_settle hI.1 (fun m1 hS1 hF1 => ?_)
  refine E_go (p' := 916) (L' := [some (aA 0), some (aA 1), some (aA 124), some (aI ((p : Nat) : Int))]) (st' := [aI (((qy S (((xs (p + 1)))) (-2) aSettle)))]) rfl rfl rfl ?_
  have hm1 := hI.mid (fun b j hb => hF1 b j (by omega))
  refine E_s (p' := 917) rfl rfl ?_
  refine E_s (p' := 918) (st' := aA 124 :: _) rfl rfl ?_
  refine E_s (p' := 919) (st' := aA 0 :: _) rfl rfl ?_
  refine E_s (p' := 920) (st' := aI ((p : Nat) : Int) :: _) rfl rfl ?_
  refine E_s (p' := 921) (st' := aI 1 :: _) rfl rfl ?_
  refine E_add (v := ((p + 1 : Nat) : Int)) rfl (by omega) (by omega) ?_
  refine E_scr (j := ((p + 1 : Nat) : Int)) (v := (((xs (p + 1))))) rfl (inbN (len := len) (by omega)) (hm1.2.2.2 (p + 1)) ?_
  refine E_callV (k' := 165) (a := 124) (r := []) (L0 := [some (aA 124), some (aI (((xs (p + 1))))), none, none]) rfl rfl rfl rfl rfl rfl rfl rfl rfl rfl ?_
  refine M_settle hm1.1 (fun m2 hS2 hF2 => ?_)
  refine E_go (p' := 926) (L' := [some (aA 0), some (aA 1), some (aA 124), some (aI ((p : Nat) : Int))]) (st' := [aI (((qy S (((xs (p + 1)))) (-2) aSettle)))]) rfl rfl rfl ?_
  refine E_s (p' := 927) rfl rfl ?_
  refine E_s (p' := 1174) rfl rfl ?_
  exact hk _ _ _ _ _ (hI.step hS1 hF1 hS2 hF2)
theorem st_span (hI : IV xs S l1 l2 n m) (hx32 : ∀ j, -2147483648 ≤ xs j ∧ xs j ≤ 2147483647) (hp : p + 6 ≤ len) (hl9 : len ≤ 3072) (hk : ∀ (S : Nat → RD) (l1 l2 : List (Nat × Nat)) (n : Nat) (m : Mm), IV xs S l1 l2 n m → E 0 1174 [some (aA 0), some (aA 1), some (aA 124), some (aI ((p : Nat) : Int))] [] (m, tl len) Q) : E 0 930 [some (aA 0), some (aA 1), some (aA 124), some (aI ((p : Nat) : Int))] [] (m, tl len) Q := by
  refine E_s (p' := 931) (st' := aA 1 :: _) rfl rfl ?_
  refine E_s (p' := 932) (st' := aA 0 :: _) rfl rfl ?_
  refine E_s (p' := 933) (st' := aI ((p : Nat) : Int) :: _) rfl rfl ?_
  refine E_s (p' := 934) (st' := aI 1 :: _) rfl rfl ?_
  refine E_add (v := ((p + 1 : Nat) : Int)) rfl (by omega) (by omega) ?_
  refine E_scr (j := ((p + 1 : Nat) : Int)) (v := (((xs (p + 1))))) rfl (inbN (len := len) (by omega)) (hI.2.2.2.2.2 (p + 1)) ?_
  refine E_s (p' := 937) (st' := aA 0 :: _) rfl rfl ?_
  refine E_s (p' := 938) (st' := aI ((p : Nat) : Int) :: _) rfl rfl ?_
  refine E_s (p' := 939) (st' := aI 2 :: _) rfl rfl ?_
  refine E_add (v := ((p + 2 : Nat) : Int)) rfl (by omega) (by omega) ?_
  refine E_scr (j := ((p + 2 : Nat) : Int)) (v := (((xs (p + 2))))) rfl (inbN (len := len) (by omega)) (hI.2.2.2.2.2 (p + 2)) ?_
  refine E_s (p' := 942) (st' := aA 0 :: _) rfl rfl ?_
  refine E_s (p' := 943) (st' := aI ((p : Nat) : Int) :: _) rfl rfl ?_
  refine E_s (p' := 944) (st' := aI 3 :: _) rfl rfl ?_
  refine E_add (v := ((p + 3 : Nat) : Int)) rfl (by omega) (by omega) ?_
  refine E_scr (j := ((p + 3 : Nat) : Int)) (v := (((xs (p + 3))))) rfl (inbN (len := len) (by omega)) (hI.2.2.2.2.2 (p + 3)) ?_
  refine E_callV (k' := 95) (a := 1) (r := []) (L0 := [some (aA 1), some (aI (((xs (p + 1))))), some (aI (((xs (p + 2))))), some (aI (((xs (p + 3))))), none]) rfl rfl rfl rfl rfl rfl rfl rfl rfl rfl ?_
  refine C_span hI.1 (fun v1 => ?_)
  refine E_go (p' := 949) (L' := [some (aA 0), some (aA 1), some (aA 124), some (aI ((p : Nat) : Int))]) (st' := [aI (v1)]) rfl rfl rfl ?_
  refine E_s (p' := 950) rfl rfl ?_
  refine E_s (p' := 951) (st' := aA 124 :: _) rfl rfl ?_
  refine E_s (p' := 952) (st' := aA 0 :: _) rfl rfl ?_
  refine E_s (p' := 953) (st' := aI ((p : Nat) : Int) :: _) rfl rfl ?_
  refine E_s (p' := 954) (st' := aI 1 :: _) rfl rfl ?_
  refine E_add (v := ((p + 1 : Nat) : Int)) rfl (by omega) (by omega) ?_
  refine E_scr (j := ((p + 1 : Nat) : Int)) (v := (((xs (p + 1))))) rfl (inbN (len := len) (by omega)) (hI.2.2.2.2.2 (p + 1)) ?_
  refine E_s (p' := 957) (st' := aA 0 :: _) rfl rfl ?_
  refine E_s (p' := 958) (st' := aI ((p : Nat) : Int) :: _) rfl rfl ?_
  refine E_s (p' := 959) (st' := aI 2 :: _) rfl rfl ?_
  refine E_add (v := ((p + 2 : Nat) : Int)) rfl (by omega) (by omega) ?_
  refine E_scr (j := ((p + 2 : Nat) : Int)) (v := (((xs (p + 2))))) rfl (inbN (len := len) (by omega)) (hI.2.2.2.2.2 (p + 2)) ?_
  refine E_s (p' := 962) (st' := aA 0 :: _) rfl rfl ?_
  refine E_s (p' := 963) (st' := aI ((p : Nat) : Int) :: _) rfl rfl ?_
  refine E_s (p' := 964) (st' := aI 3 :: _) rfl rfl ?_
  refine E_add (v := ((p + 3 : Nat) : Int)) rfl (by omega) (by omega) ?_
  refine E_scr (j := ((p + 3 : Nat) : Int)) (v := (((xs (p + 3))))) rfl (inbN (len := len) (by omega)) (hI.2.2.2.2.2 (p + 3)) ?_
  refine E_callV (k' := 172) (a := 124) (r := []) (L0 := [some (aA 124), some (aI (((xs (p + 1))))), some (aI (((xs (p + 2))))), some (aI (((xs (p + 3)))))]) rfl rfl rfl rfl rfl rfl rfl rfl rfl rfl ?_
  refine M_span hI.2.1 (fun v2 => ?_)
  refine E_go (p' := 969) (L' := [some (aA 0), some (aA 1), some (aA 124), some (aI ((p : Nat) : Int))]) (st' := [aI (v2)]) rfl rfl rfl ?_
  refine E_s (p' := 970) rfl rfl ?_
  refine E_s (p' := 1174) rfl rfl ?_
  exact hk _ _ _ _ _ hI
theorem st_cure (hI : IV xs S l1 l2 n m) (hx32 : ∀ j, -2147483648 ≤ xs j ∧ xs j ≤ 2147483647) (hp : p + 6 ≤ len) (hl9 : len ≤ 3072) (hk : ∀ (S : Nat → RD) (l1 l2 : List (Nat × Nat)) (n : Nat) (m : Mm), IV xs S l1 l2 n m → E 0 1174 [some (aA 0), some (aA 1), some (aA 124), some (aI ((p : Nat) : Int))] [] (m, tl len) Q) : E 0 973 [some (aA 0), some (aA 1), some (aA 124), some (aI ((p : Nat) : Int))] [] (m, tl len) Q := by
  refine E_s (p' := 974) (st' := aA 1 :: _) rfl rfl ?_
  refine E_s (p' := 975) (st' := aA 0 :: _) rfl rfl ?_
  refine E_s (p' := 976) (st' := aI ((p : Nat) : Int) :: _) rfl rfl ?_
  refine E_s (p' := 977) (st' := aI 1 :: _) rfl rfl ?_
  refine E_add (v := ((p + 1 : Nat) : Int)) rfl (by omega) (by omega) ?_
  refine E_scr (j := ((p + 1 : Nat) : Int)) (v := (((xs (p + 1))))) rfl (inbN (len := len) (by omega)) (hI.2.2.2.2.2 (p + 1)) ?_
  refine E_callV (k' := 96) (a := 1) (r := []) (L0 := [some (aA 1), some (aI (((xs (p + 1))))), none]) rfl rfl rfl rfl rfl rfl rfl rfl rfl rfl ?_
  refine C_cure hI.1 (fun m1 v1 hS1 hF1 => ?_)
  refine E_go (p' := 982) (L' := [some (aA 0), some (aA 1), some (aA 124), some (aI ((p : Nat) : Int))]) (st' := [aI (v1)]) rfl rfl rfl ?_
  have hm1 := hI.mid (fun b j hb => hF1 b j (by omega))
  refine E_s (p' := 983) rfl rfl ?_
  refine E_s (p' := 984) (st' := aA 124 :: _) rfl rfl ?_
  refine E_s (p' := 985) (st' := aA 0 :: _) rfl rfl ?_
  refine E_s (p' := 986) (st' := aI ((p : Nat) : Int) :: _) rfl rfl ?_
  refine E_s (p' := 987) (st' := aI 1 :: _) rfl rfl ?_
  refine E_add (v := ((p + 1 : Nat) : Int)) rfl (by omega) (by omega) ?_
  refine E_scr (j := ((p + 1 : Nat) : Int)) (v := (((xs (p + 1))))) rfl (inbN (len := len) (by omega)) (hm1.2.2.2 (p + 1)) ?_
  refine E_callV (k' := 173) (a := 124) (r := []) (L0 := [some (aA 124), some (aI (((xs (p + 1))))), none, none]) rfl rfl rfl rfl rfl rfl rfl rfl rfl rfl ?_
  refine M_cure hm1.1 (fun i m2 v2 x2 y2 hi hr hcu h44 h0 h1 hS2 hF2 => ?_) (fun i m2 hi hr hcu hS2 hF2 => ?_) (fun hr => ?_)
  · refine E_go (p' := 992) (L' := [some (aA 0), some (aA 1), some (aA 124), some (aI ((p : Nat) : Int))]) (st' := [aI (v2)]) rfl rfl rfl ?_
    refine E_s (p' := 993) rfl rfl ?_
    refine E_s (p' := 1174) rfl rfl ?_
    have hn2 : ∃ k : Nat, k ≤ 2 ∧ v2 = (k : Int) := by
      rcases hcu with ⟨g, -⟩ | ⟨g, -⟩ | ⟨g, -⟩
      · exact ⟨0, by omega, g⟩
      · exact ⟨1, by omega, g⟩
      · exact ⟨2, by omega, g⟩
    obtain ⟨k2, hk2, ev2⟩ := hn2
    exact hk _ _ _ k2 m2 ⟨hS1.of9 (fun b j g1 g2 => hF2 b j (by omega)), hS2, (hI.2.2.1.of9 (fun b j g1 g2 => hF1 b j (by omega))).of9 (fun b j g1 g2 => hF2 b j (by omega)), hm1.2.1.of9 (fun b j g => hF2 b j (by omega)), ⟨hk2, h44.trans ev2⟩, fun j => (hF2 _ _ (by omega)).trans (hm1.2.2.2 j)⟩
  · refine E_go (p' := 992) (L' := [some (aA 0), some (aA 1), some (aA 124), some (aI ((p : Nat) : Int))]) (st' := [aI (-1)]) rfl rfl rfl ?_
    refine E_s (p' := 993) rfl rfl ?_
    refine E_s (p' := 1174) rfl rfl ?_
    exact hk _ _ _ n m2 ⟨hS1.of9 (fun b j g1 g2 => hF2 b j (by omega)), hS2, (hI.2.2.1.of9 (fun b j g1 g2 => hF1 b j (by omega))).of9 (fun b j g1 g2 => hF2 b j (by omega)), hm1.2.1.of9 (fun b j g => hF2 b j (by omega)), ⟨hm1.2.2.1.1, (hF2 _ _ (by omega)).trans hm1.2.2.1.2⟩, fun j => (hF2 _ _ (by omega)).trans (hm1.2.2.2 j)⟩
  · refine E_go (p' := 992) (L' := [some (aA 0), some (aA 1), some (aA 124), some (aI ((p : Nat) : Int))]) (st' := [aI (-2)]) rfl rfl rfl ?_
    refine E_s (p' := 993) rfl rfl ?_
    refine E_s (p' := 1174) rfl rfl ?_
    exact hk _ _ _ n m1 ⟨hS1, hm1.1, hI.2.2.1.of9 (fun b j g1 g2 => hF1 b j (by omega)), hm1.2.1, hm1.2.2.1, hm1.2.2.2⟩
theorem st_cured (hI : IV xs S l1 l2 n m) (hx32 : ∀ j, -2147483648 ≤ xs j ∧ xs j ≤ 2147483647) (hp : p + 6 ≤ len) (hl9 : len ≤ 3072) (hk : ∀ (S : Nat → RD) (l1 l2 : List (Nat × Nat)) (n : Nat) (m : Mm), IV xs S l1 l2 n m → E 0 1174 [some (aA 0), some (aA 1), some (aA 124), some (aI ((p : Nat) : Int))] [] (m, tl len) Q) : E 0 996 [some (aA 0), some (aA 1), some (aA 124), some (aI ((p : Nat) : Int))] [] (m, tl len) Q := by
  refine E_s (p' := 997) (st' := aA 1 :: _) rfl rfl ?_
  refine E_s (p' := 998) (st' := aA 0 :: _) rfl rfl ?_
  refine E_s (p' := 999) (st' := aI ((p : Nat) : Int) :: _) rfl rfl ?_
  refine E_s (p' := 1000) (st' := aI 1 :: _) rfl rfl ?_
  refine E_add (v := ((p + 1 : Nat) : Int)) rfl (by omega) (by omega) ?_
  refine E_scr (j := ((p + 1 : Nat) : Int)) (v := (((xs (p + 1))))) rfl (inbN (len := len) (by omega)) (hI.2.2.2.2.2 (p + 1)) ?_
  refine E_callV (k' := 104) (a := 1) (r := []) (L0 := [some (aA 1), some (aI (((xs (p + 1)))))]) rfl rfl rfl rfl rfl rfl rfl rfl rfl rfl ?_
  refine C_cured (fun v1 => ?_)
  refine E_go (p' := 1005) (L' := [some (aA 0), some (aA 1), some (aA 124), some (aI ((p : Nat) : Int))]) (st' := [aI (v1)]) rfl rfl rfl ?_
  refine E_s (p' := 1006) rfl rfl ?_
  refine E_s (p' := 1007) (st' := aA 124 :: _) rfl rfl ?_
  refine E_s (p' := 1008) (st' := aA 0 :: _) rfl rfl ?_
  refine E_s (p' := 1009) (st' := aI ((p : Nat) : Int) :: _) rfl rfl ?_
  refine E_s (p' := 1010) (st' := aI 1 :: _) rfl rfl ?_
  refine E_add (v := ((p + 1 : Nat) : Int)) rfl (by omega) (by omega) ?_
  refine E_scr (j := ((p + 1 : Nat) : Int)) (v := (((xs (p + 1))))) rfl (inbN (len := len) (by omega)) (hI.2.2.2.2.2 (p + 1)) ?_
  refine E_callV (k' := 175) (a := 124) (r := []) (L0 := [some (aA 124), some (aI (((xs (p + 1)))))]) rfl rfl rfl rfl rfl rfl rfl rfl rfl rfl ?_
  refine M_cured hI.2.2.2.2.1.1 hI.2.2.2.2.1.2 (fun v2 => ?_)
  refine E_go (p' := 1015) (L' := [some (aA 0), some (aA 1), some (aA 124), some (aI ((p : Nat) : Int))]) (st' := [aI (v2)]) rfl rfl rfl ?_
  refine E_s (p' := 1016) rfl rfl ?_
  refine E_s (p' := 1174) rfl rfl ?_
  exact hk _ _ _ _ _ hI
theorem st_found (hI : IV xs S l1 l2 n m) (hx32 : ∀ j, -2147483648 ≤ xs j ∧ xs j ≤ 2147483647) (hp : p + 6 ≤ len) (hl9 : len ≤ 3072) (hk : ∀ (S : Nat → RD) (l1 l2 : List (Nat × Nat)) (n : Nat) (m : Mm), IV xs S l1 l2 n m → E 0 1174 [some (aA 0), some (aA 1), some (aA 124), some (aI ((p : Nat) : Int))] [] (m, tl len) Q) : E 0 1019 [some (aA 0), some (aA 1), some (aA 124), some (aI ((p : Nat) : Int))] [] (m, tl len) Q := by
  refine E_s (p' := 1020) (st' := aA 1 :: _) rfl rfl ?_
  refine E_s (p' := 1021) (st' := aA 0 :: _) rfl rfl ?_
  refine E_s (p' := 1022) (st' := aI ((p : Nat) : Int) :: _) rfl rfl ?_
  refine E_s (p' := 1023) (st' := aI 1 :: _) rfl rfl ?_
  refine E_add (v := ((p + 1 : Nat) : Int)) rfl (by omega) (by omega) ?_
  refine E_scr (j := ((p + 1 : Nat) : Int)) (v := (((xs (p + 1))))) rfl (inbN (len := len) (by omega)) (hI.2.2.2.2.2 (p + 1)) ?_
  refine E_callV (k' := 106) (a := 1) (r := []) (L0 := [some (aA 1), some (aI (((xs (p + 1))))), none]) rfl rfl rfl rfl rfl rfl rfl rfl rfl rfl ?_
  refine C_found hI.1 hI.2.2.1 (fun m1 hS1 hF1 hL1 => ?_)
  refine E_go (p' := 1028) (L' := [some (aA 0), some (aA 1), some (aA 124), some (aI ((p : Nat) : Int))]) (st' := [aI (((fdV S (((xs (p + 1)))))))]) rfl rfl rfl ?_
  have hm1 := hI.mid (fun b j hb => hF1 b j (by omega))
  refine E_s (p' := 1029) rfl rfl ?_
  refine E_s (p' := 1030) (st' := aA 124 :: _) rfl rfl ?_
  refine E_s (p' := 1031) (st' := aA 0 :: _) rfl rfl ?_
  refine E_s (p' := 1032) (st' := aI ((p : Nat) : Int) :: _) rfl rfl ?_
  refine E_s (p' := 1033) (st' := aI 1 :: _) rfl rfl ?_
  refine E_add (v := ((p + 1 : Nat) : Int)) rfl (by omega) (by omega) ?_
  refine E_scr (j := ((p + 1 : Nat) : Int)) (v := (((xs (p + 1))))) rfl (inbN (len := len) (by omega)) (hm1.2.2.2 (p + 1)) ?_
  refine E_callV (k' := 176) (a := 124) (r := []) (L0 := [some (aA 124), some (aI (((xs (p + 1))))), none, none, none]) rfl rfl rfl rfl rfl rfl rfl rfl rfl rfl ?_
  refine M_found hm1.1 hm1.2.1 (fun m2 hS2 hF2 hL2 => ?_)
  refine E_go (p' := 1038) (L' := [some (aA 0), some (aA 1), some (aA 124), some (aI ((p : Nat) : Int))]) (st' := [aI (((mfV S (((xs (p + 1)))))))]) rfl rfl rfl ?_
  refine E_s (p' := 1039) rfl rfl ?_
  refine E_s (p' := 1174) rfl rfl ?_
  exact hk _ _ _ n m2 ⟨hS1.of9 (fun b j g1 g2 => hF2 b j (by omega)), hS2, hL1.of9 (fun b j g1 g2 => hF2 b j (by omega)), hL2, ⟨hm1.2.2.1.1, (hF2 _ _ (by omega)).trans hm1.2.2.1.2⟩, fun j => (hF2 _ _ (by omega)).trans (hm1.2.2.2 j)⟩
theorem st_grouping (hI : IV xs S l1 l2 n m) (hx32 : ∀ j, -2147483648 ≤ xs j ∧ xs j ≤ 2147483647) (hp : p + 6 ≤ len) (hl9 : len ≤ 3072) (hk : ∀ (S : Nat → RD) (l1 l2 : List (Nat × Nat)) (n : Nat) (m : Mm), IV xs S l1 l2 n m → E 0 1174 [some (aA 0), some (aA 1), some (aA 124), some (aI ((p : Nat) : Int))] [] (m, tl len) Q) : E 0 1042 [some (aA 0), some (aA 1), some (aA 124), some (aI ((p : Nat) : Int))] [] (m, tl len) Q := by
  refine E_s (p' := 1043) (st' := aA 1 :: _) rfl rfl ?_
  refine E_s (p' := 1044) (st' := aA 0 :: _) rfl rfl ?_
  refine E_s (p' := 1045) (st' := aI ((p : Nat) : Int) :: _) rfl rfl ?_
  refine E_s (p' := 1046) (st' := aI 1 :: _) rfl rfl ?_
  refine E_add (v := ((p + 1 : Nat) : Int)) rfl (by omega) (by omega) ?_
  refine E_scr (j := ((p + 1 : Nat) : Int)) (v := (((xs (p + 1))))) rfl (inbN (len := len) (by omega)) (hI.2.2.2.2.2 (p + 1)) ?_
  refine E_s (p' := 1049) (st' := aA 0 :: _) rfl rfl ?_
  refine E_s (p' := 1050) (st' := aI ((p : Nat) : Int) :: _) rfl rfl ?_
  refine E_s (p' := 1051) (st' := aI 2 :: _) rfl rfl ?_
  refine E_add (v := ((p + 2 : Nat) : Int)) rfl (by omega) (by omega) ?_
  refine E_scr (j := ((p + 2 : Nat) : Int)) (v := (((xs (p + 2))))) rfl (inbN (len := len) (by omega)) (hI.2.2.2.2.2 (p + 2)) ?_
  refine E_callV (k' := 115) (a := 1) (r := []) (L0 := [some (aA 1), some (aI (((xs (p + 1))))), some (aI (((xs (p + 2)))))]) rfl rfl rfl rfl rfl rfl rfl rfl rfl rfl ?_
  refine C_grouping hI.2.2.1.1 hI.2.2.1.2.1 (fun v1 => ?_)
  refine E_go (p' := 1056) (L' := [some (aA 0), some (aA 1), some (aA 124), some (aI ((p : Nat) : Int))]) (st' := [aI (v1)]) rfl rfl rfl ?_
  refine E_s (p' := 1057) rfl rfl ?_
  refine E_s (p' := 1058) (st' := aA 124 :: _) rfl rfl ?_
  refine E_s (p' := 1059) (st' := aA 0 :: _) rfl rfl ?_
  refine E_s (p' := 1060) (st' := aI ((p : Nat) : Int) :: _) rfl rfl ?_
  refine E_s (p' := 1061) (st' := aI 1 :: _) rfl rfl ?_
  refine E_add (v := ((p + 1 : Nat) : Int)) rfl (by omega) (by omega) ?_
  refine E_scr (j := ((p + 1 : Nat) : Int)) (v := (((xs (p + 1))))) rfl (inbN (len := len) (by omega)) (hI.2.2.2.2.2 (p + 1)) ?_
  refine E_s (p' := 1064) (st' := aA 0 :: _) rfl rfl ?_
  refine E_s (p' := 1065) (st' := aI ((p : Nat) : Int) :: _) rfl rfl ?_
  refine E_s (p' := 1066) (st' := aI 2 :: _) rfl rfl ?_
  refine E_add (v := ((p + 2 : Nat) : Int)) rfl (by omega) (by omega) ?_
  refine E_scr (j := ((p + 2 : Nat) : Int)) (v := (((xs (p + 2))))) rfl (inbN (len := len) (by omega)) (hI.2.2.2.2.2 (p + 2)) ?_
  refine E_callV (k' := 179) (a := 124) (r := []) (L0 := [some (aA 124), some (aI (((xs (p + 1))))), some (aI (((xs (p + 2)))))]) rfl rfl rfl rfl rfl rfl rfl rfl rfl rfl ?_
  refine M_grouping hI.2.2.2.1.1 hI.2.2.2.1.2.1 (fun v2 => ?_)
  refine E_go (p' := 1071) (L' := [some (aA 0), some (aA 1), some (aA 124), some (aI ((p : Nat) : Int))]) (st' := [aI (v2)]) rfl rfl rfl ?_
  refine E_s (p' := 1072) rfl rfl ?_
  refine E_s (p' := 1174) rfl rfl ?_
  exact hk _ _ _ _ _ hI
theorem st_period (hI : IV xs S l1 l2 n m) (hx32 : ∀ j, -2147483648 ≤ xs j ∧ xs j ≤ 2147483647) (hp : p + 6 ≤ len) (hl9 : len ≤ 3072) (hk : ∀ (S : Nat → RD) (l1 l2 : List (Nat × Nat)) (n : Nat) (m : Mm), IV xs S l1 l2 n m → E 0 1174 [some (aA 0), some (aA 1), some (aA 124), some (aI ((p : Nat) : Int))] [] (m, tl len) Q) : E 0 1075 [some (aA 0), some (aA 1), some (aA 124), some (aI ((p : Nat) : Int))] [] (m, tl len) Q := by
  refine E_s (p' := 1076) (st' := aA 1 :: _) rfl rfl ?_
  refine E_s (p' := 1077) (st' := aA 0 :: _) rfl rfl ?_
  refine E_s (p' := 1078) (st' := aI ((p : Nat) : Int) :: _) rfl rfl ?_
  refine E_s (p' := 1079) (st' := aI 1 :: _) rfl rfl ?_
  refine E_add (v := ((p + 1 : Nat) : Int)) rfl (by omega) (by omega) ?_
  refine E_scr (j := ((p + 1 : Nat) : Int)) (v := (((xs (p + 1))))) rfl (inbN (len := len) (by omega)) (hI.2.2.2.2.2 (p + 1)) ?_
  refine E_s (p' := 1082) (st' := aA 0 :: _) rfl rfl ?_
  refine E_s (p' := 1083) (st' := aI ((p : Nat) : Int) :: _) rfl rfl ?_
  refine E_s (p' := 1084) (st' := aI 2 :: _) rfl rfl ?_
  refine E_add (v := ((p + 2 : Nat) : Int)) rfl (by omega) (by omega) ?_
  refine E_scr (j := ((p + 2 : Nat) : Int)) (v := (((xs (p + 2))))) rfl (inbN (len := len) (by omega)) (hI.2.2.2.2.2 (p + 2)) ?_
  refine E_callV (k' := 116) (a := 1) (r := []) (L0 := [some (aA 1), some (aI (((xs (p + 1))))), some (aI (((xs (p + 2))))), none, none, none]) rfl rfl rfl rfl rfl rfl rfl rfl rfl rfl ?_
  refine C_period hI.1 (fun m1 hS1 hF1 => ?_)
  refine E_go (p' := 1089) (L' := [some (aA 0), some (aA 1), some (aA 124), some (aI ((p : Nat) : Int))]) (st' := [aI (((qy S (((xs (p + 1)))) (-1) (aPeriod (((xs (p + 2))))))))]) rfl rfl rfl ?_
  have hm1 := hI.mid (fun b j hb => hF1 b j (by omega))
  refine E_s (p' := 1090) rfl rfl ?_
  refine E_s (p' := 1091) (st' := aA 124 :: _) rfl rfl ?_
  refine E_s (p' := 1092) (st' := aA 0 :: _) rfl rfl ?_
  refine E_s (p' := 1093) (st' := aI ((p : Nat) : Int) :: _) rfl rfl ?_
  refine E_s (p' := 1094) (st' := aI 1 :: _) rfl rfl ?_
  refine E_add (v := ((p + 1 : Nat) : Int)) rfl (by omega) (by omega) ?_
  refine E_scr (j := ((p + 1 : Nat) : Int)) (v := (((xs (p + 1))))) rfl (inbN (len := len) (by omega)) (hm1.2.2.2 (p + 1)) ?_
  refine E_s (p' := 1097) (st' := aA 0 :: _) rfl rfl ?_
  refine E_s (p' := 1098) (st' := aI ((p : Nat) : Int) :: _) rfl rfl ?_
  refine E_s (p' := 1099) (st' := aI 2 :: _) rfl rfl ?_
  refine E_add (v := ((p + 2 : Nat) : Int)) rfl (by omega) (by omega) ?_
  refine E_scr (j := ((p + 2 : Nat) : Int)) (v := (((xs (p + 2))))) rfl (inbN (len := len) (by omega)) (hm1.2.2.2 (p + 2)) ?_
  refine E_callV (k' := 180) (a := 124) (r := []) (L0 := [some (aA 124), some (aI (((xs (p + 1))))), some (aI (((xs (p + 2))))), none, none, none, none]) rfl rfl rfl rfl rfl rfl rfl rfl rfl rfl ?_
  refine M_period hm1.1 (fun m2 hS2 hF2 => ?_)
  refine E_go (p' := 1104) (L' := [some (aA 0), some (aA 1), some (aA 124), some (aI ((p : Nat) : Int))]) (st' := [aI (((qy S (((xs (p + 1)))) (-1) (aPeriod (((xs (p + 2))))))))]) rfl rfl rfl ?_
  refine E_s (p' := 1105) rfl rfl ?_
  refine E_s (p' := 1174) rfl rfl ?_
  exact hk _ _ _ _ _ (hI.step hS1 hF1 hS2 hF2)
theorem st_likeness (hI : IV xs S l1 l2 n m) (hx32 : ∀ j, -2147483648 ≤ xs j ∧ xs j ≤ 2147483647) (hp : p + 6 ≤ len) (hl9 : len ≤ 3072) (hk : ∀ (S : Nat → RD) (l1 l2 : List (Nat × Nat)) (n : Nat) (m : Mm), IV xs S l1 l2 n m → E 0 1174 [some (aA 0), some (aA 1), some (aA 124), some (aI ((p : Nat) : Int))] [] (m, tl len) Q) : E 0 1108 [some (aA 0), some (aA 1), some (aA 124), some (aI ((p : Nat) : Int))] [] (m, tl len) Q := by
  refine E_s (p' := 1109) (st' := aA 1 :: _) rfl rfl ?_
  refine E_s (p' := 1110) (st' := aA 0 :: _) rfl rfl ?_
  refine E_s (p' := 1111) (st' := aI ((p : Nat) : Int) :: _) rfl rfl ?_
  refine E_s (p' := 1112) (st' := aI 1 :: _) rfl rfl ?_
  refine E_add (v := ((p + 1 : Nat) : Int)) rfl (by omega) (by omega) ?_
  refine E_scr (j := ((p + 1 : Nat) : Int)) (v := (((xs (p + 1))))) rfl (inbN (len := len) (by omega)) (hI.2.2.2.2.2 (p + 1)) ?_
  refine E_s (p' := 1115) (st' := aA 0 :: _) rfl rfl ?_
  refine E_s (p' := 1116) (st' := aI ((p : Nat) : Int) :: _) rfl rfl ?_
  refine E_s (p' := 1117) (st' := aI 2 :: _) rfl rfl ?_
  refine E_add (v := ((p + 2 : Nat) : Int)) rfl (by omega) (by omega) ?_
  refine E_scr (j := ((p + 2 : Nat) : Int)) (v := (((xs (p + 2))))) rfl (inbN (len := len) (by omega)) (hI.2.2.2.2.2 (p + 2)) ?_
  refine E_callV (k' := 119) (a := 1) (r := []) (L0 := [some (aA 1), some (aI (((xs (p + 1))))), some (aI (((xs (p + 2))))), none, none, none]) rfl rfl rfl rfl rfl rfl rfl rfl rfl rfl ?_
  refine C_likeness hI.1 (fun v1 m1 hsp hS1 hF1 => ?_)
  refine E_go (p' := 1122) (L' := [some (aA 0), some (aA 1), some (aA 124), some (aI ((p : Nat) : Int))]) (st' := [aI (v1)]) rfl rfl rfl ?_
  have hm1 := hI.mid (fun b j hb => hF1 b j (by omega))
  refine E_s (p' := 1123) rfl rfl ?_
  refine E_s (p' := 1124) (st' := aA 124 :: _) rfl rfl ?_
  refine E_s (p' := 1125) (st' := aA 0 :: _) rfl rfl ?_
  refine E_s (p' := 1126) (st' := aI ((p : Nat) : Int) :: _) rfl rfl ?_
  refine E_s (p' := 1127) (st' := aI 1 :: _) rfl rfl ?_
  refine E_add (v := ((p + 1 : Nat) : Int)) rfl (by omega) (by omega) ?_
  refine E_scr (j := ((p + 1 : Nat) : Int)) (v := (((xs (p + 1))))) rfl (inbN (len := len) (by omega)) (hm1.2.2.2 (p + 1)) ?_
  refine E_s (p' := 1130) (st' := aA 0 :: _) rfl rfl ?_
  refine E_s (p' := 1131) (st' := aI ((p : Nat) : Int) :: _) rfl rfl ?_
  refine E_s (p' := 1132) (st' := aI 2 :: _) rfl rfl ?_
  refine E_add (v := ((p + 2 : Nat) : Int)) rfl (by omega) (by omega) ?_
  refine E_scr (j := ((p + 2 : Nat) : Int)) (v := (((xs (p + 2))))) rfl (inbN (len := len) (by omega)) (hm1.2.2.2 (p + 2)) ?_
  refine E_callV (k' := 181) (a := 124) (r := []) (L0 := [some (aA 124), some (aI (((xs (p + 1))))), some (aI (((xs (p + 2))))), none, none, none, none, none]) rfl rfl rfl rfl rfl rfl rfl rfl rfl rfl ?_
  refine M_likeness hm1.1 (fun v2 m2 hsp2 hS2 hF2 => ?_)
  refine E_go (p' := 1137) (L' := [some (aA 0), some (aA 1), some (aA 124), some (aI ((p : Nat) : Int))]) (st' := [aI (v2)]) rfl rfl rfl ?_
  have ev := like_eq hsp hsp2
  refine E_s (p' := 1138) rfl rfl ?_
  refine E_s (p' := 1174) rfl rfl ?_
  exact hk _ _ _ _ _ (hI.step hS1 hF1 hS2 hF2)
theorem st_count (hI : IV xs S l1 l2 n m) (hx32 : ∀ j, -2147483648 ≤ xs j ∧ xs j ≤ 2147483647) (hp : p + 6 ≤ len) (hl9 : len ≤ 3072) (hk : ∀ (S : Nat → RD) (l1 l2 : List (Nat × Nat)) (n : Nat) (m : Mm), IV xs S l1 l2 n m → E 0 1174 [some (aA 0), some (aA 1), some (aA 124), some (aI ((p : Nat) : Int))] [] (m, tl len) Q) : E 0 1141 [some (aA 0), some (aA 1), some (aA 124), some (aI ((p : Nat) : Int))] [] (m, tl len) Q := by
  refine E_s (p' := 1142) (st' := aA 1 :: _) rfl rfl ?_
  refine E_s (p' := 1143) (st' := aA 0 :: _) rfl rfl ?_
  refine E_s (p' := 1144) (st' := aI ((p : Nat) : Int) :: _) rfl rfl ?_
  refine E_s (p' := 1145) (st' := aI 1 :: _) rfl rfl ?_
  refine E_add (v := ((p + 1 : Nat) : Int)) rfl (by omega) (by omega) ?_
  refine E_scr (j := ((p + 1 : Nat) : Int)) (v := (((xs (p + 1))))) rfl (inbN (len := len) (by omega)) (hI.2.2.2.2.2 (p + 1)) ?_
  refine E_s (p' := 1148) (st' := aA 0 :: _) rfl rfl ?_
  refine E_s (p' := 1149) (st' := aI ((p : Nat) : Int) :: _) rfl rfl ?_
  refine E_s (p' := 1150) (st' := aI 2 :: _) rfl rfl ?_
  refine E_add (v := ((p + 2 : Nat) : Int)) rfl (by omega) (by omega) ?_
  refine E_scr (j := ((p + 2 : Nat) : Int)) (v := (((xs (p + 2))))) rfl (inbN (len := len) (by omega)) (hI.2.2.2.2.2 (p + 2)) ?_
  refine E_callV (k' := 123) (a := 1) (r := []) (L0 := [some (aA 1), some (aI (((xs (p + 1))))), some (aI (((xs (p + 2))))), none]) rfl rfl rfl rfl rfl rfl rfl rfl rfl rfl ?_
  refine C_count hI.1 (fun m1 hS1 hF1 => ?_)
  refine E_go (p' := 1155) (L' := [some (aA 0), some (aA 1), some (aA 124), some (aI ((p : Nat) : Int))]) (st' := [aI (((qy S (((xs (p + 1)))) (-1) (aCount (((xs (p + 2))))))))]) rfl rfl rfl ?_
  have hm1 := hI.mid (fun b j hb => hF1 b j (by omega))
  refine E_s (p' := 1156) (st' := aA 124 :: _) rfl rfl ?_
  refine E_s (p' := 1157) (st' := aA 0 :: _) rfl rfl ?_
  refine E_s (p' := 1158) (st' := aI ((p : Nat) : Int) :: _) rfl rfl ?_
  refine E_s (p' := 1159) (st' := aI 1 :: _) rfl rfl ?_
  refine E_add (v := ((p + 1 : Nat) : Int)) rfl (by omega) (by omega) ?_
  refine E_scr (j := ((p + 1 : Nat) : Int)) (v := (((xs (p + 1))))) rfl (inbN (len := len) (by omega)) (hm1.2.2.2 (p + 1)) ?_
  refine E_s (p' := 1162) (st' := aA 0 :: _) rfl rfl ?_
  refine E_s (p' := 1163) (st' := aI ((p : Nat) : Int) :: _) rfl rfl ?_
  refine E_s (p' := 1164) (st' := aI 2 :: _) rfl rfl ?_
  refine E_add (v := ((p + 2 : Nat) : Int)) rfl (by omega) (by omega) ?_
  refine E_scr (j := ((p + 2 : Nat) : Int)) (v := (((xs (p + 2))))) rfl (inbN (len := len) (by omega)) (hm1.2.2.2 (p + 2)) ?_
  refine E_callV (k' := 182) (a := 124) (r := [aI (((qy S (((xs (p + 1)))) (-1) (aCount (((xs (p + 2))))))))]) (L0 := [some (aA 124), some (aI (((xs (p + 1))))), some (aI (((xs (p + 2))))), none, none]) rfl rfl rfl rfl rfl rfl rfl rfl rfl rfl ?_
  refine M_count hm1.1 (fun m2 hS2 hF2 => ?_)
  refine E_go (p' := 1169) (L' := [some (aA 0), some (aA 1), some (aA 124), some (aI ((p : Nat) : Int))]) (st' := [aI (((qy S (((xs (p + 1)))) (-1) (aCount (((xs (p + 2)))))))), aI (((qy S (((xs (p + 1)))) (-1) (aCount (((xs (p + 2))))))))]) rfl rfl rfl ?_
  refine E_icmp_eq (x := (((qy S (((xs (p + 1)))) (-1) (aCount (((xs (p + 2))))))))) (y := (((qy S (((xs (p + 1)))) (-1) (aCount (((xs (p + 2))))))))) rfl (by decide) (fun h_1 => ?_) (fun q => absurd q (by omega))
  refine E_go (p' := 1174) (L' := [some (aA 0), some (aA 1), some (aA 124), some (aI ((p : Nat) : Int))]) (st' := []) rfl rfl rfl ?_
  exact hk _ _ _ _ _ (hI.step hS1 hF1 hS2 hF2)
end
