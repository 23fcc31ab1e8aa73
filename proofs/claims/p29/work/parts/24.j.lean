theorem nI_u31 : ∀ y, y < 32 → ((nI y).toUInt32 &&& Int32.toUInt32 31).toNat % 32 = y := by decide
theorem b32_ushr {x y : Nat} (hx : x < 2147483648) (hy : y < 32) : b32 (fun a b => (a.toUInt32 >>> (b.toUInt32 &&& Int32.toUInt32 31)).toInt32) (x : Int) (y : Int) = ((x / 2 ^ y : Nat) : Int) := by
  unfold b32
  dsimp only
  have h : ((nI x).toUInt32 >>> ((nI y).toUInt32 &&& Int32.toUInt32 31)).toInt32 = nI (x / 2 ^ y) := by
    apply Int32.toBitVec_inj.mp
    apply BitVec.eq_of_toNat_eq
    show ((nI x).toUInt32 >>> ((nI y).toUInt32 &&& Int32.toUInt32 31)).toNat = _
    rw [UInt32.toNat_shiftRight, nI_u31 y hy, Nat.shiftRight_eq_div_pow]
    have hd := Nat.div_le_self x (2 ^ y)
    have e1 : (nI x).toUInt32.toNat = x := by show (BitVec.ofNat 32 x).toNat = x; rw [BitVec.toNat_ofNat]; omega
    have e2 : (nI (x / 2 ^ y)).toBitVec.toNat = x / 2 ^ y := by show (BitVec.ofNat 32 _).toNat = _; rw [BitVec.toNat_ofNat]; exact Nat.mod_eq_of_lt (Nat.lt_of_le_of_lt hd (by omega))
    rw [e1, e2]
  rw [oI, oI, h, nI_toInt (by have := Nat.div_le_self x (2 ^ y); omega)]
theorem E_ushr {k pc n : Nat} {L : Lc} {r : List AV} {Q : Option AV → Sx → Prop} {s : Sx} {x y v : Nat} (hi : ins k pc = some (.iushr, n)) (hx : x < 2147483648) (hy : y < 32) (hv : x / 2 ^ y = v) (kk : E k (pc + n) L (aI (v : Int) :: r) s Q) : E k pc L (aI (y : Int) :: aI (x : Int) :: r) s Q := by
  subst hv
  refine E_s hi ?_ kk
  rw [← b32_ushr hx hy]
  rfl
/-- how many of the first 12 bits are set -/
def pc12 (n : Nat) : Nat := n % 2 + n / 2 % 2 + n / 4 % 2 + n / 8 % 2 + n / 16 % 2 + n / 32 % 2 + n / 64 % 2 + n / 128 % 2 + n / 256 % 2 + n / 512 % 2 + n / 1024 % 2 + n / 2048 % 2
def bcA (n : Nat) : Nat := n - (n / 2 ^ 1 &&& 1431655765)
def bcB (b : Nat) : Nat := (b &&& 858993459) + (b / 2 ^ 2 &&& 858993459)
def bcD (b : Nat) : Nat := (b + b / 2 ^ 4) &&& 252645135
def bcF (b : Nat) : Nat := b + b / 2 ^ 8
def bcG (b : Nat) : Nat := b + b / 2 ^ 16
theorem bc_all0 : ∀ i j : Fin 64, (bcG (bcF (bcD (bcB (bcA (64 * i.1 + j.1))))) &&& 63) = pc12 (64 * i.1 + j.1) := by decide +kernel
theorem bc_all {n : Nat} (hn : n < 4096) : (bcG (bcF (bcD (bcB (bcA n)))) &&& 63) = pc12 n := by
  have h1 := bc_all0 ⟨n / 64, by omega⟩ ⟨n % 64, by omega⟩
  dsimp only at h1
  rw [show 64 * (n / 64) + n % 64 = n by omega] at h1
  exact h1
section
variable {len : Nat} {m m0 : Mm} {Q : Option AV → Sx → Prop} {R : RD} {S : Nat → RD} {a : Nat}
theorem bc_a {x : Nat} (hx : x < 4096) (kk : E 113 10 [some (aI ((bcA x : Nat) : Int))] [] (m, tl len) Q) : E 113 0 [some (aI (x : Int))] [] (m, tl len) Q := by
  have h1 := @Nat.and_le_left (x / 2 ^ 1) 1431655765
  refine E_s (p' := 1) (st' := aI ((x : Nat) : Int) :: _) rfl rfl ?_
  refine E_s (p' := 2) (st' := aI ((x : Nat) : Int) :: _) rfl rfl ?_
  refine E_s (p' := 3) (st' := aI 1 :: _) rfl rfl ?_
  refine E_ushr (x := x) (y := 1) (v := ((x) / 2 ^ 1)) rfl (by omega) (by omega) rfl ?_
  refine E_s (p' := 7) (st' := aI 1431655765 :: _) rfl rfl ?_
  refine E_and (x := ((x) / 2 ^ 1)) (y := 1431655765) (v := ((((x) / 2 ^ 1)) &&& 1431655765)) rfl (by omega) (by omega) rfl ?_
  refine E_sub (v := ((bcA x : Nat) : Int)) rfl (by unfold bcA; omega) (by unfold bcA; omega) ?_
  refine E_s (p' := 10) (L' := [some (aI ((bcA x : Nat) : Int))]) rfl rfl ?_
  exact kk
theorem bc_b {x : Nat} (hx : x < 4096) (kk : E 113 24 [some (aI ((bcB x : Nat) : Int))] [] (m, tl len) Q) : E 113 10 [some (aI (x : Int))] [] (m, tl len) Q := by
  have h1 := @Nat.and_le_left x 858993459
  have h2 := @Nat.and_le_left (x / 2 ^ 2) 858993459
  refine E_s (p' := 11) (st' := aI ((x : Nat) : Int) :: _) rfl rfl ?_
  refine E_s (p' := 14) (st' := aI 858993459 :: _) rfl rfl ?_
  refine E_and (x := x) (y := 858993459) (v := ((x) &&& 858993459)) rfl (by omega) (by omega) rfl ?_
  refine E_s (p' := 16) (st' := aI ((x : Nat) : Int) :: _) rfl rfl ?_
  refine E_s (p' := 17) (st' := aI 2 :: _) rfl rfl ?_
  refine E_ushr (x := x) (y := 2) (v := ((x) / 2 ^ 2)) rfl (by omega) (by omega) rfl ?_
  refine E_s (p' := 21) (st' := aI 858993459 :: _) rfl rfl ?_
  refine E_and (x := ((x) / 2 ^ 2)) (y := 858993459) (v := ((((x) / 2 ^ 2)) &&& 858993459)) rfl (by omega) (by omega) rfl ?_
  refine E_add (v := ((((x) &&& 858993459) + ((((x) / 2 ^ 2)) &&& 858993459) : Nat) : Int)) rfl (by omega) (by omega) ?_
  refine E_valv (v := ((bcB x : Nat) : Int)) (by unfold bcB; omega) ?_
  refine E_s (p' := 24) (L' := [some (aI ((bcB x : Nat) : Int))]) rfl rfl ?_
  exact kk
theorem bc_d {x : Nat} (hx : x < 4096) (kk : E 113 34 [some (aI ((bcD x : Nat) : Int))] [] (m, tl len) Q) : E 113 24 [some (aI (x : Int))] [] (m, tl len) Q := by
  refine E_s (p' := 25) (st' := aI ((x : Nat) : Int) :: _) rfl rfl ?_
  refine E_s (p' := 26) (st' := aI ((x : Nat) : Int) :: _) rfl rfl ?_
  refine E_s (p' := 27) (st' := aI 4 :: _) rfl rfl ?_
  refine E_ushr (x := x) (y := 4) (v := ((x) / 2 ^ 4)) rfl (by omega) (by omega) rfl ?_
  refine E_add (v := ((x + ((x) / 2 ^ 4) : Nat) : Int)) rfl (by omega) (by omega) ?_
  refine E_s (p' := 32) (st' := aI 252645135 :: _) rfl rfl ?_
  refine E_and (x := x + ((x) / 2 ^ 4)) (y := 252645135) (v := ((x + ((x) / 2 ^ 4)) &&& 252645135)) rfl (by omega) (by omega) rfl ?_
  refine E_valv (v := ((bcD x : Nat) : Int)) (by unfold bcD; omega) ?_
  refine E_s (p' := 34) (L' := [some (aI ((bcD x : Nat) : Int))]) rfl rfl ?_
  exact kk
theorem bc_f {x : Nat} (hx : x < 4096) (kk : E 113 41 [some (aI ((bcF x : Nat) : Int))] [] (m, tl len) Q) : E 113 34 [some (aI (x : Int))] [] (m, tl len) Q := by
  refine E_s (p' := 35) (st' := aI ((x : Nat) : Int) :: _) rfl rfl ?_
  refine E_s (p' := 36) (st' := aI ((x : Nat) : Int) :: _) rfl rfl ?_
  refine E_s (p' := 38) (st' := aI 8 :: _) rfl rfl ?_
  refine E_ushr (x := x) (y := 8) (v := ((x) / 2 ^ 8)) rfl (by omega) (by omega) rfl ?_
  refine E_add (v := ((x + ((x) / 2 ^ 8) : Nat) : Int)) rfl (by omega) (by omega) ?_
  refine E_valv (v := ((bcF x : Nat) : Int)) (by unfold bcF; omega) ?_
  refine E_s (p' := 41) (L' := [some (aI ((bcF x : Nat) : Int))]) rfl rfl ?_
  exact kk
theorem bc_g {x : Nat} (hx : x < 4096) (kk : E 113 48 [some (aI ((bcG x : Nat) : Int))] [] (m, tl len) Q) : E 113 41 [some (aI (x : Int))] [] (m, tl len) Q := by
  refine E_s (p' := 42) (st' := aI ((x : Nat) : Int) :: _) rfl rfl ?_
  refine E_s (p' := 43) (st' := aI ((x : Nat) : Int) :: _) rfl rfl ?_
  refine E_s (p' := 45) (st' := aI 16 :: _) rfl rfl ?_
  refine E_ushr (x := x) (y := 16) (v := ((x) / 2 ^ 16)) rfl (by omega) (by omega) rfl ?_
  refine E_add (v := ((x + ((x) / 2 ^ 16) : Nat) : Int)) rfl (by omega) (by omega) ?_
  refine E_valv (v := ((bcG x : Nat) : Int)) (by unfold bcG; omega) ?_
  refine E_s (p' := 48) (L' := [some (aI ((bcG x : Nat) : Int))]) rfl rfl ?_
  exact kk
theorem bcA_l (n : Nat) : bcA n ≤ n := Nat.sub_le _ _
theorem bc_rng0 : ∀ i j : Fin 64, bcB (bcA (64 * i.1 + j.1)) < 4096 ∧ bcD (bcB (bcA (64 * i.1 + j.1))) < 4096 ∧ bcF (bcD (bcB (bcA (64 * i.1 + j.1)))) < 4096 ∧ bcG (bcF (bcD (bcB (bcA (64 * i.1 + j.1))))) < 4096 := by decide +kernel
theorem bc_rng {n : Nat} (hn : n < 4096) : bcB (bcA n) < 4096 ∧ bcD (bcB (bcA n)) < 4096 ∧ bcF (bcD (bcB (bcA n))) < 4096 ∧ bcG (bcF (bcD (bcB (bcA n)))) < 4096 := by
  have h1 := bc_rng0 ⟨n / 64, by omega⟩ ⟨n % 64, by omega⟩
  dsimp only at h1
  rw [show 64 * (n / 64) + n % 64 = n by omega] at h1
  exact h1
theorem c_bc {n : Nat} (hn : n < 4096) (q : Q (some (aI ((pc12 n : Nat) : Int))) (m, tl len)) : E 113 0 [some (aI (n : Int))] [] (m, tl len) Q := by
  obtain ⟨r1, r2, r3, r4⟩ := bc_rng hn
  have r0 := bcA_l n
  refine bc_a hn (bc_b (by omega) (bc_d r1 (bc_f r2 (bc_g r3 ?_))))
  have e9 := bc_all hn
  rw [← e9] at q
  generalize bcG (bcF (bcD (bcB (bcA n)))) = x at *
  refine E_s (p' := 49) (st' := aI ((x : Nat) : Int) :: _) rfl rfl ?_
  refine E_s (p' := 51) (st' := aI 63 :: _) rfl rfl ?_
  refine E_and (x := x) (y := 63) (v := ((x) &&& 63)) rfl (by omega) (by omega) rfl ?_
  refine E_ret rfl rfl ?_
  exact q
end
