theorem pc_two0 : ∀ i j : Fin 64, ((64 * i.1 + j.1 + 1) &&& (64 * i.1 + j.1) = 0 ↔ pc12 (64 * i.1 + j.1 + 1) < 2) ∨ 64 * i.1 + j.1 = 4095 := by decide +kernel
theorem pc_two {k : Nat} (hk : k < 4095) : (k + 1) &&& k = 0 ↔ pc12 (k + 1) < 2 := by
  have h1 := pc_two0 ⟨k / 64, by omega⟩ ⟨k % 64, by omega⟩
  dsimp only at h1
  rw [show 64 * (k / 64) + k % 64 = k by omega] at h1
  rcases h1 with h1 | h1
  · exact h1
  · omega
theorem wthn {b M : Nat} (hM : M < 4096) (h : b &&& (4095 - M) = 0) {k : Nat} (hk : k < 12) (ht : Nat.testBit b k = true) : Nat.testBit M k = true := by
  have h1 : Nat.testBit (b &&& (4095 - M)) k = false := by rw [h, Nat.zero_testBit]
  rw [Nat.testBit_and, ht, show 4095 - M = 2 ^ 12 - (M + 1) by omega, Nat.testBit_two_pow_sub_succ (by omega), decide_eq_true hk] at h1
  cases h2 : Nat.testBit M k
  · rw [h2] at h1; exact absurd h1 (by decide)
  · rfl
theorem b32_not {M : Nat} (hM : M < 4096) : b32 (fun a b => a ^^^ b) (M : Int) (-1) = -1 - (M : Int) := by
  unfold b32
  dsimp only
  have h : Int32.ofInt (M : Int) ^^^ Int32.ofInt (-1) = Int32.ofInt (-1 - (M : Int)) := by
    apply Int32.toBitVec_inj.mp
    show BitVec.ofInt 32 (M : Int) ^^^ BitVec.ofInt 32 (-1) = BitVec.ofInt 32 (-1 - (M : Int))
    rw [show BitVec.ofInt 32 (-1) = BitVec.allOnes 32 from rfl, BitVec.xor_allOnes]
    apply BitVec.eq_of_toNat_eq
    rw [BitVec.toNat_not, BitVec.toNat_ofInt, BitVec.toNat_ofInt]
    omega
  rw [h]
  exact Int32.toInt_ofInt_of_le (by omega) (by omega)
theorem b32_nim {b M : Nat} (hb : b < 4096) (hM : M < 4096) : b32 (fun a b => a &&& b) (b : Int) (-1 - (M : Int)) = ((b &&& (4095 - M) : Nat) : Int) := by
  have hle := @Nat.and_le_left b (4095 - M)
  unfold b32
  dsimp only
  have h : nI b &&& Int32.ofInt (-1 - (M : Int)) = nI (b &&& (4095 - M)) := by
    apply Int32.toBitVec_inj.mp
    apply BitVec.eq_of_toNat_eq
    show (BitVec.ofNat 32 b &&& BitVec.ofInt 32 (-1 - (M : Int))).toNat = (BitVec.ofNat 32 _).toNat
    rw [BitVec.toNat_and, BitVec.toNat_ofInt, BitVec.toNat_ofNat, BitVec.toNat_ofNat, Nat.mod_eq_of_lt (show b < 2 ^ 32 by omega), Nat.mod_eq_of_lt (show b &&& (4095 - M) < 2 ^ 32 by omega), Nat.and_comm, and_m12 hb, Nat.and_comm b, @and_m12 (4095 - M) b hb]
    congr 1
    omega
  rw [oI, h, nI_toInt (by omega)]
section
variable {k pc n : Nat} {L : Lc} {r : List AV} {Q : Option AV → Sx → Prop} {s : Sx} {b M v : Nat}
theorem E_not (hi : ins k pc = some (.ixor, n)) (hM : M < 4096) (kk : E k (pc + n) L (aI (-1 - (M : Int)) :: r) s Q) : E k pc L (aI (-1) :: aI (M : Int) :: r) s Q := by
  refine E_s hi ?_ kk
  rw [← b32_not hM]
  rfl
theorem E_nim (hi : ins k pc = some (.iand, n)) (hb : b < 4096) (hM : M < 4096) (hv : b &&& (4095 - M) = v) (kk : E k (pc + n) L (aI (v : Int) :: r) s Q) : E k pc L (aI (-1 - (M : Int)) :: aI (b : Int) :: r) s Q := by
  subst hv
  refine E_s hi ?_ kk
  rw [← b32_nim hb hM]
  rfl
end
