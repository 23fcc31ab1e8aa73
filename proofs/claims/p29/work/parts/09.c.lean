section RULES
variable {k pc n p' : Nat} {L L' : Lc} {st st' r : List AV} {s s' : Sx} {Q : Option AV → Sx → Prop} {i : Instr}
theorem E_scr {j v : Int} (hi : ins 0 pc = some (.iaload, n)) (hl : inb j s.2.2.2 = true) (hv : s.1 0 j.toNat = v) (kk : E 0 (pc + n) L (aI v :: r) s Q) : E 0 pc L (aI j :: aA 0 :: r) s Q := by
  subst hv
  refine E_s hi ?_ kk
  show ckP (Nat.beq 0 0 && inb j s.2.2.2) _ = _
  rw [hl]
  rfl
theorem E_val {z j : Int} (h : z = j) (kk : E k pc L (aI j :: r) s Q) : E k pc L (aI z :: r) s Q := h ▸ kk
theorem E_ialdv {j v : Int} {a N : Nat} (hi : ins k pc = some (.iaload, n)) (hk : kd a = (1, N)) (hs : s.2.1 = 168) (h0 : 0 ≤ j) (h1 : j < N) (hv : s.1 a j.toNat = v) (kk : E k (pc + n) L (aI v :: r) s Q) : E k pc L (aI j :: aA a :: r) s Q := E_iald hi hk hs h0 h1 (hv ▸ kk)
end RULES
theorem and31 (x : Int) : ∃ j : Nat, j < 32 ∧ b32 (fun a b => a &&& b) x 31 = j := by
  obtain ⟨j, h1, h2⟩ := pk_andE (Int32.ofInt x) (m := 31) 5 (by decide)
  refine ⟨j, h1, ?_⟩
  show (Int32.ofInt x &&& 31).toInt = _
  rw [h2, nI_toInt (by omega)]
def PQ : Option AV → Sx → Prop := fun v s => v = some (aI 1) ∧ s.2.1 = 168
def LL : Lc := [some (aA 0), some (aA 1), some (aA 124), some (aI 0)]
