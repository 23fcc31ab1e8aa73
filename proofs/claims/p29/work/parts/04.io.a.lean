def lenOk (i : Instr) (n : Nat) : Bool := match i with
  | .bipush _ | .ldc _ | .iload _ | .lload _ | .aload _ | .istore _ | .lstore _ | .astore _ | .newarray _ => Nat.beq n 2
  | .sipush _ | .ldc_w _ | .iinc _ _ | .goto _ | .ifCond _ _ | .if_icmp _ _ | .ifnull _ | .ifnonnull _ | .getfield _ | .putfield _ | .new _ | .anewarray _ | .invokevirtual _ | .invokespecial _ | .invokestatic _ => Nat.beq n 3
  | .tableswitch _ _ _ _ => true
  | .lookupswitch _ _ => true
  | _ => Nat.beq n 1
def codeK (k : Nat) : ByteArray := mtC.getD k ⟨#[]⟩
def ck (f : Nat → Option (Instr × Nat)) (cc : ByteArray) (pc : Nat) : Bool := match f pc with
  | none => true
  | some r => decide (decode cc pc = .ok r) && lenOk r.1 r.2
def ckr (a n : Nat) (f : Nat → Option (Instr × Nat)) (cc : ByteArray) : Bool := (List.range n).all fun d => ck f cc (a + d)
theorem ckr_of {a n : Nat} {f : Nat → Option (Instr × Nat)} {cc : ByteArray} (h : ckr a n f cc = true) (pc : Nat) (h1 : a ≤ pc) (h2 : pc < a + n) : ck f cc pc = true := by
  have h3 := List.all_eq_true.mp h (pc - a) (List.mem_range.mpr (by omega))
  rw [show a + (pc - a) = pc by omega] at h3
  exact h3
theorem ckr_up {a n n' : Nat} {f : Nat → Option (Instr × Nat)} {cc : ByteArray} (h0 : ∀ pc, pc < a → ck f cc pc = true) (h : ckr a n f cc = true) (e : a + n = n') : ∀ pc, pc < n' → ck f cc pc = true := by
  intro pc h1
  rcases Nat.lt_or_ge pc a with q | q
  · exact h0 pc q
  · exact ckr_of h pc q (by omega)
theorem ckr_0 {f : Nat → Option (Instr × Nat)} {cc : ByteArray} : ∀ pc, pc < 0 → ck f cc pc = true := fun _ h => absurd h (Nat.not_lt_zero _)
theorem io_of {k : Nat} {f : Nat → Option (Instr × Nat)} (sz : Nat) {cc : ByteArray} {g : Nat → Option (Instr × Nat)} (hk : ins k = f) (hcc : codeK k = cc) (hf : f = fun pc => cond (Nat.ble sz pc) none (g pc)) (hc : ∀ pc, pc < sz → ck f cc pc = true) (pc : Nat) (i : Instr) (n : Nat) (h : ins k pc = some (i, n)) : decode (codeK k) pc = .ok (i, n) ∧ lenOk i n = true := by
  rw [hk] at h
  rw [hcc]
  have hlt : pc < sz := by
    cases hb : Nat.ble sz pc with
    | true => rw [hf] at h; simp only [hb, cond_true] at h; cases h
    | false => exact Nat.lt_of_not_le fun hle => by rw [Nat.ble_eq_true_of_le hle] at hb; cases hb
  have h1 := hc pc hlt
  unfold ck at h1
  rw [h] at h1
  simp only [Bool.and_eq_true, decide_eq_true_eq] at h1
  exact h1
def ioP (k : Nat) : Prop := ∀ (pc : Nat) (i : Instr) (n : Nat), ins k pc = some (i, n) → decode (codeK k) pc = .ok (i, n) ∧ lenOk i n = true
theorem ioN {k : Nat} (h : ∀ pc, ins k pc = none) : ioP k := fun pc i n e => by rw [h pc] at e; cases e
