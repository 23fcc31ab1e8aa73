def fieldOk (q : Nat × Nat × Nat × Nat × Nat) : Bool := match q with
  | (o, i, ci, j, w) => isW w (Cond.fieldLink (cnm o) i (clG ci).1 ((clG ci).2.1 j).2.1 ((clG ci).2.1 j).2.2.1) && (decide (j < (clG ci).2.2) && (decide (((clG ci).2.1 j).1 = (clG ci).1) && (Nat.blt ci 11 && decide (((clG ci).2.1 j).2.2.2 = Nat.beq (ft ci j) 2))))
def linkOk (q : Nat × Nat × Nat × Nat × Nat) : Bool := match q with
  | (o, i, k', h, w) => cond (Nat.beq k' 1000) (isW w (.methodLink (cnm o) i objectInit)) (cond (Nat.beq k' 1001) (isW w (.methodLink (cnm o) i arraycopyName)) (cond (Nat.beq k' 1002) (isW w (.methodLink (cnm o) i Lib.Math.max.name)) (cond (Nat.beq h 1) (isV w (.methodLinkNest (cnm o) i (yK k') "CordHouse")) (isW w (.methodLink (cnm o) i (yK k'))) && (Nat.blt 0 k' && (Nat.blt k' 183 && !Nat.beq k' 122)))))
def claOk (q : Nat × Nat × Nat × Nat) : Bool := match q with
  | (o, i, ci, w) => isW w (.classLink (cnm o) i (clG ci).1) && Nat.blt ci 11
def cstOk (q : Nat × Nat × Int × Nat) : Bool := match q with
  | (o, i, z, w) => isW w (.constant (cnm o) i (Int32.ofInt z)) && (decide (-2147483648 ≤ z) && decide (z ≤ 2147483647))
def metOk (q : Nat × Nat × Nat × Nat × Nat) : Bool := match q with
  | (k, wi, wc, wa, ws) => isW wi (.initialized (yK k).cls) && (goodWord (.code (yK k) (codeK k) (mxl k) (retK k)) && (cond (Nat.beq (how k) 1) (isW wa (.static (yK k))) (isW wa (.instanceMethod (yK k))) && (cond (Nat.beq (how k) 0) (isW ws (.selects (yK k).cls (yK k) (yK k))) (cond (Nat.beq (how k) 2) (decide ((yK k).name = "<init>") && Nat.beq (rtc k) 0) true) &&
    (decide ((yK k).cls = cnm (own k)) && (decide ((yK k).cls ≠ "java/lang/invoke/MethodHandle") && (decide ((yK k).cls ≠ "java/lang/invoke/VarHandle") && (decide ((parseMethodDescriptor (yK k).desc).map (fun d => d.parameters.length) = some (npr k)) && (plainName (yK k).cls && (Nat.beq (how k) 1 || decide ((clG (own k)).1 = cnm (own k) ∧ own k < 11))))))))))
theorem all_split {α : Type} {p : α → Bool} {l : List α} (n : Nat) (h1 : (l.take n).all p = true) (h2 : (l.drop n).all p = true) : l.all p = true := by
  rw [← List.take_append_drop n l, List.all_append, h1, h2]; rfl

theorem flK_0 : ((flI.drop 0).take 16).all fieldOk = true := by decide +kernel
theorem flK_16 : ((flI.drop 16).take 16).all fieldOk = true := by decide +kernel
theorem flK_32 : ((flI.drop 32).take 16).all fieldOk = true := by decide +kernel
theorem flK_48 : ((flI.drop 48).take 16).all fieldOk = true := by decide +kernel
theorem flK_64 : ((flI.drop 64).take 16).all fieldOk = true := by decide +kernel
theorem flK_80 : ((flI.drop 80).take 16).all fieldOk = true := by decide +kernel
theorem flK_96 : ((flI.drop 96).take 16).all fieldOk = true := by decide +kernel
theorem flK_112 : ((flI.drop 112).take 16).all fieldOk = true := by decide +kernel
theorem flK_128 : ((flI.drop 128).take 16).all fieldOk = true := by decide +kernel
theorem flK_144 : ((flI.drop 144).take 16).all fieldOk = true := by decide +kernel
theorem flK_160 : ((flI.drop 160).take 16).all fieldOk = true := by decide +kernel
theorem flK_176 : ((flI.drop 176).take 16).all fieldOk = true := by decide +kernel
theorem flK_192 : ((flI.drop 192).take 16).all fieldOk = true := by decide +kernel
theorem flK_e208 : (flI.drop 208).all fieldOk = true := by decide +kernel
theorem flK_e192 : (flI.drop 192).all fieldOk = true := all_split 16 flK_192 (by rw [List.drop_drop]; exact flK_e208)
theorem flK_e176 : (flI.drop 176).all fieldOk = true := all_split 16 flK_176 (by rw [List.drop_drop]; exact flK_e192)
theorem flK_e160 : (flI.drop 160).all fieldOk = true := all_split 16 flK_160 (by rw [List.drop_drop]; exact flK_e176)
theorem flK_e144 : (flI.drop 144).all fieldOk = true := all_split 16 flK_144 (by rw [List.drop_drop]; exact flK_e160)
theorem flK_e128 : (flI.drop 128).all fieldOk = true := all_split 16 flK_128 (by rw [List.drop_drop]; exact flK_e144)
theorem flK_e112 : (flI.drop 112).all fieldOk = true := all_split 16 flK_112 (by rw [List.drop_drop]; exact flK_e128)
theorem flK_e96 : (flI.drop 96).all fieldOk = true := all_split 16 flK_96 (by rw [List.drop_drop]; exact flK_e112)
theorem flK_e80 : (flI.drop 80).all fieldOk = true := all_split 16 flK_80 (by rw [List.drop_drop]; exact flK_e96)
theorem flK_e64 : (flI.drop 64).all fieldOk = true := all_split 16 flK_64 (by rw [List.drop_drop]; exact flK_e80)
theorem flK_e48 : (flI.drop 48).all fieldOk = true := all_split 16 flK_48 (by rw [List.drop_drop]; exact flK_e64)
theorem flK_e32 : (flI.drop 32).all fieldOk = true := all_split 16 flK_32 (by rw [List.drop_drop]; exact flK_e48)
theorem flK_e16 : (flI.drop 16).all fieldOk = true := all_split 16 flK_16 (by rw [List.drop_drop]; exact flK_e32)
theorem flK_e0 : (flI.drop 0).all fieldOk = true := all_split 16 flK_0 (by rw [List.drop_drop]; exact flK_e16)
theorem mlK_0 : ((mlI.drop 0).take 16).all linkOk = true := by decide +kernel
theorem mlK_16 : ((mlI.drop 16).take 16).all linkOk = true := by decide +kernel
theorem mlK_32 : ((mlI.drop 32).take 16).all linkOk = true := by decide +kernel
theorem mlK_48 : ((mlI.drop 48).take 16).all linkOk = true := by decide +kernel
theorem mlK_64 : ((mlI.drop 64).take 16).all linkOk = true := by decide +kernel
theorem mlK_80 : ((mlI.drop 80).take 16).all linkOk = true := by decide +kernel
theorem mlK_96 : ((mlI.drop 96).take 16).all linkOk = true := by decide +kernel
theorem mlK_112 : ((mlI.drop 112).take 16).all linkOk = true := by decide +kernel
theorem mlK_128 : ((mlI.drop 128).take 16).all linkOk = true := by decide +kernel
theorem mlK_144 : ((mlI.drop 144).take 16).all linkOk = true := by decide +kernel
theorem mlK_160 : ((mlI.drop 160).take 16).all linkOk = true := by decide +kernel
theorem mlK_176 : ((mlI.drop 176).take 16).all linkOk = true := by decide +kernel
theorem mlK_192 : ((mlI.drop 192).take 16).all linkOk = true := by decide +kernel
theorem mlK_208 : ((mlI.drop 208).take 16).all linkOk = true := by decide +kernel
theorem mlK_e224 : (mlI.drop 224).all linkOk = true := by decide +kernel
theorem mlK_e208 : (mlI.drop 208).all linkOk = true := all_split 16 mlK_208 (by rw [List.drop_drop]; exact mlK_e224)
theorem mlK_e192 : (mlI.drop 192).all linkOk = true := all_split 16 mlK_192 (by rw [List.drop_drop]; exact mlK_e208)
theorem mlK_e176 : (mlI.drop 176).all linkOk = true := all_split 16 mlK_176 (by rw [List.drop_drop]; exact mlK_e192)
theorem mlK_e160 : (mlI.drop 160).all linkOk = true := all_split 16 mlK_160 (by rw [List.drop_drop]; exact mlK_e176)
theorem mlK_e144 : (mlI.drop 144).all linkOk = true := all_split 16 mlK_144 (by rw [List.drop_drop]; exact mlK_e160)
theorem mlK_e128 : (mlI.drop 128).all linkOk = true := all_split 16 mlK_128 (by rw [List.drop_drop]; exact mlK_e144)
theorem mlK_e112 : (mlI.drop 112).all linkOk = true := all_split 16 mlK_112 (by rw [List.drop_drop]; exact mlK_e128)
theorem mlK_e96 : (mlI.drop 96).all linkOk = true := all_split 16 mlK_96 (by rw [List.drop_drop]; exact mlK_e112)
theorem mlK_e80 : (mlI.drop 80).all linkOk = true := all_split 16 mlK_80 (by rw [List.drop_drop]; exact mlK_e96)
theorem mlK_e64 : (mlI.drop 64).all linkOk = true := all_split 16 mlK_64 (by rw [List.drop_drop]; exact mlK_e80)
theorem mlK_e48 : (mlI.drop 48).all linkOk = true := all_split 16 mlK_48 (by rw [List.drop_drop]; exact mlK_e64)
theorem mlK_e32 : (mlI.drop 32).all linkOk = true := all_split 16 mlK_32 (by rw [List.drop_drop]; exact mlK_e48)
theorem mlK_e16 : (mlI.drop 16).all linkOk = true := all_split 16 mlK_16 (by rw [List.drop_drop]; exact mlK_e32)
theorem mlK_e0 : (mlI.drop 0).all linkOk = true := all_split 16 mlK_0 (by rw [List.drop_drop]; exact mlK_e16)
theorem clK_0 : ((clI.drop 0).take 11).all claOk = true := by decide +kernel
theorem clK_e11 : (clI.drop 11).all claOk = true := by decide +kernel
theorem clK_e0 : (clI.drop 0).all claOk = true := all_split 11 clK_0 (by rw [List.drop_drop]; exact clK_e11)
theorem csK_0 : ((csI.drop 0).take 7).all cstOk = true := by decide +kernel
theorem csK_e7 : (csI.drop 7).all cstOk = true := by decide +kernel
theorem csK_e0 : (csI.drop 0).all cstOk = true := all_split 7 csK_0 (by rw [List.drop_drop]; exact csK_e7)
