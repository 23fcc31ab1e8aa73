abbrev Fo : Type := Option (Instr ⊕ (Nat → Instr) ⊕ (Int → Instr) ⊕ (Nat → Instr) ⊕ (Int → Instr) ⊕ (Nat → Int → Instr))
def Kx (pc : Nat) : { K : Nat → Decoder Instr // Decoder.instr pc = (Reader.u1 : Decoder Nat) >>= K } := ⟨_, rfl⟩
def FoK (op : Nat) : Fo → Prop
  | none => True
  | some (.inl i) => ∀ pc, (Kx pc).1 op = Pure.pure i
  | some (.inr (.inl c)) => ∀ pc, (Kx pc).1 op = (Reader.u1 >>= fun x => Pure.pure (c x) : Decoder Instr)
  | some (.inr (.inr (.inl c))) => ∀ pc, (Kx pc).1 op = (Reader.s1 >>= fun x => Pure.pure (c x) : Decoder Instr)
  | some (.inr (.inr (.inr (.inl c)))) => ∀ pc, (Kx pc).1 op = (Reader.u2 >>= fun x => Pure.pure (c x) : Decoder Instr)
  | some (.inr (.inr (.inr (.inr (.inl c))))) => ∀ pc, (Kx pc).1 op = (Reader.s2 >>= fun x => Pure.pure (c x) : Decoder Instr)
  | some (.inr (.inr (.inr (.inr (.inr c))))) => ∀ pc, (Kx pc).1 op = (Reader.u1 >>= fun x => Reader.s1 >>= fun y => Pure.pure (c x y) : Decoder Instr)
theorem fo_l {op a : Nat} {f : Fo} (h : FoK a f) : FoK op (cond (Nat.beq op a) f none) := by
  cases e : Nat.beq op a with
  | false => exact True.intro
  | true => rw [Nat.eq_of_beq_eq_true e]; exact h
theorem fo_c {op : Nat} {b : Bool} {f g : Fo} (h1 : FoK op f) (h2 : FoK op g) : FoK op (cond b f g) := by
  cases b with
  | false => exact h2
  | true => exact h1
theorem fo_1 : FoK 1 (some (.inl Instr.aconst_null)) := fun _ => rfl
theorem fo_2 : FoK 2 (some (.inl (Instr.iconst (-1)))) := fun _ => rfl
theorem fo_3 : FoK 3 (some (.inl (Instr.iconst 0))) := fun _ => rfl
theorem fo_4 : FoK 4 (some (.inl (Instr.iconst 1))) := fun _ => rfl
theorem fo_5 : FoK 5 (some (.inl (Instr.iconst 2))) := fun _ => rfl
theorem fo_6 : FoK 6 (some (.inl (Instr.iconst 3))) := fun _ => rfl
theorem fo_7 : FoK 7 (some (.inl (Instr.iconst 4))) := fun _ => rfl
theorem fo_8 : FoK 8 (some (.inl (Instr.iconst 5))) := fun _ => rfl
theorem fo_9 : FoK 9 (some (.inl (Instr.lconst 0))) := fun _ => rfl
theorem fo_10 : FoK 10 (some (.inl (Instr.lconst 1))) := fun _ => rfl
theorem fo_16 : FoK 16 (some (.inr (.inr (.inl fun x => (Instr.bipush x))))) := fun _ => rfl
theorem fo_17 : FoK 17 (some (.inr (.inr (.inr (.inr (.inl fun x => (Instr.sipush x))))))) := fun _ => rfl
theorem fo_18 : FoK 18 (some (.inr (.inl fun x => (Instr.ldc x)))) := fun _ => rfl
theorem fo_19 : FoK 19 (some (.inr (.inr (.inr (.inl fun x => (Instr.ldc_w x)))))) := fun _ => rfl
theorem fo_21 : FoK 21 (some (.inr (.inl fun x => (Instr.iload x)))) := fun _ => rfl
theorem fo_22 : FoK 22 (some (.inr (.inl fun x => (Instr.lload x)))) := fun _ => rfl
theorem fo_25 : FoK 25 (some (.inr (.inl fun x => (Instr.aload x)))) := fun _ => rfl
theorem fo_26 : FoK 26 (some (.inl (Instr.iload_n 0))) := fun _ => rfl
theorem fo_27 : FoK 27 (some (.inl (Instr.iload_n 1))) := fun _ => rfl
theorem fo_28 : FoK 28 (some (.inl (Instr.iload_n 2))) := fun _ => rfl
theorem fo_29 : FoK 29 (some (.inl (Instr.iload_n 3))) := fun _ => rfl
theorem fo_30 : FoK 30 (some (.inl (Instr.lload_n 0))) := fun _ => rfl
theorem fo_31 : FoK 31 (some (.inl (Instr.lload_n 1))) := fun _ => rfl
theorem fo_32 : FoK 32 (some (.inl (Instr.lload_n 2))) := fun _ => rfl
theorem fo_33 : FoK 33 (some (.inl (Instr.lload_n 3))) := fun _ => rfl
theorem fo_42 : FoK 42 (some (.inl (Instr.aload_n 0))) := fun _ => rfl
theorem fo_43 : FoK 43 (some (.inl (Instr.aload_n 1))) := fun _ => rfl
theorem fo_44 : FoK 44 (some (.inl (Instr.aload_n 2))) := fun _ => rfl
theorem fo_45 : FoK 45 (some (.inl (Instr.aload_n 3))) := fun _ => rfl
theorem fo_46 : FoK 46 (some (.inl Instr.iaload)) := fun _ => rfl
theorem fo_47 : FoK 47 (some (.inl Instr.laload)) := fun _ => rfl
theorem fo_50 : FoK 50 (some (.inl Instr.aaload)) := fun _ => rfl
theorem fo_51 : FoK 51 (some (.inl Instr.baload)) := fun _ => rfl
theorem fo_54 : FoK 54 (some (.inr (.inl fun x => (Instr.istore x)))) := fun _ => rfl
theorem fo_55 : FoK 55 (some (.inr (.inl fun x => (Instr.lstore x)))) := fun _ => rfl
theorem fo_58 : FoK 58 (some (.inr (.inl fun x => (Instr.astore x)))) := fun _ => rfl
theorem fo_59 : FoK 59 (some (.inl (Instr.istore_n 0))) := fun _ => rfl
theorem fo_60 : FoK 60 (some (.inl (Instr.istore_n 1))) := fun _ => rfl
theorem fo_61 : FoK 61 (some (.inl (Instr.istore_n 2))) := fun _ => rfl
theorem fo_62 : FoK 62 (some (.inl (Instr.istore_n 3))) := fun _ => rfl
theorem fo_63 : FoK 63 (some (.inl (Instr.lstore_n 0))) := fun _ => rfl
theorem fo_64 : FoK 64 (some (.inl (Instr.lstore_n 1))) := fun _ => rfl
theorem fo_65 : FoK 65 (some (.inl (Instr.lstore_n 2))) := fun _ => rfl
theorem fo_66 : FoK 66 (some (.inl (Instr.lstore_n 3))) := fun _ => rfl
theorem fo_75 : FoK 75 (some (.inl (Instr.astore_n 0))) := fun _ => rfl
theorem fo_76 : FoK 76 (some (.inl (Instr.astore_n 1))) := fun _ => rfl
theorem fo_77 : FoK 77 (some (.inl (Instr.astore_n 2))) := fun _ => rfl
theorem fo_78 : FoK 78 (some (.inl (Instr.astore_n 3))) := fun _ => rfl
theorem fo_79 : FoK 79 (some (.inl Instr.iastore)) := fun _ => rfl
theorem fo_80 : FoK 80 (some (.inl Instr.lastore)) := fun _ => rfl
theorem fo_83 : FoK 83 (some (.inl Instr.aastore)) := fun _ => rfl
theorem fo_84 : FoK 84 (some (.inl Instr.bastore)) := fun _ => rfl
theorem fo_87 : FoK 87 (some (.inl Instr.pop)) := fun _ => rfl
theorem fo_89 : FoK 89 (some (.inl Instr.dup)) := fun _ => rfl
theorem fo_92 : FoK 92 (some (.inl Instr.dup2)) := fun _ => rfl
theorem fo_96 : FoK 96 (some (.inl Instr.iadd)) := fun _ => rfl
theorem fo_100 : FoK 100 (some (.inl Instr.isub)) := fun _ => rfl
theorem fo_104 : FoK 104 (some (.inl Instr.imul)) := fun _ => rfl
theorem fo_108 : FoK 108 (some (.inl Instr.idiv)) := fun _ => rfl
theorem fo_112 : FoK 112 (some (.inl Instr.irem)) := fun _ => rfl
theorem fo_120 : FoK 120 (some (.inl Instr.ishl)) := fun _ => rfl
theorem fo_121 : FoK 121 (some (.inl Instr.lshl)) := fun _ => rfl
theorem fo_122 : FoK 122 (some (.inl Instr.ishr)) := fun _ => rfl
theorem fo_123 : FoK 123 (some (.inl Instr.lshr)) := fun _ => rfl
theorem fo_124 : FoK 124 (some (.inl Instr.iushr)) := fun _ => rfl
theorem fo_126 : FoK 126 (some (.inl Instr.iand)) := fun _ => rfl
theorem fo_127 : FoK 127 (some (.inl Instr.land)) := fun _ => rfl
theorem fo_128 : FoK 128 (some (.inl Instr.ior)) := fun _ => rfl
theorem fo_129 : FoK 129 (some (.inl Instr.lor)) := fun _ => rfl
theorem fo_130 : FoK 130 (some (.inl Instr.ixor)) := fun _ => rfl
theorem fo_132 : FoK 132 (some (.inr (.inr (.inr (.inr (.inr fun x y => (Instr.iinc x y))))))) := fun _ => rfl
theorem fo_148 : FoK 148 (some (.inl Instr.lcmp)) := fun _ => rfl
theorem fo_153 : FoK 153 (some (.inr (.inr (.inr (.inr (.inl fun x => (Instr.ifCond Jvm.ClassFile.Cond.eq x))))))) := fun _ => rfl
theorem fo_154 : FoK 154 (some (.inr (.inr (.inr (.inr (.inl fun x => (Instr.ifCond Jvm.ClassFile.Cond.ne x))))))) := fun _ => rfl
theorem fo_155 : FoK 155 (some (.inr (.inr (.inr (.inr (.inl fun x => (Instr.ifCond Jvm.ClassFile.Cond.lt x))))))) := fun _ => rfl
theorem fo_156 : FoK 156 (some (.inr (.inr (.inr (.inr (.inl fun x => (Instr.ifCond Jvm.ClassFile.Cond.ge x))))))) := fun _ => rfl
theorem fo_157 : FoK 157 (some (.inr (.inr (.inr (.inr (.inl fun x => (Instr.ifCond Jvm.ClassFile.Cond.gt x))))))) := fun _ => rfl
theorem fo_158 : FoK 158 (some (.inr (.inr (.inr (.inr (.inl fun x => (Instr.ifCond Jvm.ClassFile.Cond.le x))))))) := fun _ => rfl
theorem fo_159 : FoK 159 (some (.inr (.inr (.inr (.inr (.inl fun x => (Instr.if_icmp Jvm.ClassFile.Cond.eq x))))))) := fun _ => rfl
theorem fo_160 : FoK 160 (some (.inr (.inr (.inr (.inr (.inl fun x => (Instr.if_icmp Jvm.ClassFile.Cond.ne x))))))) := fun _ => rfl
theorem fo_161 : FoK 161 (some (.inr (.inr (.inr (.inr (.inl fun x => (Instr.if_icmp Jvm.ClassFile.Cond.lt x))))))) := fun _ => rfl
theorem fo_162 : FoK 162 (some (.inr (.inr (.inr (.inr (.inl fun x => (Instr.if_icmp Jvm.ClassFile.Cond.ge x))))))) := fun _ => rfl
theorem fo_163 : FoK 163 (some (.inr (.inr (.inr (.inr (.inl fun x => (Instr.if_icmp Jvm.ClassFile.Cond.gt x))))))) := fun _ => rfl
theorem fo_164 : FoK 164 (some (.inr (.inr (.inr (.inr (.inl fun x => (Instr.if_icmp Jvm.ClassFile.Cond.le x))))))) := fun _ => rfl
theorem fo_167 : FoK 167 (some (.inr (.inr (.inr (.inr (.inl fun x => (Instr.goto x))))))) := fun _ => rfl
theorem fo_172 : FoK 172 (some (.inl Instr.ireturn)) := fun _ => rfl
theorem fo_173 : FoK 173 (some (.inl Instr.lreturn)) := fun _ => rfl
theorem fo_176 : FoK 176 (some (.inl Instr.areturn)) := fun _ => rfl
theorem fo_177 : FoK 177 (some (.inl Instr.return_)) := fun _ => rfl
theorem fo_180 : FoK 180 (some (.inr (.inr (.inr (.inl fun x => (Instr.getfield x)))))) := fun _ => rfl
theorem fo_181 : FoK 181 (some (.inr (.inr (.inr (.inl fun x => (Instr.putfield x)))))) := fun _ => rfl
theorem fo_182 : FoK 182 (some (.inr (.inr (.inr (.inl fun x => (Instr.invokevirtual x)))))) := fun _ => rfl
theorem fo_183 : FoK 183 (some (.inr (.inr (.inr (.inl fun x => (Instr.invokespecial x)))))) := fun _ => rfl
theorem fo_184 : FoK 184 (some (.inr (.inr (.inr (.inl fun x => (Instr.invokestatic x)))))) := fun _ => rfl
theorem fo_187 : FoK 187 (some (.inr (.inr (.inr (.inl fun x => (Instr.new x)))))) := fun _ => rfl
theorem fo_189 : FoK 189 (some (.inr (.inr (.inr (.inl fun x => (Instr.anewarray x)))))) := fun _ => rfl
theorem fo_190 : FoK 190 (some (.inl Instr.arraylength)) := fun _ => rfl
theorem fo_198 : FoK 198 (some (.inr (.inr (.inr (.inr (.inl fun x => (Instr.ifnull x))))))) := fun _ => rfl
theorem fo_199 : FoK 199 (some (.inr (.inr (.inr (.inr (.inl fun x => (Instr.ifnonnull x))))))) := fun _ => rfl
def fdo (op : Nat) : Fo := (cond (Nat.ble op 79) (cond (Nat.ble op 32) (cond (Nat.ble op 17) (cond (Nat.ble op 6) (cond (Nat.ble op 3) (cond (Nat.ble op 1) (cond (Nat.beq op 1) (some (.inl Instr.aconst_null)) none) (cond (Nat.ble op 2) (cond (Nat.beq op 2) (some (.inl (Instr.iconst (-1)))) none) (cond (Nat.beq op 3) (some (.inl (Instr.iconst 0))) none))) (cond (Nat.ble op 4) (cond (Nat.beq op 4) (some (.inl (Instr.iconst 1))) none) (cond (Nat.ble op 5) (cond (Nat.beq op 5) (some (.inl (Instr.iconst 2))) none) (cond (Nat.beq op 6) (some (.inl (Instr.iconst 3))) none)))) (cond (Nat.ble op 9) (cond (Nat.ble op 7) (cond (Nat.beq op 7) (some (.inl (Instr.iconst 4))) none) (cond (Nat.ble op 8) (cond (Nat.beq op 8) (some (.inl (Instr.iconst 5))) none) (cond (Nat.beq op 9) (some (.inl (Instr.lconst 0))) none))) (cond (Nat.ble op 10) (cond (Nat.beq op 10) (some (.inl (Instr.lconst 1))) none) (cond (Nat.ble op 16) (cond (Nat.beq op 16) (some (.inr (.inr (.inl fun x => (Instr.bipush x))))) none) (cond (Nat.beq op 17) (some (.inr (.inr (.inr (.inr (.inl fun x => (Instr.sipush x))))))) none))))) (cond (Nat.ble op 26) (cond (Nat.ble op 21) (cond (Nat.ble op 18) (cond (Nat.beq op 18) (some (.inr (.inl fun x => (Instr.ldc x)))) none) (cond (Nat.ble op 19) (cond (Nat.beq op 19) (some (.inr (.inr (.inr (.inl fun x => (Instr.ldc_w x)))))) none) (cond (Nat.beq op 21) (some (.inr (.inl fun x => (Instr.iload x)))) none))) (cond (Nat.ble op 22) (cond (Nat.beq op 22) (some (.inr (.inl fun x => (Instr.lload x)))) none) (cond (Nat.ble op 25) (cond (Nat.beq op 25) (some (.inr (.inl fun x => (Instr.aload x)))) none) (cond (Nat.beq op 26) (some (.inl (Instr.iload_n 0))) none)))) (cond (Nat.ble op 29) (cond (Nat.ble op 27) (cond (Nat.beq op 27) (some (.inl (Instr.iload_n 1))) none) (cond (Nat.ble op 28) (cond (Nat.beq op 28) (some (.inl (Instr.iload_n 2))) none) (cond (Nat.beq op 29) (some (.inl (Instr.iload_n 3))) none))) (cond (Nat.ble op 30) (cond (Nat.beq op 30) (some (.inl (Instr.lload_n 0))) none) (cond (Nat.ble op 31) (cond (Nat.beq op 31) (some (.inl (Instr.lload_n 1))) none) (cond (Nat.beq op 32) (some (.inl (Instr.lload_n 2))) none)))))) (cond (Nat.ble op 58) (cond (Nat.ble op 46) (cond (Nat.ble op 43) (cond (Nat.ble op 33) (cond (Nat.beq op 33) (some (.inl (Instr.lload_n 3))) none) (cond (Nat.ble op 42) (cond (Nat.beq op 42) (some (.inl (Instr.aload_n 0))) none) (cond (Nat.beq op 43) (some (.inl (Instr.aload_n 1))) none))) (cond (Nat.ble op 44) (cond (Nat.beq op 44) (some (.inl (Instr.aload_n 2))) none) (cond (Nat.ble op 45) (cond (Nat.beq op 45) (some (.inl (Instr.aload_n 3))) none) (cond (Nat.beq op 46) (some (.inl Instr.iaload)) none)))) (cond (Nat.ble op 51) (cond (Nat.ble op 47) (cond (Nat.beq op 47) (some (.inl Instr.laload)) none) (cond (Nat.ble op 50) (cond (Nat.beq op 50) (some (.inl Instr.aaload)) none) (cond (Nat.beq op 51) (some (.inl Instr.baload)) none))) (cond (Nat.ble op 54) (cond (Nat.beq op 54) (some (.inr (.inl fun x => (Instr.istore x)))) none) (cond (Nat.ble op 55) (cond (Nat.beq op 55) (some (.inr (.inl fun x => (Instr.lstore x)))) none) (cond (Nat.beq op 58) (some (.inr (.inl fun x => (Instr.astore x)))) none))))) (cond (Nat.ble op 64) (cond (Nat.ble op 61) (cond (Nat.ble op 59) (cond (Nat.beq op 59) (some (.inl (Instr.istore_n 0))) none) (cond (Nat.ble op 60) (cond (Nat.beq op 60) (some (.inl (Instr.istore_n 1))) none) (cond (Nat.beq op 61) (some (.inl (Instr.istore_n 2))) none))) (cond (Nat.ble op 62) (cond (Nat.beq op 62) (some (.inl (Instr.istore_n 3))) none) (cond (Nat.ble op 63) (cond (Nat.beq op 63) (some (.inl (Instr.lstore_n 0))) none) (cond (Nat.beq op 64) (some (.inl (Instr.lstore_n 1))) none)))) (cond (Nat.ble op 75) (cond (Nat.ble op 65) (cond (Nat.beq op 65) (some (.inl (Instr.lstore_n 2))) none) (cond (Nat.ble op 66) (cond (Nat.beq op 66) (some (.inl (Instr.lstore_n 3))) none) (cond (Nat.beq op 75) (some (.inl (Instr.astore_n 0))) none))) (cond (Nat.ble op 77) (cond (Nat.ble op 76) (cond (Nat.beq op 76) (some (.inl (Instr.astore_n 1))) none) (cond (Nat.beq op 77) (some (.inl (Instr.astore_n 2))) none)) (cond (Nat.ble op 78) (cond (Nat.beq op 78) (some (.inl (Instr.astore_n 3))) none) (cond (Nat.beq op 79) (some (.inl Instr.iastore)) none))))))) (cond (Nat.ble op 154) (cond (Nat.ble op 120) (cond (Nat.ble op 92) (cond (Nat.ble op 84) (cond (Nat.ble op 80) (cond (Nat.beq op 80) (some (.inl Instr.lastore)) none) (cond (Nat.ble op 83) (cond (Nat.beq op 83) (some (.inl Instr.aastore)) none) (cond (Nat.beq op 84) (some (.inl Instr.bastore)) none))) (cond (Nat.ble op 87) (cond (Nat.beq op 87) (some (.inl Instr.pop)) none) (cond (Nat.ble op 89) (cond (Nat.beq op 89) (some (.inl Instr.dup)) none) (cond (Nat.beq op 92) (some (.inl Instr.dup2)) none)))) (cond (Nat.ble op 104) (cond (Nat.ble op 96) (cond (Nat.beq op 96) (some (.inl Instr.iadd)) none) (cond (Nat.ble op 100) (cond (Nat.beq op 100) (some (.inl Instr.isub)) none) (cond (Nat.beq op 104) (some (.inl Instr.imul)) none))) (cond (Nat.ble op 108) (cond (Nat.beq op 108) (some (.inl Instr.idiv)) none) (cond (Nat.ble op 112) (cond (Nat.beq op 112) (some (.inl Instr.irem)) none) (cond (Nat.beq op 120) (some (.inl Instr.ishl)) none))))) (cond (Nat.ble op 127) (cond (Nat.ble op 123) (cond (Nat.ble op 121) (cond (Nat.beq op 121) (some (.inl Instr.lshl)) none) (cond (Nat.ble op 122) (cond (Nat.beq op 122) (some (.inl Instr.ishr)) none) (cond (Nat.beq op 123) (some (.inl Instr.lshr)) none))) (cond (Nat.ble op 124) (cond (Nat.beq op 124) (some (.inl Instr.iushr)) none) (cond (Nat.ble op 126) (cond (Nat.beq op 126) (some (.inl Instr.iand)) none) (cond (Nat.beq op 127) (some (.inl Instr.land)) none)))) (cond (Nat.ble op 130) (cond (Nat.ble op 128) (cond (Nat.beq op 128) (some (.inl Instr.ior)) none) (cond (Nat.ble op 129) (cond (Nat.beq op 129) (some (.inl Instr.lor)) none) (cond (Nat.beq op 130) (some (.inl Instr.ixor)) none))) (cond (Nat.ble op 148) (cond (Nat.ble op 132) (cond (Nat.beq op 132) (some (.inr (.inr (.inr (.inr (.inr fun x y => (Instr.iinc x y))))))) none) (cond (Nat.beq op 148) (some (.inl Instr.lcmp)) none)) (cond (Nat.ble op 153) (cond (Nat.beq op 153) (some (.inr (.inr (.inr (.inr (.inl fun x => (Instr.ifCond Jvm.ClassFile.Cond.eq x))))))) none) (cond (Nat.beq op 154) (some (.inr (.inr (.inr (.inr (.inl fun x => (Instr.ifCond Jvm.ClassFile.Cond.ne x))))))) none)))))) (cond (Nat.ble op 172) (cond (Nat.ble op 160) (cond (Nat.ble op 157) (cond (Nat.ble op 155) (cond (Nat.beq op 155) (some (.inr (.inr (.inr (.inr (.inl fun x => (Instr.ifCond Jvm.ClassFile.Cond.lt x))))))) none) (cond (Nat.ble op 156) (cond (Nat.beq op 156) (some (.inr (.inr (.inr (.inr (.inl fun x => (Instr.ifCond Jvm.ClassFile.Cond.ge x))))))) none) (cond (Nat.beq op 157) (some (.inr (.inr (.inr (.inr (.inl fun x => (Instr.ifCond Jvm.ClassFile.Cond.gt x))))))) none))) (cond (Nat.ble op 158) (cond (Nat.beq op 158) (some (.inr (.inr (.inr (.inr (.inl fun x => (Instr.ifCond Jvm.ClassFile.Cond.le x))))))) none) (cond (Nat.ble op 159) (cond (Nat.beq op 159) (some (.inr (.inr (.inr (.inr (.inl fun x => (Instr.if_icmp Jvm.ClassFile.Cond.eq x))))))) none) (cond (Nat.beq op 160) (some (.inr (.inr (.inr (.inr (.inl fun x => (Instr.if_icmp Jvm.ClassFile.Cond.ne x))))))) none)))) (cond (Nat.ble op 163) (cond (Nat.ble op 161) (cond (Nat.beq op 161) (some (.inr (.inr (.inr (.inr (.inl fun x => (Instr.if_icmp Jvm.ClassFile.Cond.lt x))))))) none) (cond (Nat.ble op 162) (cond (Nat.beq op 162) (some (.inr (.inr (.inr (.inr (.inl fun x => (Instr.if_icmp Jvm.ClassFile.Cond.ge x))))))) none) (cond (Nat.beq op 163) (some (.inr (.inr (.inr (.inr (.inl fun x => (Instr.if_icmp Jvm.ClassFile.Cond.gt x))))))) none))) (cond (Nat.ble op 164) (cond (Nat.beq op 164) (some (.inr (.inr (.inr (.inr (.inl fun x => (Instr.if_icmp Jvm.ClassFile.Cond.le x))))))) none) (cond (Nat.ble op 167) (cond (Nat.beq op 167) (some (.inr (.inr (.inr (.inr (.inl fun x => (Instr.goto x))))))) none) (cond (Nat.beq op 172) (some (.inl Instr.ireturn)) none))))) (cond (Nat.ble op 182) (cond (Nat.ble op 177) (cond (Nat.ble op 173) (cond (Nat.beq op 173) (some (.inl Instr.lreturn)) none) (cond (Nat.ble op 176) (cond (Nat.beq op 176) (some (.inl Instr.areturn)) none) (cond (Nat.beq op 177) (some (.inl Instr.return_)) none))) (cond (Nat.ble op 180) (cond (Nat.beq op 180) (some (.inr (.inr (.inr (.inl fun x => (Instr.getfield x)))))) none) (cond (Nat.ble op 181) (cond (Nat.beq op 181) (some (.inr (.inr (.inr (.inl fun x => (Instr.putfield x)))))) none) (cond (Nat.beq op 182) (some (.inr (.inr (.inr (.inl fun x => (Instr.invokevirtual x)))))) none)))) (cond (Nat.ble op 187) (cond (Nat.ble op 183) (cond (Nat.beq op 183) (some (.inr (.inr (.inr (.inl fun x => (Instr.invokespecial x)))))) none) (cond (Nat.ble op 184) (cond (Nat.beq op 184) (some (.inr (.inr (.inr (.inl fun x => (Instr.invokestatic x)))))) none) (cond (Nat.beq op 187) (some (.inr (.inr (.inr (.inl fun x => (Instr.new x)))))) none))) (cond (Nat.ble op 190) (cond (Nat.ble op 189) (cond (Nat.beq op 189) (some (.inr (.inr (.inr (.inl fun x => (Instr.anewarray x)))))) none) (cond (Nat.beq op 190) (some (.inl Instr.arraylength)) none)) (cond (Nat.ble op 198) (cond (Nat.beq op 198) (some (.inr (.inr (.inr (.inr (.inl fun x => (Instr.ifnull x))))))) none) (cond (Nat.beq op 199) (some (.inr (.inr (.inr (.inr (.inl fun x => (Instr.ifnonnull x))))))) none))))))))
theorem fdo_ok (op : Nat) : FoK op (fdo op) := (fo_c (fo_c (fo_c (fo_c (fo_c (fo_c (fo_l fo_1) (fo_c (fo_l fo_2) (fo_l fo_3))) (fo_c (fo_l fo_4) (fo_c (fo_l fo_5) (fo_l fo_6)))) (fo_c (fo_c (fo_l fo_7) (fo_c (fo_l fo_8) (fo_l fo_9))) (fo_c (fo_l fo_10) (fo_c (fo_l fo_16) (fo_l fo_17))))) (fo_c (fo_c (fo_c (fo_l fo_18) (fo_c (fo_l fo_19) (fo_l fo_21))) (fo_c (fo_l fo_22) (fo_c (fo_l fo_25) (fo_l fo_26)))) (fo_c (fo_c (fo_l fo_27) (fo_c (fo_l fo_28) (fo_l fo_29))) (fo_c (fo_l fo_30) (fo_c (fo_l fo_31) (fo_l fo_32)))))) (fo_c (fo_c (fo_c (fo_c (fo_l fo_33) (fo_c (fo_l fo_42) (fo_l fo_43))) (fo_c (fo_l fo_44) (fo_c (fo_l fo_45) (fo_l fo_46)))) (fo_c (fo_c (fo_l fo_47) (fo_c (fo_l fo_50) (fo_l fo_51))) (fo_c (fo_l fo_54) (fo_c (fo_l fo_55) (fo_l fo_58))))) (fo_c (fo_c (fo_c (fo_l fo_59) (fo_c (fo_l fo_60) (fo_l fo_61))) (fo_c (fo_l fo_62) (fo_c (fo_l fo_63) (fo_l fo_64)))) (fo_c (fo_c (fo_l fo_65) (fo_c (fo_l fo_66) (fo_l fo_75))) (fo_c (fo_c (fo_l fo_76) (fo_l fo_77)) (fo_c (fo_l fo_78) (fo_l fo_79))))))) (fo_c (fo_c (fo_c (fo_c (fo_c (fo_l fo_80) (fo_c (fo_l fo_83) (fo_l fo_84))) (fo_c (fo_l fo_87) (fo_c (fo_l fo_89) (fo_l fo_92)))) (fo_c (fo_c (fo_l fo_96) (fo_c (fo_l fo_100) (fo_l fo_104))) (fo_c (fo_l fo_108) (fo_c (fo_l fo_112) (fo_l fo_120))))) (fo_c (fo_c (fo_c (fo_l fo_121) (fo_c (fo_l fo_122) (fo_l fo_123))) (fo_c (fo_l fo_124) (fo_c (fo_l fo_126) (fo_l fo_127)))) (fo_c (fo_c (fo_l fo_128) (fo_c (fo_l fo_129) (fo_l fo_130))) (fo_c (fo_c (fo_l fo_132) (fo_l fo_148)) (fo_c (fo_l fo_153) (fo_l fo_154)))))) (fo_c (fo_c (fo_c (fo_c (fo_l fo_155) (fo_c (fo_l fo_156) (fo_l fo_157))) (fo_c (fo_l fo_158) (fo_c (fo_l fo_159) (fo_l fo_160)))) (fo_c (fo_c (fo_l fo_161) (fo_c (fo_l fo_162) (fo_l fo_163))) (fo_c (fo_l fo_164) (fo_c (fo_l fo_167) (fo_l fo_172))))) (fo_c (fo_c (fo_c (fo_l fo_173) (fo_c (fo_l fo_176) (fo_l fo_177))) (fo_c (fo_l fo_180) (fo_c (fo_l fo_181) (fo_l fo_182)))) (fo_c (fo_c (fo_l fo_183) (fo_c (fo_l fo_184) (fo_l fo_187))) (fo_c (fo_c (fo_l fo_189) (fo_l fo_190)) (fo_c (fo_l fo_198) (fo_l fo_199))))))))
theorem rd_bind {α β : Type} {m : Decoder α} {k : α → Decoder β} {cc : ByteArray} {q q' : Nat} {a : α} (h : m cc q = .ok (a, q')) : (m >>= k) cc q = k a cc q' := by
  show Except.bind (m cc q) _ = _
  rw [h]; rfl
theorem rd_map {α β : Type} {m : Decoder α} {f : α → β} {cc : ByteArray} {q q' : Nat} {a : α} (h : m cc q = .ok (a, q')) : (f <$> m) cc q = .ok (f a, q') := by
  show Except.bind (m cc q) _ = _
  rw [h]; rfl
def BL (cc : ByteArray) (p : Nat) (l : List UInt8) : Prop := cc.data.toList.drop p = l
theorem bl_u1 {cc : ByteArray} {p : Nat} {b : UInt8} {r : List UInt8} (h : BL cc p (b :: r)) : (Reader.u1 : Decoder Nat) cc p = .ok (b.toNat, p + 1) ∧ BL cc (p + 1) r := by
  unfold BL at h
  have h1 : p < cc.data.toList.length := by
    rcases Nat.lt_or_ge p cc.data.toList.length with q | q
    · exact q
    · rw [List.drop_eq_nil_of_le q] at h; cases h
  have h2 := List.drop_eq_getElem_cons h1
  rw [h] at h2
  injection h2 with h3 h4
  have h5 : p < cc.size := h1
  refine ⟨?_, h4.symm⟩
  have h6 : cc[p] = b := by rw [h3]; rfl
  rw [← h6]
  show (dite (p < cc.size) _ _ : Decoder Nat) cc p = _
  rw [dif_pos h5]; rfl
theorem bl_u2 {cc : ByteArray} {p : Nat} {b c : UInt8} {r : List UInt8} (h : BL cc p (b :: c :: r)) : (Reader.u2 : Decoder Nat) cc p = .ok (b.toNat * 256 + c.toNat, p + 2) := by
  obtain ⟨h1, h2⟩ := bl_u1 h
  obtain ⟨h3, _⟩ := bl_u1 h2
  exact (rd_bind h1).trans ((rd_bind h3).trans rfl)
theorem bl_s1 {cc : ByteArray} {p : Nat} {b : UInt8} {r : List UInt8} (h : BL cc p (b :: r)) : (Reader.s1 : Decoder Int) cc p = .ok (Reader.signed 8 b.toNat, p + 1) := rd_map (bl_u1 h).1
theorem bl_s2 {cc : ByteArray} {p : Nat} {b c : UInt8} {r : List UInt8} (h : BL cc p (b :: c :: r)) : (Reader.s2 : Decoder Int) cc p = .ok (Reader.signed 16 (b.toNat * 256 + c.toNat), p + 2) := rd_map (bl_u2 h)
theorem dec_ok {cc : ByteArray} {p op q : Nat} {i : Instr} (h1 : (Reader.u1 : Decoder Nat) cc p = .ok (op, p + 1)) (h2 : (Kx p).1 op cc (p + 1) = .ok (i, q)) : decode cc p = .ok (i, q - p) := by
  have h3 : Decoder.instr p cc p = .ok (i, q) := by
    rw [(Kx p).2]
    exact (rd_bind h1).trans h2
  show Except.bind (Decoder.instr p cc p) _ = _
  rw [h3]; rfl
def fdl (f : Fo) (r : List UInt8) : Option (Instr × Nat) := match f with
  | none => none
  | some (.inl i) => some (i, 1)
  | some (.inr (.inl c)) => match r with | b :: _ => some (c b.toNat, 2) | _ => none
  | some (.inr (.inr (.inl c))) => match r with | b :: _ => some (c (Reader.signed 8 b.toNat), 2) | _ => none
  | some (.inr (.inr (.inr (.inl c)))) => match r with | b :: d :: _ => some (c (b.toNat * 256 + d.toNat), 3) | _ => none
  | some (.inr (.inr (.inr (.inr (.inl c))))) => match r with | b :: d :: _ => some (c (Reader.signed 16 (b.toNat * 256 + d.toNat)), 3) | _ => none
  | some (.inr (.inr (.inr (.inr (.inr c))))) => match r with | b :: d :: _ => some (c b.toNat (Reader.signed 8 d.toNat), 3) | _ => none
theorem fdl_ok {cc : ByteArray} {p : Nat} {b : UInt8} {r : List UInt8} (h : BL cc p (b :: r)) {x : Instr × Nat} (e : fdl (fdo b.toNat) r = some x) : decode cc p = .ok x := by
  obtain ⟨h1, h2⟩ := bl_u1 h
  have hk := fdo_ok b.toNat
  match hf : fdo b.toNat with
  | none => rw [hf] at e; cases e
  | some (.inl i) =>
    rw [hf] at e hk; cases e
    have h3 := dec_ok (i := i) (q := p + 1) h1 (by rw [hk p]; rfl)
    rw [h3, Nat.add_sub_cancel_left]
  | some (.inr (.inl c)) =>
    rw [hf] at e hk
    match r, h2, e with
    | b1 :: r1, h2, e =>
      cases e
      have h3 := dec_ok (i := c b1.toNat) (q := p + 1 + 1) h1 (by rw [hk p]; exact (rd_bind (bl_u1 h2).1).trans rfl)
      rw [h3, Nat.add_assoc, Nat.add_sub_cancel_left]
  | some (.inr (.inr (.inl c))) =>
    rw [hf] at e hk
    match r, h2, e with
    | b1 :: r1, h2, e =>
      cases e
      have h3 := dec_ok (i := c (Reader.signed 8 b1.toNat)) (q := p + 1 + 1) h1 (by rw [hk p]; exact (rd_bind (bl_s1 h2)).trans rfl)
      rw [h3, Nat.add_assoc, Nat.add_sub_cancel_left]
  | some (.inr (.inr (.inr (.inl c)))) =>
    rw [hf] at e hk
    match r, h2, e with
    | b1 :: b2 :: r1, h2, e =>
      cases e
      have h3 := dec_ok (i := c (b1.toNat * 256 + b2.toNat)) (q := p + 1 + 2) h1 (by rw [hk p]; exact (rd_bind (bl_u2 h2)).trans rfl)
      rw [h3, Nat.add_assoc, Nat.add_sub_cancel_left]
  | some (.inr (.inr (.inr (.inr (.inl c))))) =>
    rw [hf] at e hk
    match r, h2, e with
    | b1 :: b2 :: r1, h2, e =>
      cases e
      have h3 := dec_ok (i := c (Reader.signed 16 (b1.toNat * 256 + b2.toNat))) (q := p + 1 + 2) h1 (by rw [hk p]; exact (rd_bind (bl_s2 h2)).trans rfl)
      rw [h3, Nat.add_assoc, Nat.add_sub_cancel_left]
  | some (.inr (.inr (.inr (.inr (.inr c))))) =>
    rw [hf] at e hk
    match r, h2, e with
    | b1 :: b2 :: r1, h2, e =>
      cases e
      obtain ⟨h4, h5⟩ := bl_u1 h2
      have h3 := dec_ok (i := c b1.toNat (Reader.signed 8 b2.toNat)) (q := p + 1 + 1 + 1) h1 (by rw [hk p]; exact (rd_bind h4).trans ((rd_bind (bl_s1 h5)).trans rfl))
      rw [h3, Nat.add_assoc, Nat.add_assoc, Nat.add_sub_cancel_left]
def okI (cc : ByteArray) (pc : Nat) (o : Option (Instr × Nat)) (x : Instr × Nat) : Bool := match o with
  | none => decide (decode cc pc = .ok x)
  | some y => decide (y.1 = x.1) && Nat.beq y.2 x.2
def ckb (f : Nat → Option (Instr × Nat)) (cc : ByteArray) (pc : Nat) (b : UInt8) (r : List UInt8) : Bool := match f pc with
  | none => true
  | some x => okI cc pc (fdl (fdo b.toNat) r) x && lenOk x.1 x.2
noncomputable def ckl (f : Nat → Option (Instr × Nat)) (cc : ByteArray) (n : Nat) : Nat → List UInt8 → Bool :=
  Nat.rec (fun _ _ => true) (fun _ ih pc l => List.rec false (fun b r _ => cond (ckb f cc pc b r) (ih (pc + 1) r) false) l) n
noncomputable def dropB (l : List UInt8) (n : Nat) : List UInt8 := Nat.rec (fun l => l) (fun _ ih l => List.rec [] (fun _ r _ => ih r) l) n l
theorem dropB_eq : ∀ (n : Nat) (l : List UInt8), dropB l n = l.drop n
  | 0, l => rfl
  | n + 1, [] => rfl
  | n + 1, b :: r => dropB_eq n r
noncomputable def ckq (a n : Nat) (f : Nat → Option (Instr × Nat)) (cc : ByteArray) : Bool := ckl f cc n a (dropB cc.data.toList a)
theorem ckb_ok {f : Nat → Option (Instr × Nat)} {cc : ByteArray} {pc : Nat} {b : UInt8} {r : List UInt8} (h : BL cc pc (b :: r)) (e : ckb f cc pc b r = true) : ck f cc pc = true := by
  unfold ckb at e; unfold ck
  cases hf : f pc with
  | none => rfl
  | some x =>
    rw [hf] at e
    simp only [Bool.and_eq_true] at e ⊢
    refine ⟨?_, e.2⟩
    have e1 := e.1
    cases hd : fdl (fdo b.toNat) r with
    | none => rw [hd] at e1; exact e1
    | some y =>
      rw [hd] at e1
      simp only [okI, Bool.and_eq_true, decide_eq_true_eq] at e1
      have : y = x := Prod.ext e1.1 (Nat.eq_of_beq_eq_true e1.2)
      rw [this] at hd
      exact decide_eq_true (fdl_ok h hd)
theorem ckl_ok {f : Nat → Option (Instr × Nat)} {cc : ByteArray} : ∀ (n a : Nat) (l : List UInt8), BL cc a l → ckl f cc n a l = true → ∀ pc, a ≤ pc → pc < a + n → ck f cc pc = true
  | 0, a, l, _, _, pc, h1, h2 => absurd h2 (by omega)
  | n + 1, a, [], _, e, _, _, _ => by cases (show false = true from e)
  | n + 1, a, b :: r, h, e, pc, h1, h2 => by
    have e' : cond (ckb f cc a b r) (ckl f cc n (a + 1) r) false = true := e
    cases hb : ckb f cc a b r with
    | false => rw [hb] at e'; cases e'
    | true =>
      rw [hb] at e'
      rcases Nat.lt_or_ge a pc with q | q
      · exact ckl_ok n (a + 1) r (bl_u1 h).2 e' pc q (by omega)
      · have : pc = a := by omega
        rw [this]; exact ckb_ok h hb
theorem ckq_up {a n n' : Nat} {f : Nat → Option (Instr × Nat)} {cc : ByteArray} (h0 : ∀ pc, pc < a → ck f cc pc = true) (h : ckq a n f cc = true) (e : a + n = n') : ∀ pc, pc < n' → ck f cc pc = true := by
  intro pc h1
  rcases Nat.lt_or_ge pc a with q | q
  · exact h0 pc q
  · exact ckl_ok n a _ (dropB_eq a _).symm h pc q (by omega)

