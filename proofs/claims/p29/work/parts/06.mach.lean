/-! THE ABSTRACT MACHINE: ints and longs are Int (in range), references are places 0 (the script), 1 .. 168 (the cells in the order in which they are made), the memory is a table of Int; shapes are fixed ahead. -/
abbrev AV : Type := Int ⊕ (Int ⊕ Option Nat)
abbrev aI (z : Int) : AV := Sum.inl z
abbrev aJ (z : Int) : AV := Sum.inr (Sum.inl z)
abbrev aA (k : Nat) : AV := Sum.inr (Sum.inr (some k))
abbrev aN : AV := Sum.inr (Sum.inr none)
abbrev Mm : Type := Nat → Nat → Int
/-- memory, how many cells there are, which references are laid, how long the script is -/
abbrev Sx : Type := Mm × (Nat × (List (Nat × Nat) × Nat))
abbrev Lc : Type := List (Option AV)
abbrev Fr : Type := Nat × (Lc × List AV)
abbrev Rs : Type := (Fr × Sx) ⊕ (Option AV ⊕ (Nat × (List AV × Fr)))
def tgA (i : Nat) : Nat := 20 + 26 * i
def up2 (m : Mm) (a j : Nat) (x : Int) : Mm := fun a' j' => if a' = a then (if j' = j then x else m a' j') else m a' j'
def cpm (m : Mm) (a sp b dp n : Nat) : Mm := fun a' j' => if a' = b then (if dp ≤ j' ∧ j' < dp + n then m a (sp + (j' - dp)) else m a' j') else m a' j'
def cat (v : AV) : Nat := match v with
  | .inr (.inl _) => 2
  | _ => 1
def wsum (st : List AV) : Nat := (st.map cat).sum
def isJ (x : Option (Option AV)) : Bool := match x with
  | some (some (.inr (.inl _))) => true
  | _ => false
/-- a store of a value of one word -/
def st1 (L : Lc) (i : Nat) (v : AV) : Lc := match i with
  | 0 => L.set 0 (some v)
  | i + 1 => cond (isJ L[i]?) ((L.set i none).set (i + 1) (some v)) (L.set (i + 1) (some v))
/-- of two words -/
def st2 (L : Lc) (i : Nat) (v : AV) : Lc := (st1 L i v).set (i + 1) none
def spr : List AV → Lc
  | [] => []
  | v :: r => match v with
    | .inr (.inl _) => some v :: none :: spr r
    | _ => some v :: spr r
def entL (k : Nat) (av : List AV) : Lc := spr av ++ List.replicate (mxl k - (spr av).length) none
def nx (pc : Nat) (L : Lc) (st : List AV) (s : Sx) : Option Rs := some (.inl ((pc, (L, st)), s))
def ckI (z : Int) (o : Option Rs) : Option Rs := if -2147483648 ≤ z ∧ z ≤ 2147483647 then o else none
def ckP (b : Bool) (o : Option Rs) : Option Rs := cond b o none
def q1I (st : List AV) (f : Int → List AV → Option Rs) : Option Rs := match st with
  | .inl x :: r => f x r
  | _ => none
def q2I (st : List AV) (f : Int → Int → List AV → Option Rs) : Option Rs := match st with
  | .inl y :: .inl x :: r => f x y r
  | _ => none
def q2J (st : List AV) (f : Int → Int → List AV → Option Rs) : Option Rs := match st with
  | .inr (.inl y) :: .inr (.inl x) :: r => f x y r
  | _ => none
def qIJ (st : List AV) (f : Int → Int → List AV → Option Rs) : Option Rs := match st with
  | .inl y :: .inr (.inl x) :: r => f x y r
  | _ => none
def q1A (st : List AV) (f : Nat → List AV → Option Rs) : Option Rs := match st with
  | .inr (.inr (some a)) :: r => f a r
  | _ => none
def q1R (st : List AV) (f : Option Nat → List AV → Option Rs) : Option Rs := match st with
  | .inr (.inr a) :: r => f a r
  | _ => none
def qIA (st : List AV) (f : Int → Nat → List AV → Option Rs) : Option Rs := match st with
  | .inl i :: .inr (.inr (some a)) :: r => f i a r
  | _ => none
def qAA (st : List AV) (f : Nat → Nat → List AV → Option Rs) : Option Rs := match st with
  | .inr (.inr (some v)) :: .inr (.inr (some a)) :: r => f v a r
  | _ => none
def qIIA (st : List AV) (f : Int → Int → Nat → List AV → Option Rs) : Option Rs := match st with
  | .inl x :: .inl i :: .inr (.inr (some a)) :: r => f x i a r
  | _ => none
def qJIA (st : List AV) (f : Int → Int → Nat → List AV → Option Rs) : Option Rs := match st with
  | .inr (.inl x) :: .inl i :: .inr (.inr (some a)) :: r => f x i a r
  | _ => none
def qAIA (st : List AV) (f : Nat → Int → Nat → List AV → Option Rs) : Option Rs := match st with
  | .inr (.inr (some v)) :: .inl i :: .inr (.inr (some a)) :: r => f v i a r
  | _ => none
def qcp (st : List AV) (f : Nat → Int → Nat → Int → Int → List AV → Option Rs) : Option Rs := match st with
  | .inl n :: .inl dp :: .inr (.inr (some b)) :: .inl sp :: .inr (.inr (some a)) :: r => f a sp b dp n r
  | _ => none
def jp (pc : Nat) (off : Int) (L : Lc) (st : List AV) (s : Sx) : Option Rs := if 0 ≤ (pc : Int) + off then nx ((pc : Int) + off).toNat L st s else none
def cmpb (c : Jvm.ClassFile.Cond) (x y : Int) : Bool := match c with
  | .eq => decide (x = y)
  | .ne => !decide (x = y)
  | .lt => decide (x < y)
  | .ge => decide (y ≤ x)
  | .gt => decide (y < x)
  | .le => decide (x ≤ y)
def b32 (f : Int32 → Int32 → Int32) (x y : Int) : Int := (f (Int32.ofInt x) (Int32.ofInt y)).toInt
def b64 (f : Int64 → Int64 → Int64) (x y : Int) : Int := (f (Int64.ofInt x) (Int64.ofInt y)).toInt
def s64 (f : Int64 → Int64 → Int64) (x y : Int) : Int := (f (Int64.ofInt x) ((Int32.ofInt y).toInt64 &&& 63)).toInt
def ldv (t : Nat) (L : Lc) (i : Nat) (f : AV → Option Rs) : Option Rs := match L[i]? with
  | some (some v) => match v with
    | .inl _ => cond (Nat.beq t 0) (f v) none
    | .inr (.inl _) => cond (Nat.beq t 1) (f v) none
    | .inr (.inr _) => cond (Nat.beq t 2) (f v) none
  | _ => none
def onA (a : Nat) (s : Sx) (t n : Nat) : Bool := decide (kd a = (t, n)) && Nat.ble 1 a && Nat.ble a s.2.1
def hasM (s : Sx) (a j : Nat) : Bool := s.2.2.1.any fun q => Nat.beq q.1 a && Nat.beq q.2 j
def sM (s : Sx) (m : Mm) : Sx := (m, s.2)
def sN (s : Sx) : Sx := (s.1, (s.2.1 + 1, s.2.2))
def sK (s : Sx) (a j : Nat) : Sx := (s.1, (s.2.1, ((a, j) :: s.2.2.1, s.2.2.2)))
def inb (i : Int) (n : Nat) : Bool := decide (0 ≤ i) && decide (i < n)
def mcall (k pc : Nat) (L : Lc) (st : List AV) (s : Sx) (h k' : Nat) : Option Rs :=
  ckP (Nat.beq (how k') h && (Nat.ble (frr k' + 1) (frr k) && Nat.ble (19 + mxl k' + lor k') (lor k))) <|
    cond (Nat.beq h 1)
      (ckP (Nat.ble (npr k') st.length && Nat.ble (wsum (st.drop (npr k'))) 8 && Nat.ble (spr (st.take (npr k')).reverse).length (mxl k')) (some (.inr (.inr (k', ((st.take (npr k')).reverse, (pc + 3, (L, st.drop (npr k')))))))))
      (match st.drop (npr k') with
        | .inr (.inr (some a)) :: rest => ckP (Nat.ble (npr k') st.length && onA a s 0 (own k') && Nat.ble (wsum rest) 8 && Nat.ble (spr (aA a :: (st.take (npr k')).reverse)).length (mxl k')) (some (.inr (.inr (k', (aA a :: (st.take (npr k')).reverse, (pc + 3, (L, rest)))))))
        | _ => none)
def stp (k pc : Nat) (L : Lc) (st : List AV) (s : Sx) (i : Instr) (n : Nat) : Option Rs := match i with
  | .iconst z => ckI z (nx (pc + n) L (aI z :: st) s)
  | .bipush z => ckP (decide (-128 ≤ z) && decide (z < 128)) (nx (pc + n) L (aI z :: st) s)
  | .sipush z => ckP (decide (-32768 ≤ z) && decide (z < 32768)) (nx (pc + n) L (aI z :: st) s)
  | .lconst z => nx (pc + n) L (aJ (z : Nat) :: st) s
  | .ldc i => match csi k i with
    | some z => nx (pc + n) L (aI z :: st) s
    | none => none
  | .ldc_w i => match csi k i with
    | some z => nx (pc + n) L (aI z :: st) s
    | none => none
  | .aconst_null => nx (pc + n) L (aN :: st) s
  | .iload i => ldv 0 L i fun v => nx (pc + n) L (v :: st) s
  | .iload_n i => ldv 0 L (i : Nat) fun v => nx (pc + n) L (v :: st) s
  | .lload i => ldv 1 L i fun v => nx (pc + n) L (v :: st) s
  | .lload_n i => ldv 1 L (i : Nat) fun v => nx (pc + n) L (v :: st) s
  | .aload i => ldv 2 L i fun v => nx (pc + n) L (v :: st) s
  | .aload_n i => ldv 2 L (i : Nat) fun v => nx (pc + n) L (v :: st) s
  | .istore i => ckP (Nat.blt i (mxl k)) (q1I st fun x r => nx (pc + n) (st1 L i (aI x)) r s)
  | .istore_n i => ckP (Nat.blt (i : Nat) (mxl k)) (q1I st fun x r => nx (pc + n) (st1 L (i : Nat) (aI x)) r s)
  | .lstore i => ckP (Nat.blt (i + 1) (mxl k)) (match st with
    | .inr (.inl x) :: r => nx (pc + n) (st2 L i (aJ x)) r s
    | _ => none)
  | .lstore_n i => ckP (Nat.blt ((i : Nat) + 1) (mxl k)) (match st with
    | .inr (.inl x) :: r => nx (pc + n) (st2 L (i : Nat) (aJ x)) r s
    | _ => none)
  | .astore i => ckP (Nat.blt i (mxl k)) (q1R st fun a r => nx (pc + n) (st1 L i (.inr (.inr a))) r s)
  | .astore_n i => ckP (Nat.blt (i : Nat) (mxl k)) (q1R st fun a r => nx (pc + n) (st1 L (i : Nat) (.inr (.inr a))) r s)
  | .iinc i d => ckP (Nat.blt i (mxl k)) (match L[i]? with
    | some (some (.inl x)) => ckI (x + d) (nx (pc + n) (st1 L i (aI (x + d))) st s)
    | _ => none)
  | .iadd => q2I st fun x y r => ckI (x + y) (nx (pc + n) L (aI (x + y) :: r) s)
  | .isub => q2I st fun x y r => ckI (x - y) (nx (pc + n) L (aI (x - y) :: r) s)
  | .imul => q2I st fun x y r => ckI (x * y) (nx (pc + n) L (aI (x * y) :: r) s)
  | .idiv => q2I st fun x y r => ckP (!decide (y = 0)) (ckI (x.tdiv y) (nx (pc + n) L (aI (x.tdiv y) :: r) s))
  | .irem => q2I st fun x y r => ckP (!decide (y = 0)) (ckI (x.tdiv y) (ckI (x - x.tdiv y * y) (nx (pc + n) L (aI (x - x.tdiv y * y) :: r) s)))
  | .iand => q2I st fun x y r => nx (pc + n) L (aI (b32 (fun a b => a &&& b) x y) :: r) s
  | .ior => q2I st fun x y r => nx (pc + n) L (aI (b32 (fun a b => a ||| b) x y) :: r) s
  | .ixor => q2I st fun x y r => nx (pc + n) L (aI (b32 (fun a b => a ^^^ b) x y) :: r) s
  | .ishl => q2I st fun x y r => nx (pc + n) L (aI (b32 (fun a b => a <<< (b &&& 31)) x y) :: r) s
  | .ishr => q2I st fun x y r => nx (pc + n) L (aI (b32 (fun a b => a >>> (b &&& 31)) x y) :: r) s
  | .iushr => q2I st fun x y r => nx (pc + n) L (aI (b32 (fun a b => (a.toUInt32 >>> (b.toUInt32 &&& Int32.toUInt32 31)).toInt32) x y) :: r) s
  | .land => q2J st fun x y r => nx (pc + n) L (aJ (b64 (fun a b => a &&& b) x y) :: r) s
  | .lor => q2J st fun x y r => nx (pc + n) L (aJ (b64 (fun a b => a ||| b) x y) :: r) s
  | .lshl => qIJ st fun x y r => nx (pc + n) L (aJ (s64 (fun a b => a <<< b) x y) :: r) s
  | .lshr => qIJ st fun x y r => nx (pc + n) L (aJ (s64 (fun a b => a >>> b) x y) :: r) s
  | .lcmp => q2J st fun x y r => nx (pc + n) L (aI (if y < x then 1 else if x = y then 0 else -1) :: r) s
  | .dup => match st with
    | v :: r => ckP (Nat.beq (cat v) 1) (nx (pc + n) L (v :: v :: r) s)
    | _ => none
  | .dup2 => match st with
    | v :: w :: r => ckP (Nat.beq (cat v) 1 && Nat.beq (cat w) 1) (nx (pc + n) L (v :: w :: v :: w :: r) s)
    | _ => none
  | .pop => match st with
    | v :: r => ckP (Nat.beq (cat v) 1) (nx (pc + n) L r s)
    | _ => none
  | .goto d => jp pc d L st s
  | .ifCond c d => q1I st fun x r => ckP (decide (0 ≤ (pc : Int) + d)) (cond (cmpb c x 0) (nx ((pc : Int) + d).toNat L r s) (nx (pc + n) L r s))
  | .if_icmp c d => q2I st fun x y r => ckP (decide (0 ≤ (pc : Int) + d)) (cond (cmpb c x y) (nx ((pc : Int) + d).toNat L r s) (nx (pc + n) L r s))
  | .ifnull d => q1R st fun a r => match a with
    | none => jp pc d L r s
    | some _ => nx (pc + n) L r s
  | .ifnonnull d => q1R st fun a r => match a with
    | none => nx (pc + n) L r s
    | some _ => jp pc d L r s
  | .tableswitch d lo hi os => q1I st fun x r => cond (decide (x < lo) || decide (hi < x)) (jp pc d L r s) (match os[(x - lo).toNat]? with
    | some o => jp pc o L r s
    | none => none)
  | .lookupswitch d ps => q1I st fun x r => ckP ((ps.toList.zip (ps.toList.drop 1)).all fun q => decide (q.1.1 < q.2.1)) (jp pc (Op.lookupswitch.offset ps.toList d x) L r s)
  | .getfield i => match fl k i with
    | none => none
    | some (ci, j) => q1A st fun a r => ckP (onA a s 0 ci) (cond (Nat.beq (ft ci j) 2) (ckP (hasM s a j) (nx (pc + n) L (aA (a + ofs ci j) :: r) s)) (nx (pc + n) L (aI (s.1 a j) :: r) s))
  | .putfield i => match fl k i with
    | none => none
    | some (ci, j) => cond (Nat.beq (ft ci j) 2)
      (qAA st fun v a r => ckP (onA a s 0 ci && Nat.beq v (a + ofs ci j) && Nat.beq (own k) ci && Nat.beq (how k) 2 && Nat.ble v s.2.1) (nx (pc + n) L r (sK s a j)))
      (qIA st fun x a r => ckP (onA a s 0 ci && (Nat.beq (ft ci j) 0 || (decide (x = 0) || decide (x = 1)))) (nx (pc + n) L r (sM s (up2 s.1 a j x))))
  | .iaload => qIA st fun i a r => match a with
    | 0 => ckP (Nat.beq k 0 && inb i s.2.2.2) (nx (pc + n) L (aI (s.1 0 i.toNat) :: r) s)
    | a + 1 => ckP (onA (a + 1) s 1 (kd (a + 1)).2 && inb i (kd (a + 1)).2) (nx (pc + n) L (aI (s.1 (a + 1) i.toNat) :: r) s)
  | .iastore => qIIA st fun x i a r => ckP (onA a s 1 (kd a).2 && inb i (kd a).2) (nx (pc + n) L r (sM s (up2 s.1 a i.toNat x)))
  | .baload => qIA st fun i a r => ckP (onA a s 2 (kd a).2 && inb i (kd a).2) (nx (pc + n) L (aI (s.1 a i.toNat) :: r) s)
  | .bastore => qIIA st fun x i a r => ckP (onA a s 2 (kd a).2 && inb i (kd a).2 && (decide (x = 0) || decide (x = 1))) (nx (pc + n) L r (sM s (up2 s.1 a i.toNat x)))
  | .laload => qIA st fun i a r => ckP (onA a s 3 (kd a).2 && inb i (kd a).2) (nx (pc + n) L (aJ (s.1 a i.toNat) :: r) s)
  | .lastore => qJIA st fun x i a r => ckP (onA a s 3 (kd a).2 && inb i (kd a).2) (nx (pc + n) L r (sM s (up2 s.1 a i.toNat x)))
  | .aaload => qIA st fun i a r => ckP (onA a s 4 (kd a).2 && inb i (kd a).2 && hasM s a i.toNat) (nx (pc + n) L (aA (tgA i.toNat) :: r) s)
  | .aastore => qAIA st fun v i a r => ckP (onA a s 4 (kd a).2 && inb i (kd a).2 && Nat.beq v (tgA i.toNat) && onA v s 0 4) (nx (pc + n) L r (sK s a i.toNat))
  | .arraylength => q1A st fun a r => match a with
    | 0 => ckP (Nat.beq k 0) (nx (pc + n) L (aI s.2.2.2 :: r) s)
    | a + 1 => ckP (onA (a + 1) s 1 (kd (a + 1)).2) (nx (pc + n) L (aI (kd (a + 1)).2 :: r) s)
  | .new i => match cli k i with
    | none => none
    | some ci => ckP (decide (kd (s.2.1 + 1) = (0, ci))) (nx (pc + n) L (aA (s.2.1 + 1) :: st) (sN s))
  | .newarray t => q1I st fun z r => ckP (decide (0 ≤ z) && decide (z ≤ 100000) && decide (kd (s.2.1 + 1) = ((match t with
    | .int => 1
    | .boolean => 2
    | .long => 3
    | _ => 9), z.toNat))) (nx (pc + n) L (aA (s.2.1 + 1) :: r) (sN s))
  | .anewarray i => q1I st fun z r => ckP (decide (cli k i = some 4) && decide (0 ≤ z) && decide (z ≤ 100000) && decide (kd (s.2.1 + 1) = (4, z.toNat))) (nx (pc + n) L (aA (s.2.1 + 1) :: r) (sN s))
  | .invokevirtual i => match mli k i with
    | none => none
    | some (k', _) => mcall k pc L st s 0 k'
  | .invokespecial i => match mli k i with
    | none => none
    | some (k', _) => cond (Nat.beq k' 1000) (q1A st fun _ r => ckP (Nat.ble 1 (frr k) && Nat.ble (wsum r + 12) (lor k)) (nx (pc + n) L r s)) (mcall k pc L st s 2 k')
  | .invokestatic i => match mli k i with
    | none => none
    | some (k', _) => cond (Nat.beq k' 1001)
      (qcp st fun a sp b dp z r => ckP (onA a s 1 (kd a).2 && onA b s 1 (kd b).2 && (decide (0 ≤ sp) && decide (0 ≤ dp) && decide (0 ≤ z)) && decide (sp + z ≤ (kd a).2) && decide (dp + z ≤ (kd b).2) && Nat.ble 1 (frr k) && Nat.ble (wsum r + 18) (lor k))
        (nx (pc + n) L r (sM s (cpm s.1 a sp.toNat b dp.toNat z.toNat))))
      (cond (Nat.beq k' 1002) (q2I st fun x y r => ckP (Nat.ble 1 (frr k) && Nat.ble (wsum r + 13) (lor k)) (nx (pc + n) L (aI (if x < y then y else x) :: r) s)) (mcall k pc L st s 1 k'))
  | .ireturn => match st with
    | [.inl z] => ckP (Nat.beq (rtc k) 1 || (Nat.beq (rtc k) 2 && (decide (z = 0) || decide (z = 1)))) (some (.inr (.inl (some (aI z)))))
    | _ => none
  | .lreturn => match st with
    | [.inr (.inl z)] => ckP (Nat.beq (rtc k) 3) (some (.inr (.inl (some (aJ z)))))
    | _ => none
  | .areturn => match st with
    | [.inr (.inr a)] => ckP (Nat.beq (rtc k) 4) (some (.inr (.inl (some (.inr (.inr a))))))
    | _ => none
  | .return_ => match st with
    | [] => ckP (Nat.beq (rtc k) 0) (some (.inr (.inl none)))
    | _ => none
  | _ => none
def rn : Nat → Nat → Fr → Sx → Option (Option AV × Sx)
  | 0, _, _, _ => none
  | n + 1, k, f, s => match ins k f.1 with
    | none => none
    | some (i, len) => match stp k f.1 f.2.1 f.2.2 s i len with
      | none => none
      | some (.inl (f', s')) => cond (Nat.ble s.2.1 s'.2.1) (rn n k f' s') none
      | some (.inr (.inl v)) => some (v, s)
      | some (.inr (.inr (k', (av, f')))) => match rn n k' (0, (entL k' av, [])) s with
        | none => none
        | some (v, s') => rn n k (f'.1, (f'.2.1, v.toList ++ f'.2.2)) s'
/-- the state at the law's entry -/
def sx0 (m : Mm) (len : Nat) : Sx := (m, (0, ([], len)))
def m0 (xs : Nat → Int) : Mm := fun a j => match a with
  | 0 => xs j
  | _ + 1 => 0
