/-! one instruction after the other: from the machine's next frame to this one -/
def Cx (g : Gx) (p : Program) (R : Room) (u : State) (m : MethodId) (args : Array Value) (meth : Method) (c : Code) (k : Nat) : Prop :=
  p.tables.exec = Jvm.exec ∧ c.code = codeK k ∧ c.maxLocals = mxl k ∧ u.vm.findClass (cnm (own k)) = some m.cls ∧ (∀ w ∈ gw, w.before args u = true) ∧ (∀ w ∈ nwl, va_Nw w u) ∧ va_AO RX4 u ∧ va_K (gD g) clT (tysG g) u ∧ frr k ≤ R.frames ∧ lor k ≤ R.locals ∧ (how k = 2 → meth.name = "<init>") ∧ gB g ≤ u.heap.size
def Sc (g : Gx) (k : Nat) (s : Sx) (u : State) : Prop := k = 0 → (va_X (gS g) s.2.2.2 (fun j => Int32.ofInt (s.1 0 j)) u u.heap ∧ gS g < u.heap.size ∧ ¬ gB g ≤ gS g)
def Kk (g : Gx) (p : Program) (l : Launch) (e : Env) (R : Room) (u : State) (m : MethodId) (args : Array Value) (below : List Frame) (meth : Method) (c : Code) (Q : State → Prop) (k cells slots pc : Nat) (L : Lc) (st : List AV) (s : Sx) : Prop :=
  ∀ (H : Heap) (locs : List Loc) (ls : Array Slot), Wd g s H → va_S (bse g) u.heap H locs → lvR g ls (mxl k) L → okL L → okT st → Sc g k s u → u.heap.size + cells = gB g + s.2.1 → W p l e R u m args below meth c H locs cells slots Q (F0 m pc ls (st.map (cv g)))
section ONE
variable {g : Gx} {p : Program} {l : Launch} {e : Env} {R : Room} {u : State} {m : MethodId} {args : Array Value} {below : List Frame} {meth : Method} {c : Code} {Q : State → Prop} {k cells slots pc : Nat} {L : Lc} {st r : List AV} {s : Sx}
theorem o_iconst (C : Cx g p R u m args meth c k) {z : Int} (hd : decode (codeK k) pc = .ok (.iconst z, 1)) (hzz : in32 z) (kk : Kk g p l e R u m args below meth c Q k cells slots (pc + 1) L (aI z :: st) s) : Kk g p l e R u m args below meth c Q k cells slots pc L st s := by
  intro H locs ls hW hS hl hL hT hSc hz
  exact lv_iconst C.1 C.2.1 hd rfl (kk H locs ls hW hS hl hL (okT_c.mpr ⟨hzz, hT⟩) hSc hz)
theorem o_bipush (C : Cx g p R u m args meth c k) {z : Int} (hd : decode (codeK k) pc = .ok (.bipush z, 2)) (h0 : -128 ≤ z) (h1 : z < 128) (kk : Kk g p l e R u m args below meth c Q k cells slots (pc + 2) L (aI z :: st) s) : Kk g p l e R u m args below meth c Q k cells slots pc L st s := by
  intro H locs ls hW hS hl hL hT hSc hz
  refine lv_bipush C.1 C.2.1 hd ?_ (kk H locs ls hW hS hl hL (okT_c.mpr ⟨⟨by omega, by omega⟩, hT⟩) hSc hz)
  rw [← Int32.toInt_inj, Int8.toInt_toInt32, Int8.toInt_ofInt_of_le (by omega) (by omega), i32 ⟨by omega, by omega⟩]
theorem o_sipush (C : Cx g p R u m args meth c k) {z : Int} (hd : decode (codeK k) pc = .ok (.sipush z, 3)) (h0 : -32768 ≤ z) (h1 : z < 32768) (kk : Kk g p l e R u m args below meth c Q k cells slots (pc + 3) L (aI z :: st) s) : Kk g p l e R u m args below meth c Q k cells slots pc L st s := by
  intro H locs ls hW hS hl hL hT hSc hz
  refine lv_sipush C.1 C.2.1 hd ?_ (kk H locs ls hW hS hl hL (okT_c.mpr ⟨⟨by omega, by omega⟩, hT⟩) hSc hz)
  rw [← Int32.toInt_inj, Int16.toInt_toInt32, Int16.toInt_ofInt_of_le (by omega) (by omega), i32 ⟨by omega, by omega⟩]
theorem o_lconst (C : Cx g p R u m args meth c k) {z : Fin 2} (hd : decode (codeK k) pc = .ok (.lconst z, 1)) (kk : Kk g p l e R u m args below meth c Q k cells slots (pc + 1) L (aJ (z : Nat) :: st) s) : Kk g p l e R u m args below meth c Q k cells slots pc L st s := by
  intro H locs ls hW hS hl hL hT hSc hz
  exact lv_lconst C.1 C.2.1 hd rfl (kk H locs ls hW hS hl hL (okT_c.mpr ⟨⟨by have := z.isLt; omega, by have := z.isLt; omega⟩, hT⟩) hSc hz)
theorem o_ldc (C : Cx g p R u m args meth c k) {i : Nat} {z : Int} (hd : decode (codeK k) pc = .ok (.ldc i, 2)) (hc : csi k i = some z) (kk : Kk g p l e R u m args below meth c Q k cells slots (pc + 2) L (aI z :: st) s) : Kk g p l e R u m args below meth c Q k cells slots pc L st s := by
  intro H locs ls hW hS hl hL hT hSc hz
  obtain ⟨h1, h2, h3⟩ := cs_ok hc
  exact lv_ldc C.1 C.2.1 C.2.2.2.1 (C.2.2.2.2.1 _ h1) hd (kk H locs ls hW hS hl hL (okT_c.mpr ⟨⟨h2, h3⟩, hT⟩) hSc hz)
theorem o_ldcw (C : Cx g p R u m args meth c k) {i : Nat} {z : Int} (hd : decode (codeK k) pc = .ok (.ldc_w i, 3)) (hc : csi k i = some z) (kk : Kk g p l e R u m args below meth c Q k cells slots (pc + 3) L (aI z :: st) s) : Kk g p l e R u m args below meth c Q k cells slots pc L st s := by
  intro H locs ls hW hS hl hL hT hSc hz
  obtain ⟨h1, h2, h3⟩ := cs_ok hc
  exact lv_ldcw C.1 C.2.1 C.2.2.2.1 (C.2.2.2.2.1 _ h1) hd (kk H locs ls hW hS hl hL (okT_c.mpr ⟨⟨h2, h3⟩, hT⟩) hSc hz)
theorem o_null (C : Cx g p R u m args meth c k) (hd : decode (codeK k) pc = .ok (.aconst_null, 1)) (kk : Kk g p l e R u m args below meth c Q k cells slots (pc + 1) L (aN :: st) s) : Kk g p l e R u m args below meth c Q k cells slots pc L st s := by
  intro H locs ls hW hS hl hL hT hSc hz
  exact lv_null C.1 C.2.1 hd (kk H locs ls hW hS hl hL (okT_c.mpr ⟨trivial, hT⟩) hSc hz)
theorem o_iload (C : Cx g p R u m args meth c k) {i : Nat} {z : Int} (hd : decode (codeK k) pc = .ok (.iload i, 2)) (hv : L[i]? = some (some (aI z))) (kk : Kk g p l e R u m args below meth c Q k cells slots (pc + 2) L (aI z :: st) s) : Kk g p l e R u m args below meth c Q k cells slots pc L st s := by
  intro H locs ls hW hS hl hL hT hSc hz
  exact lv_iload C.1 C.2.1 hd (hl.2.2 i _ hv) (kk H locs ls hW hS hl hL (okT_c.mpr ⟨hL i _ hv, hT⟩) hSc hz)
theorem o_iload_n (C : Cx g p R u m args meth c k) {i : Fin 4} {z : Int} (hd : decode (codeK k) pc = .ok (.iload_n i, 1)) (hv : L[(i : Nat)]? = some (some (aI z))) (kk : Kk g p l e R u m args below meth c Q k cells slots (pc + 1) L (aI z :: st) s) : Kk g p l e R u m args below meth c Q k cells slots pc L st s := by
  intro H locs ls hW hS hl hL hT hSc hz
  exact lv_iload_n C.1 C.2.1 hd rfl (hl.2.2 i _ hv) (kk H locs ls hW hS hl hL (okT_c.mpr ⟨hL i _ hv, hT⟩) hSc hz)
theorem o_lload (C : Cx g p R u m args meth c k) {i : Nat} {z : Int} (hd : decode (codeK k) pc = .ok (.lload i, 2)) (hv : L[i]? = some (some (aJ z))) (kk : Kk g p l e R u m args below meth c Q k cells slots (pc + 2) L (aJ z :: st) s) : Kk g p l e R u m args below meth c Q k cells slots pc L st s := by
  intro H locs ls hW hS hl hL hT hSc hz
  exact lv_lload C.1 C.2.1 hd (hl.2.2 i _ hv) (kk H locs ls hW hS hl hL (okT_c.mpr ⟨hL i _ hv, hT⟩) hSc hz)
theorem o_lload_n (C : Cx g p R u m args meth c k) {i : Fin 4} {z : Int} (hd : decode (codeK k) pc = .ok (.lload_n i, 1)) (hv : L[(i : Nat)]? = some (some (aJ z))) (kk : Kk g p l e R u m args below meth c Q k cells slots (pc + 1) L (aJ z :: st) s) : Kk g p l e R u m args below meth c Q k cells slots pc L st s := by
  intro H locs ls hW hS hl hL hT hSc hz
  exact lv_lload_n C.1 C.2.1 hd rfl (hl.2.2 i _ hv) (kk H locs ls hW hS hl hL (okT_c.mpr ⟨hL i _ hv, hT⟩) hSc hz)
theorem o_aload (C : Cx g p R u m args meth c k) {i : Nat} {a : Option Nat} (hd : decode (codeK k) pc = .ok (.aload i, 2)) (hv : L[i]? = some (some (.inr (.inr a)))) (kk : Kk g p l e R u m args below meth c Q k cells slots (pc + 2) L (.inr (.inr a) :: st) s) : Kk g p l e R u m args below meth c Q k cells slots pc L st s := by
  intro H locs ls hW hS hl hL hT hSc hz
  cases a with
  | none => exact lv_aloadN C.1 C.2.1 hd (hl.2.2 i _ hv) (kk H locs ls hW hS hl hL (okT_c.mpr ⟨hL i _ hv, hT⟩) hSc hz)
  | some a => exact lv_aload C.1 C.2.1 hd (hl.2.2 i _ hv) (kk H locs ls hW hS hl hL (okT_c.mpr ⟨hL i _ hv, hT⟩) hSc hz)
theorem o_aload_n (C : Cx g p R u m args meth c k) {i : Fin 4} {a : Option Nat} (hd : decode (codeK k) pc = .ok (.aload_n i, 1)) (hv : L[(i : Nat)]? = some (some (.inr (.inr a)))) (kk : Kk g p l e R u m args below meth c Q k cells slots (pc + 1) L (.inr (.inr a) :: st) s) : Kk g p l e R u m args below meth c Q k cells slots pc L st s := by
  intro H locs ls hW hS hl hL hT hSc hz
  cases a with
  | none => exact lv_aload_nN C.1 C.2.1 hd rfl (hl.2.2 i _ hv) (kk H locs ls hW hS hl hL (okT_c.mpr ⟨hL i _ hv, hT⟩) hSc hz)
  | some a => exact lv_aload_n C.1 C.2.1 hd rfl (hl.2.2 i _ hv) (kk H locs ls hW hS hl hL (okT_c.mpr ⟨hL i _ hv, hT⟩) hSc hz)
theorem o_istore (C : Cx g p R u m args meth c k) {i : Nat} {x : Int} (hd : decode (codeK k) pc = .ok (.istore i, 2)) (hi : i < mxl k) (kk : Kk g p l e R u m args below meth c Q k cells slots (pc + 2) (st1 L i (aI x)) r s) : Kk g p l e R u m args below meth c Q k cells slots pc L (aI x :: r) s := by
  intro H locs ls hW hS hl hL hT hSc hz
  obtain ⟨h1, h2⟩ := mem_lva hl
  exact lv_istore C.1 C.2.1 hd h1 hi rfl fun ls' h' => kk H locs ls' hW hS (lvR_st1 (v := aI x) h2 h') (okL_st1 hL (okT_c.mp hT).1) (okT_c.mp hT).2 hSc hz
theorem o_istore_n (C : Cx g p R u m args meth c k) {i : Fin 4} {x : Int} (hd : decode (codeK k) pc = .ok (.istore_n i, 1)) (hi : (i : Nat) < mxl k) (kk : Kk g p l e R u m args below meth c Q k cells slots (pc + 1) (st1 L (i : Nat) (aI x)) r s) : Kk g p l e R u m args below meth c Q k cells slots pc L (aI x :: r) s := by
  intro H locs ls hW hS hl hL hT hSc hz
  obtain ⟨h1, h2⟩ := mem_lva hl
  exact lv_istore_n C.1 C.2.1 hd rfl h1 hi rfl fun ls' h' => kk H locs ls' hW hS (lvR_st1 (v := aI x) h2 h') (okL_st1 hL (okT_c.mp hT).1) (okT_c.mp hT).2 hSc hz
theorem o_lstore (C : Cx g p R u m args meth c k) {i : Nat} {x : Int} (hd : decode (codeK k) pc = .ok (.lstore i, 2)) (hi : i + 1 < mxl k) (kk : Kk g p l e R u m args below meth c Q k cells slots (pc + 2) (st2 L i (aJ x)) r s) : Kk g p l e R u m args below meth c Q k cells slots pc L (aJ x :: r) s := by
  intro H locs ls hW hS hl hL hT hSc hz
  obtain ⟨h1, h2⟩ := mem_lva hl
  exact lv_lstore C.1 C.2.1 hd h1 hi rfl fun ls' h' => kk H locs ls' hW hS (lvR_st2 (v := aJ x) h2 h') (okL_st2 hL (okT_c.mp hT).1) (okT_c.mp hT).2 hSc hz
theorem o_lstore_n (C : Cx g p R u m args meth c k) {i : Fin 4} {x : Int} (hd : decode (codeK k) pc = .ok (.lstore_n i, 1)) (hi : (i : Nat) + 1 < mxl k) (kk : Kk g p l e R u m args below meth c Q k cells slots (pc + 1) (st2 L (i : Nat) (aJ x)) r s) : Kk g p l e R u m args below meth c Q k cells slots pc L (aJ x :: r) s := by
  intro H locs ls hW hS hl hL hT hSc hz
  obtain ⟨h1, h2⟩ := mem_lva hl
  exact lv_lstore_n C.1 C.2.1 hd rfl h1 hi rfl fun ls' h' => kk H locs ls' hW hS (lvR_st2 (v := aJ x) h2 h') (okL_st2 hL (okT_c.mp hT).1) (okT_c.mp hT).2 hSc hz
theorem o_astore (C : Cx g p R u m args meth c k) {i : Nat} {a : Option Nat} (hd : decode (codeK k) pc = .ok (.astore i, 2)) (hi : i < mxl k) (kk : Kk g p l e R u m args below meth c Q k cells slots (pc + 2) (st1 L i (.inr (.inr a))) r s) : Kk g p l e R u m args below meth c Q k cells slots pc L (.inr (.inr a) :: r) s := by
  intro H locs ls hW hS hl hL hT hSc hz
  obtain ⟨h1, h2⟩ := mem_lva hl
  cases a with
  | none => exact lv_astoreN C.1 C.2.1 hd h1 hi rfl fun ls' h' => kk H locs ls' hW hS (lvR_st1 (v := aN) h2 h') (okL_st1 hL trivial) (okT_c.mp hT).2 hSc hz
  | some a => exact lv_astore C.1 C.2.1 hd h1 hi rfl fun ls' h' => kk H locs ls' hW hS (lvR_st1 (v := aA a) h2 h') (okL_st1 hL trivial) (okT_c.mp hT).2 hSc hz
theorem o_astore_n (C : Cx g p R u m args meth c k) {i : Fin 4} {a : Option Nat} (hd : decode (codeK k) pc = .ok (.astore_n i, 1)) (hi : (i : Nat) < mxl k) (kk : Kk g p l e R u m args below meth c Q k cells slots (pc + 1) (st1 L (i : Nat) (.inr (.inr a))) r s) : Kk g p l e R u m args below meth c Q k cells slots pc L (.inr (.inr a) :: r) s := by
  intro H locs ls hW hS hl hL hT hSc hz
  obtain ⟨h1, h2⟩ := mem_lva hl
  cases a with
  | none => exact lv_astore_nN C.1 C.2.1 hd rfl h1 hi rfl fun ls' h' => kk H locs ls' hW hS (lvR_st1 (v := aN) h2 h') (okL_st1 hL trivial) (okT_c.mp hT).2 hSc hz
  | some a => exact lv_astore_n C.1 C.2.1 hd rfl h1 hi rfl fun ls' h' => kk H locs ls' hW hS (lvR_st1 (v := aA a) h2 h') (okL_st1 hL trivial) (okT_c.mp hT).2 hSc hz
theorem o_iinc (C : Cx g p R u m args meth c k) {i : Nat} {x d : Int} (hd : decode (codeK k) pc = .ok (.iinc i d, 3)) (hi : i < mxl k) (hv : L[i]? = some (some (aI x))) (hr : in32 (x + d)) (kk : Kk g p l e R u m args below meth c Q k cells slots (pc + 3) (st1 L i (aI (x + d))) st s) : Kk g p l e R u m args below meth c Q k cells slots pc L st s := by
  intro H locs ls hW hS hl hL hT hSc hz
  obtain ⟨h1, h2⟩ := mem_lva hl
  obtain ⟨q, hq⟩ := List.getElem?_of_mem (h2 i _ hv)
  exact lv_iinc C.1 C.2.1 hd h1 hq (Int32.ofInt_add x d).symm hi rfl fun ls' h' => kk H locs ls' hW hS (lvR_st1 (v := aI (x + d)) h2 h') (okL_st1 hL hr) hT hSc hz
theorem o_iadd (C : Cx g p R u m args meth c k) {x y : Int} (hd : decode (codeK k) pc = .ok (.iadd, 1)) (hr : in32 (x + y)) (kk : Kk g p l e R u m args below meth c Q k cells slots (pc + 1) L (aI (x + y) :: r) s) : Kk g p l e R u m args below meth c Q k cells slots pc L (aI y :: aI x :: r) s := by
  intro H locs ls hW hS hl hL hT hSc hz
  refine lv_iadd C.1 C.2.1 (x := Int32.ofInt x) (y := Int32.ofInt y) hd ?_
  rw [← Int32.ofInt_add]
  exact kk H locs ls hW hS hl hL (okT_c.mpr ⟨hr, (okT_c.mp (okT_c.mp hT).2).2⟩) hSc hz
theorem o_isub (C : Cx g p R u m args meth c k) {x y : Int} (hd : decode (codeK k) pc = .ok (.isub, 1)) (hr : in32 (x - y)) (kk : Kk g p l e R u m args below meth c Q k cells slots (pc + 1) L (aI (x - y) :: r) s) : Kk g p l e R u m args below meth c Q k cells slots pc L (aI y :: aI x :: r) s := by
  intro H locs ls hW hS hl hL hT hSc hz
  refine lv_isub C.1 C.2.1 (x := Int32.ofInt x) (y := Int32.ofInt y) hd ?_
  rw [← Int32.ofInt_sub]
  exact kk H locs ls hW hS hl hL (okT_c.mpr ⟨hr, (okT_c.mp (okT_c.mp hT).2).2⟩) hSc hz
theorem o_imul (C : Cx g p R u m args meth c k) {x y : Int} (hd : decode (codeK k) pc = .ok (.imul, 1)) (hr : in32 (x * y)) (kk : Kk g p l e R u m args below meth c Q k cells slots (pc + 1) L (aI (x * y) :: r) s) : Kk g p l e R u m args below meth c Q k cells slots pc L (aI y :: aI x :: r) s := by
  intro H locs ls hW hS hl hL hT hSc hz
  refine lv_imul C.1 C.2.1 (x := Int32.ofInt x) (y := Int32.ofInt y) hd ?_
  rw [← Int32.ofInt_mul]
  exact kk H locs ls hW hS hl hL (okT_c.mpr ⟨hr, (okT_c.mp (okT_c.mp hT).2).2⟩) hSc hz
theorem i32max : Int32.maxValue.toInt = 2147483647 := by decide
theorem i32min : Int32.minValue.toInt = -2147483648 := by decide
theorem i32div {x y : Int} (hx : in32 x) (hy : in32 y) : Int32.ofInt (x.tdiv y) = Int32.ofInt x / Int32.ofInt y := Int32.ofInt_tdiv (by rw [i32min]; exact hx.1) (by rw [i32max]; exact hx.2) (by rw [i32min]; exact hy.1) (by rw [i32max]; exact hy.2)
theorem o_idiv (C : Cx g p R u m args meth c k) {x y : Int} (hd : decode (codeK k) pc = .ok (.idiv, 1)) (h0 : ¬ y = 0) (hr : in32 (x.tdiv y)) (kk : Kk g p l e R u m args below meth c Q k cells slots (pc + 1) L (aI (x.tdiv y) :: r) s) : Kk g p l e R u m args below meth c Q k cells slots pc L (aI y :: aI x :: r) s := by
  intro H locs ls hW hS hl hL hT hSc hz
  obtain ⟨hy, hT2⟩ := okT_c.mp hT
  obtain ⟨hx, hT3⟩ := okT_c.mp hT2
  refine lv_idiv C.1 C.2.1 (x := Int32.ofInt x) (y := Int32.ofInt y) hd (fun h => h0 ((i32eq hy in32_0).mp h)) ?_
  rw [← i32div hx hy]
  exact kk H locs ls hW hS hl hL (okT_c.mpr ⟨hr, hT3⟩) hSc hz
theorem o_irem (C : Cx g p R u m args meth c k) {x y : Int} (hd : decode (codeK k) pc = .ok (.irem, 1)) (h0 : ¬ y = 0) (hr : in32 (x - x.tdiv y * y)) (kk : Kk g p l e R u m args below meth c Q k cells slots (pc + 1) L (aI (x - x.tdiv y * y) :: r) s) : Kk g p l e R u m args below meth c Q k cells slots pc L (aI y :: aI x :: r) s := by
  intro H locs ls hW hS hl hL hT hSc hz
  obtain ⟨hy, hT2⟩ := okT_c.mp hT
  obtain ⟨hx, hT3⟩ := okT_c.mp hT2
  refine lv_irem C.1 C.2.1 (x := Int32.ofInt x) (y := Int32.ofInt y) hd (fun h => h0 ((i32eq hy in32_0).mp h)) ?_
  rw [← i32div hx hy, ← Int32.ofInt_mul, ← Int32.ofInt_sub]
  exact kk H locs ls hW hS hl hL (okT_c.mpr ⟨hr, hT3⟩) hSc hz
theorem b32_of (f : Int32 → Int32 → Int32) (x y : Int) : Int32.ofInt (b32 f x y) = f (Int32.ofInt x) (Int32.ofInt y) := Int32.ofInt_toInt _
theorem b64_of (f : Int64 → Int64 → Int64) (x y : Int) : Int64.ofInt (b64 f x y) = f (Int64.ofInt x) (Int64.ofInt y) := Int64.ofInt_toInt _
theorem s64_of (f : Int64 → Int64 → Int64) (x y : Int) : Int64.ofInt (s64 f x y) = f (Int64.ofInt x) ((Int32.ofInt y).toInt64 &&& 63) := Int64.ofInt_toInt _
theorem o_b32 {x y : Int} (f : Int32 → Int32 → Int32) (row : ∀ (H : Heap) (locs : List Loc) (ls : Array Slot) (rest : List Value), W p l e R u m args below meth c H locs cells slots Q (F0 m (pc + 1) ls (.int (f (Int32.ofInt x) (Int32.ofInt y)) :: rest)) → W p l e R u m args below meth c H locs cells slots Q (F0 m pc ls (.int (Int32.ofInt y) :: .int (Int32.ofInt x) :: rest))) (kk : Kk g p l e R u m args below meth c Q k cells slots (pc + 1) L (aI (b32 f x y) :: r) s) : Kk g p l e R u m args below meth c Q k cells slots pc L (aI y :: aI x :: r) s := by
  intro H locs ls hW hS hl hL hT hSc hz
  refine row H locs ls _ ?_
  rw [← b32_of f x y]
  exact kk H locs ls hW hS hl hL (okT_c.mpr ⟨i32r _, (okT_c.mp (okT_c.mp hT).2).2⟩) hSc hz
theorem o_b64 {x y : Int} (f : Int64 → Int64 → Int64) (row : ∀ (H : Heap) (locs : List Loc) (ls : Array Slot) (rest : List Value), W p l e R u m args below meth c H locs cells slots Q (F0 m (pc + 1) ls (.long (f (Int64.ofInt x) (Int64.ofInt y)) :: rest)) → W p l e R u m args below meth c H locs cells slots Q (F0 m pc ls (.long (Int64.ofInt y) :: .long (Int64.ofInt x) :: rest))) (kk : Kk g p l e R u m args below meth c Q k cells slots (pc + 1) L (aJ (b64 f x y) :: r) s) : Kk g p l e R u m args below meth c Q k cells slots pc L (aJ y :: aJ x :: r) s := by
  intro H locs ls hW hS hl hL hT hSc hz
  refine row H locs ls _ ?_
  rw [← b64_of f x y]
  exact kk H locs ls hW hS hl hL (okT_c.mpr ⟨i64r _, (okT_c.mp (okT_c.mp hT).2).2⟩) hSc hz
theorem o_s64 {x y : Int} (f : Int64 → Int64 → Int64) (row : ∀ (H : Heap) (locs : List Loc) (ls : Array Slot) (rest : List Value), W p l e R u m args below meth c H locs cells slots Q (F0 m (pc + 1) ls (.long (f (Int64.ofInt x) ((Int32.ofInt y).toInt64 &&& 63)) :: rest)) → W p l e R u m args below meth c H locs cells slots Q (F0 m pc ls (.int (Int32.ofInt y) :: .long (Int64.ofInt x) :: rest))) (kk : Kk g p l e R u m args below meth c Q k cells slots (pc + 1) L (aJ (s64 f x y) :: r) s) : Kk g p l e R u m args below meth c Q k cells slots pc L (aI y :: aJ x :: r) s := by
  intro H locs ls hW hS hl hL hT hSc hz
  refine row H locs ls _ ?_
  rw [← s64_of f x y]
  exact kk H locs ls hW hS hl hL (okT_c.mpr ⟨i64r _, (okT_c.mp (okT_c.mp hT).2).2⟩) hSc hz
theorem o_lcmp (C : Cx g p R u m args meth c k) {x y : Int} (hd : decode (codeK k) pc = .ok (.lcmp, 1)) (kk : Kk g p l e R u m args below meth c Q k cells slots (pc + 1) L (aI (if y < x then 1 else if x = y then 0 else -1) :: r) s) : Kk g p l e R u m args below meth c Q k cells slots pc L (aJ y :: aJ x :: r) s := by
  intro H locs ls hW hS hl hL hT hSc hz
  obtain ⟨hy, hT2⟩ := okT_c.mp hT
  obtain ⟨hx, hT3⟩ := okT_c.mp hT2
  have e1 : lg_cmp (Int64.ofInt x) (Int64.ofInt y) = Int32.ofInt (if y < x then 1 else if x = y then 0 else -1) := by
    unfold lg_cmp
    simp only [gt_iff_lt, Int64.lt_iff_toInt_lt, ← Int64.toInt_inj, i64 hx, i64 hy]
    split
    · rfl
    · split <;> rfl
  refine W.lcmp C.1 C.2.1 hd ?_
  rw [e1]
  refine kk H locs ls hW hS hl hL (okT_c.mpr ⟨?_, hT3⟩) hSc hz
  show in32 _
  split
  · unfold in32; omega
  · split <;> (unfold in32; omega)
theorem o_dup (C : Cx g p R u m args meth c k) {v : AV} (hd : decode (codeK k) pc = .ok (.dup, 1)) (h1 : cat v = 1) (kk : Kk g p l e R u m args below meth c Q k cells slots (pc + 1) L (v :: v :: r) s) : Kk g p l e R u m args below meth c Q k cells slots pc L (v :: r) s := by
  intro H locs ls hW hS hl hL hT hSc hz
  exact lv_dup C.1 C.2.1 hd ((cv_cat g v).trans h1) (kk H locs ls hW hS hl hL (okT_c.mpr ⟨(okT_c.mp hT).1, hT⟩) hSc hz)
theorem o_dup2 (C : Cx g p R u m args meth c k) {v w : AV} (hd : decode (codeK k) pc = .ok (.dup2, 1)) (h1 : cat v = 1) (h2 : cat w = 1) (kk : Kk g p l e R u m args below meth c Q k cells slots (pc + 1) L (v :: w :: v :: w :: r) s) : Kk g p l e R u m args below meth c Q k cells slots pc L (v :: w :: r) s := by
  intro H locs ls hW hS hl hL hT hSc hz
  exact lv_dup2_11 C.1 C.2.1 hd ((cv_cat g v).trans h1) ((cv_cat g w).trans h2) (kk H locs ls hW hS hl hL (okT_c.mpr ⟨(okT_c.mp hT).1, okT_c.mpr ⟨(okT_c.mp (okT_c.mp hT).2).1, hT⟩⟩) hSc hz)
theorem o_pop (C : Cx g p R u m args meth c k) {v : AV} (hd : decode (codeK k) pc = .ok (.pop, 1)) (h1 : cat v = 1) (kk : Kk g p l e R u m args below meth c Q k cells slots (pc + 1) L r s) : Kk g p l e R u m args below meth c Q k cells slots pc L (v :: r) s := by
  intro H locs ls hW hS hl hL hT hSc hz
  exact lv_pop C.1 C.2.1 hd ((cv_cat g v).trans h1) (kk H locs ls hW hS hl hL (okT_c.mp hT).2 hSc hz)
theorem o_goto (C : Cx g p R u m args meth c k) {d : Int} {t : Nat} (hd : decode (codeK k) pc = .ok (.goto d, 3)) (ht : (pc : Int) + d = t) (kk : Kk g p l e R u m args below meth c Q k cells slots t L st s) : Kk g p l e R u m args below meth c Q k cells slots pc L st s := by
  intro H locs ls hW hS hl hL hT hSc hz
  exact lv_goto C.1 C.2.1 hd ht (kk H locs ls hW hS hl hL hT hSc hz)
end ONE
