/-! the machine's heap, as the abstract memory tells it -/
abbrev Gx : Type := va_G × ((Nat → ClassId) × (Nat × Nat))
def gD (g : Gx) : va_G := g.1
def gC (g : Gx) (t : Nat) : ClassId := g.2.1 t
def gB (g : Gx) : Nat := g.2.2.1
def gS (g : Gx) : Nat := g.2.2.2
def bse (g : Gx) : Nat → Prop := fun q => gB g ≤ q
def tysG (g : Gx) : List (ClassId × FieldType) := [(gC g 1, .int), (gC g 2, .boolean), (gC g 3, .long), (gC g 4, .object RX4)]
def ad (g : Gx) (a : Nat) : Nat := match a with
  | 0 => gS g
  | a + 1 => gB g + a
def cv (g : Gx) (v : AV) : Value := match v with
  | .inl z => .int (Int32.ofInt z)
  | .inr (.inl z) => .long (Int64.ofInt z)
  | .inr (.inr none) => .null
  | .inr (.inr (some a)) => .ref (ad g a)
def fv (g : Gx) (s : Sx) (a ci j : Nat) : Value := cond (Nat.beq (ft ci j) 2) (cond (hasM s a j) (.ref (ad g (a + ofs ci j))) .null) (.int (Int32.ofInt (s.1 a j)))
def cel (g : Gx) (s : Sx) (a : Nat) : va_E := match kd a with
  | (0, ci) => .inr (ci, (List.range (clG ci).2.2).map (fv g s a ci))
  | (3, n) => .inl (gC g 3, (n, .inr (.inl fun j => Int64.ofInt (s.1 a j))))
  | (4, n) => .inl (gC g 4, (n, .inr (.inr (.inr (.inr fun j => cond (hasM s a j) (some (ad g (tgA j))) none)))))
  | (t, n) => .inl (gC g t, (n, .inl fun j => Int32.ofInt (s.1 a j)))
def wsG (g : Gx) (s : Sx) : va_W := (List.range s.2.1).map fun i => (gB g + i, cel g s (i + 1))
def in32 (z : Int) : Prop := -2147483648 ≤ z ∧ z ≤ 2147483647
def in64 (z : Int) : Prop := -9223372036854775808 ≤ z ∧ z ≤ 9223372036854775807
def okS (s : Sx) : Prop := (∀ a j, (kd a).1 = 3 → in64 (s.1 a j)) ∧ (∀ a j, (kd a).1 ≠ 3 → in32 (s.1 a j)) ∧ (∀ a j, s.2.1 < a → s.1 a j = 0) ∧ (∀ q ∈ s.2.2.1, q.1 ≤ s.2.1) ∧ s.2.2.2 < 2147483648
def Wd (g : Gx) (s : Sx) (H : Heap) : Prop := va_P (gD g) clT (wsG g s) H ∧ okS s
def okV (v : AV) : Prop := match v with
  | .inl z => in32 z
  | .inr (.inl z) => in64 z
  | _ => True
def okT (st : List AV) : Prop := ∀ v ∈ st, okV v
def okL (L : Lc) : Prop := ∀ (j : Nat) (v : AV), L[j]? = some (some v) → okV v
def lvR (g : Gx) (ls : Array Slot) (nL : Nat) (L : Lc) : Prop := ls.size = nL ∧ lv_wf ls ∧ ∀ (j : Nat) (v : AV), L[j]? = some (some v) → ls[j]? = some (.val (cv g v))
theorem i32 {z : Int} (h : in32 z) : (Int32.ofInt z).toInt = z := Int32.toInt_ofInt_of_le (by have := h.1; omega) (by have := h.2; omega)
theorem i64 {z : Int} (h : in64 z) : (Int64.ofInt z).toInt = z := Int64.toInt_ofInt_of_le (by have := h.1; omega) (by have := h.2; omega)
theorem i32r (x : Int32) : in32 x.toInt := ⟨by have := x.le_toInt; omega, by have := x.toInt_lt; omega⟩
theorem i64r (x : Int64) : in64 x.toInt := ⟨by have := x.le_toInt; omega, by have := x.toInt_lt; omega⟩
theorem i32n {z : Int} (h : in32 z) : (Int32.ofInt z).toNatClampNeg = z.toNat := by show (Int32.ofInt z).toInt.toNat = _; rw [i32 h]
theorem i32in {z : Int} {n : Nat} (h : in32 z) (h0 : 0 ≤ z) (h1 : z < n) : vp_in (Int32.ofInt z) n := by
  rw [vp_in_iff, i32 h]; exact ⟨h0, h1⟩
theorem i32le {x y : Int} (hx : in32 x) (hy : in32 y) : Int32.ofInt x ≤ Int32.ofInt y ↔ x ≤ y := by rw [Int32.le_iff_toInt_le, i32 hx, i32 hy]
theorem i32lt {x y : Int} (hx : in32 x) (hy : in32 y) : Int32.ofInt x < Int32.ofInt y ↔ x < y := by rw [Int32.lt_iff_toInt_lt, i32 hx, i32 hy]
theorem i32eq {x y : Int} (hx : in32 x) (hy : in32 y) : Int32.ofInt x = Int32.ofInt y ↔ x = y := by rw [← Int32.toInt_inj, i32 hx, i32 hy]
theorem in32_0 : in32 0 := by unfold in32; omega
theorem i32z : Int32.ofInt 0 = 0 := rfl
theorem okT_c {v : AV} {r : List AV} : okT (v :: r) ↔ okV v ∧ okT r := List.forall_mem_cons
theorem hasM_sN (s : Sx) (a j : Nat) : hasM (sN s) a j = hasM s a j := rfl
theorem hasM_sM (s : Sx) (m : Mm) (a j : Nat) : hasM (sM s m) a j = hasM s a j := rfl
theorem hasM_new {s : Sx} (h : okS s) {a j : Nat} (ha : s.2.1 < a) : hasM s a j = false := by
  unfold hasM
  rw [List.any_eq_false]
  intro q hq
  have h1 := h.2.2.2.1 q hq
  have h2 : q.1 ≠ a := by omega
  rw [show Nat.beq q.1 a = false from beqN h2]
  simp
theorem hasM_sK {s : Sx} {a j : Nat} (a' j' : Nat) : hasM (sK s a j) a' j' = ((Nat.beq a a' && Nat.beq j j') || hasM s a' j') := rfl
theorem cel_congr {g : Gx} {s s' : Sx} {a : Nat} (h1 : ∀ j, s'.1 a j = s.1 a j) (h2 : ∀ j, hasM s' a j = hasM s a j) : cel g s' a = cel g s a := by
  unfold cel fv
  simp only [h1, h2]
theorem cel_o {g : Gx} {s : Sx} {a ci : Nat} (h : kd a = (0, ci)) : cel g s a = .inr (ci, (List.range (clG ci).2.2).map (fv g s a ci)) := by unfold cel; rw [h]; rfl
theorem cel_i {g : Gx} {s : Sx} {a n : Nat} (h : kd a = (1, n)) : cel g s a = .inl (gC g 1, (n, .inl fun j => Int32.ofInt (s.1 a j))) := by unfold cel; rw [h]; rfl
theorem cel_z {g : Gx} {s : Sx} {a n : Nat} (h : kd a = (2, n)) : cel g s a = .inl (gC g 2, (n, .inl fun j => Int32.ofInt (s.1 a j))) := by unfold cel; rw [h]; rfl
theorem cel_j {g : Gx} {s : Sx} {a n : Nat} (h : kd a = (3, n)) : cel g s a = .inl (gC g 3, (n, .inr (.inl fun j => Int64.ofInt (s.1 a j)))) := by unfold cel; rw [h]; rfl
theorem cel_q {g : Gx} {s : Sx} {a n : Nat} (h : kd a = (4, n)) : cel g s a = .inl (gC g 4, (n, .inr (.inr (.inr (.inr fun j => cond (hasM s a j) (some (ad g (tgA j))) none))))) := by unfold cel; rw [h]; rfl
theorem ws_get {g : Gx} {s : Sx} {a : Nat} (h1 : 1 ≤ a) (h2 : a ≤ s.2.1) : (wsG g s)[a - 1]? = some (ad g a, cel g s a) := by
  obtain ⟨b, rfl⟩ : ∃ b, a = b + 1 := ⟨a - 1, by omega⟩
  have h3 : b < s.2.1 := by omega
  simp [wsG, ad, h3]
theorem ws_len (g : Gx) (s : Sx) : (wsG g s).length = s.2.1 := by simp [wsG]
theorem ws_set {g : Gx} {s s' : Sx} {a : Nat} (hn : s'.2.1 = s.2.1) (h1 : 1 ≤ a) (h2 : a ≤ s.2.1) (ho : ∀ b, b ≠ a → cel g s' b = cel g s b) : (wsG g s).set (a - 1) (ad g a, cel g s' a) = wsG g s' := by
  apply List.ext_getElem?
  intro i
  rcases Nat.lt_or_ge i s.2.1 with q | q
  · have e1 := ws_get (g := g) (s := s') (a := i + 1) (by omega) (by omega)
    have e0 := ws_get (g := g) (s := s) (a := i + 1) (by omega) (by omega)
    simp only [Nat.add_sub_cancel] at e1 e0
    rw [e1]
    by_cases hi : i = a - 1
    · subst hi
      rw [List.getElem?_set_self (by rw [ws_len]; exact q)]
      rw [show a - 1 + 1 = a by omega]
    · rw [List.getElem?_set_ne (fun h => hi h.symm), e0, ho (i + 1) (by omega)]
  · rw [List.getElem?_eq_none (by rw [List.length_set, ws_len]; exact q), List.getElem?_eq_none (by rw [ws_len, hn]; exact q)]
theorem ws_D (g : Gx) (s : Sx) : va_D (bse g) (wsG g s) := by
  have key : ∀ (i : Nat) (p : Nat × va_E), (wsG g s)[i]? = some p → p.1 = gB g + i := by
    intro i p h
    have hl := (List.getElem?_eq_some_iff.mp h).1
    rw [ws_len] at hl
    have e := ws_get (g := g) (s := s) (a := i + 1) (by omega) (by omega)
    simp only [Nat.add_sub_cancel] at e
    rw [e] at h
    cases h
    rfl
  refine ⟨fun i j p q hp hq e => ?_, fun i q hq => ?_⟩
  · rw [key i p hp, key j q hq] at e; omega
  · show gB g ≤ q.1
    rw [key i q hq]; omega
theorem ws_push (g : Gx) (s : Sx) : wsG g (sN s) = wsG g s ++ [(gB g + s.2.1, cel g s (s.2.1 + 1))] := by
  show (List.range (s.2.1 + 1)).map (fun i => (gB g + i, cel g s (i + 1))) = _
  rw [List.range_succ, List.map_append]
  rfl
theorem up2_s (m : Mm) (a j : Nat) (x : Int) : up2 m a j x a j = x := by simp [up2]
theorem up2_r (m : Mm) (a j j' : Nat) (x : Int) : up2 m a j x a j' = if j' = j then x else m a j' := by simp [up2]
theorem up2_n (m : Mm) {a a' : Nat} (j : Nat) (x : Int) (j' : Nat) (h : a' ≠ a) : up2 m a j x a' j' = m a' j' := by simp [up2, h]
theorem okS_up {s : Sx} {a j : Nat} {x : Int} (h : okS s) (h2 : a ≤ s.2.1) (h3 : (kd a).1 = 3 → in64 x) (h4 : (kd a).1 ≠ 3 → in32 x) : okS (sM s (up2 s.1 a j x)) := by
  obtain ⟨a1, a2, a3, a4, a5⟩ := h
  refine ⟨fun b i hb => ?_, fun b i hb => ?_, fun b i hb => ?_, a4, a5⟩
  · show in64 (up2 s.1 a j x b i)
    unfold up2
    split
    · next e => subst e; split
                · exact h3 hb
                · exact a1 _ _ hb
    · exact a1 _ _ hb
  · show in32 (up2 s.1 a j x b i)
    unfold up2
    split
    · next e => subst e; split
                · exact h4 hb
                · exact a2 _ _ hb
    · exact a2 _ _ hb
  · show up2 s.1 a j x b i = 0
    have hb : s.2.1 < b := hb
    rw [up2_n _ _ _ _ (by omega)]
    exact a3 b i hb
theorem okS_cp {s : Sx} {a b sp dp n : Nat} (h : okS s) (h1 : b ≤ s.2.1) (ha : (kd a).1 ≠ 3) (hb : (kd b).1 ≠ 3) : okS (sM s (cpm s.1 a sp b dp n)) := by
  obtain ⟨a1, a2, a3, a4, a5⟩ := h
  refine ⟨fun c i hc => ?_, fun c i hc => ?_, fun c i hc => ?_, a4, a5⟩
  · show in64 (cpm s.1 a sp b dp n c i)
    unfold cpm
    split
    · next e => exact absurd (e ▸ hc) hb
    · exact a1 _ _ hc
  · show in32 (cpm s.1 a sp b dp n c i)
    unfold cpm
    split
    · split
      · exact a2 _ _ ha
      · exact a2 _ _ hc
    · exact a2 _ _ hc
  · show cpm s.1 a sp b dp n c i = 0
    have hc : s.2.1 < c := hc
    unfold cpm
    rw [if_neg (by omega)]
    exact a3 c i hc
theorem onA_ok {a t n : Nat} {s : Sx} (h : onA a s t n = true) : kd a = (t, n) ∧ 1 ≤ a ∧ a ≤ s.2.1 := by
  simp only [onA, Bool.and_eq_true, decide_eq_true_eq, Nat.ble_eq] at h
  exact ⟨h.1.1, h.1.2, h.2⟩
theorem inb_ok {i : Int} {n : Nat} (h : inb i n = true) : 0 ≤ i ∧ i < n := by
  simpa only [inb, Bool.and_eq_true, decide_eq_true_eq] using h
/-- a store into a cell: its new picture, the others as they were -/
theorem Wd_set {g : Gx} {s s' : Sx} {a : Nat} {H : Heap} {E : va_E} (hn : s'.2.1 = s.2.1) (h1 : 1 ≤ a) (h2 : a ≤ s.2.1) (ho : ∀ b, b ≠ a → cel g s' b = cel g s b) (hE : E = cel g s' a) (hok : okS s') (hP : va_P (gD g) clT ((wsG g s).set (a - 1) (ad g a, E)) H) : Wd g s' H := by
  subst hE
  rw [ws_set hn h1 h2 ho] at hP
  exact ⟨hP, hok⟩
theorem mem_lva {g : Gx} {ls : Array Slot} {nL : Nat} {L : Lc} (h : lvR g ls nL L) : lv_has ls nL (L.zipIdx.filterMap fun q => q.1.map fun v => (q.2, cv g v)) ∧ ∀ (j : Nat) (v : AV), L[j]? = some (some v) → (j, cv g v) ∈ (L.zipIdx.filterMap fun q => q.1.map fun v => (q.2, cv g v)) := by
  refine ⟨⟨h.1, h.2.1, fun q hq => ?_⟩, fun j v hv => ?_⟩
  · obtain ⟨⟨o, j⟩, hm, he⟩ := List.mem_filterMap.mp hq
    cases o with
    | none => cases he
    | some v =>
      simp only [Option.map_some, Option.some.injEq] at he
      subst he
      have := List.mem_zipIdx_iff_getElem?.mp hm
      exact h.2.2 j v this
  · exact List.mem_filterMap.mpr ⟨(some v, j), List.mem_zipIdx_iff_getElem?.mpr hv, rfl⟩
theorem cv_cat (g : Gx) (v : AV) : (cv g v).category = cat v := by
  rcases v with z | z | r
  · rfl
  · rfl
  · cases r <;> rfl
theorem st1_get {L : Lc} {i j : Nat} {v w : AV} (h : (st1 L i v)[j]? = some (some w)) : (j = i ∧ w = v) ∨ (j ≠ i ∧ L[j]? = some (some w) ∧ ¬ (j + 1 = i ∧ cat w = 2)) := by
  unfold st1 at h
  cases i with
  | zero =>
    simp only at h
    rw [List.getElem?_set] at h
    by_cases e : 0 = j
    · subst e
      simp only [if_true] at h
      split at h
      · cases h; exact Or.inl ⟨rfl, rfl⟩
      · cases h
    · rw [if_neg e] at h
      exact Or.inr ⟨fun q => e q.symm, h, fun q => by omega⟩
  | succ i =>
    simp only at h
    cases hb : isJ L[i]? with
    | true =>
      rw [hb, cond_true, List.getElem?_set] at h
      by_cases e : i + 1 = j
      · subst e
        simp only [if_true] at h
        split at h
        · cases h; exact Or.inl ⟨rfl, rfl⟩
        · cases h
      · rw [if_neg e, List.getElem?_set] at h
        by_cases e2 : i = j
        · subst e2
          simp only [if_true] at h
          split at h <;> cases h
        · rw [if_neg e2] at h
          exact Or.inr ⟨fun q => e q.symm, h, fun q => by omega⟩
    | false =>
      rw [hb, cond_false, List.getElem?_set] at h
      by_cases e : i + 1 = j
      · subst e
        simp only [if_true] at h
        split at h
        · cases h; exact Or.inl ⟨rfl, rfl⟩
        · cases h
      · rw [if_neg e] at h
        refine Or.inr ⟨fun q => e q.symm, h, fun q => ?_⟩
        have : i = j := by omega
        subst this
        rw [h] at hb
        rcases w with z | z | r
        · simp [cat] at q
        · simp [isJ] at hb
        · simp [cat] at q
theorem lvR_st1 {g : Gx} {ls' : Array Slot} {nL i : Nat} {L : Lc} {v : AV} {lv : List (Nat × Value)} (hm : ∀ (j : Nat) (v : AV), L[j]? = some (some v) → (j, cv g v) ∈ lv) (h : lv_has ls' nL ((i, cv g v) :: lv.filter (fun q => !(q.1 == i) && !(q.1 + 1 == i && q.2.category == 2)))) : lvR g ls' nL (st1 L i v) := by
  refine ⟨h.1, h.2.1, fun j w hw => ?_⟩
  rcases st1_get hw with ⟨rfl, rfl⟩ | ⟨h1, h2, h3⟩
  · exact h.2.2 _ List.mem_cons_self
  · refine h.2.2 (j, cv g w) (List.mem_cons_of_mem _ (List.mem_filter.mpr ⟨hm j w h2, ?_⟩))
    rw [cv_cat]
    simp only [Bool.and_eq_true, Bool.not_eq_true', beq_eq_false_iff_ne, Bool.and_eq_false_iff, ne_eq]
    refine ⟨h1, ?_⟩
    by_cases q : j + 1 = i
    · exact Or.inr fun e => h3 ⟨q, e⟩
    · exact Or.inl q
theorem st2_get {L : Lc} {i j : Nat} {v w : AV} (h : (st2 L i v)[j]? = some (some w)) : (j = i ∧ w = v) ∨ (j ≠ i ∧ j ≠ i + 1 ∧ L[j]? = some (some w) ∧ ¬ (j + 1 = i ∧ cat w = 2)) := by
  unfold st2 at h
  rw [List.getElem?_set] at h
  by_cases e : i + 1 = j
  · subst e
    simp only [if_true] at h
    split at h <;> cases h
  · rw [if_neg e] at h
    rcases st1_get h with q | ⟨h1, h2, h3⟩
    · exact Or.inl q
    · exact Or.inr ⟨h1, fun q => e q.symm, h2, h3⟩
theorem lvR_st2 {g : Gx} {ls' : Array Slot} {nL i : Nat} {L : Lc} {v : AV} {lv : List (Nat × Value)} (hm : ∀ (j : Nat) (v : AV), L[j]? = some (some v) → (j, cv g v) ∈ lv) (h : lv_has ls' nL ((i, cv g v) :: lv.filter (fun q => !(q.1 == i) && (!(q.1 == i + 1) && !(q.1 + 1 == i && q.2.category == 2))))) : lvR g ls' nL (st2 L i v) := by
  refine ⟨h.1, h.2.1, fun j w hw => ?_⟩
  rcases st2_get hw with ⟨rfl, rfl⟩ | ⟨h1, h2, h3, h4⟩
  · exact h.2.2 _ List.mem_cons_self
  · refine h.2.2 (j, cv g w) (List.mem_cons_of_mem _ (List.mem_filter.mpr ⟨hm j w h3, ?_⟩))
    rw [cv_cat]
    simp only [Bool.and_eq_true, Bool.not_eq_true', beq_eq_false_iff_ne, Bool.and_eq_false_iff, ne_eq]
    refine ⟨h1, h2, ?_⟩
    by_cases q : j + 1 = i
    · exact Or.inr fun e => h4 ⟨q, e⟩
    · exact Or.inl q
theorem okL_st1 {L : Lc} {i : Nat} {v : AV} (h : okL L) (hv : okV v) : okL (st1 L i v) := fun j w hw => by
  rcases st1_get hw with ⟨-, rfl⟩ | ⟨-, h2, -⟩
  · exact hv
  · exact h j w h2
theorem okL_st2 {L : Lc} {i : Nat} {v : AV} (h : okL L) (hv : okV v) : okL (st2 L i v) := fun j w hw => by
  rcases st2_get hw with ⟨-, rfl⟩ | ⟨-, -, h2, -⟩
  · exact hv
  · exact h j w h2
