/-- what a cell takes of the room -/
def csz (a : Nat) : Nat := match kd a with
  | (0, ci) => (clG ci).2.2
  | (_, n) => n
def ssum : Nat → Nat
  | 0 => 0
  | n + 1 => ssum n + csz (n + 1)
theorem csz_o {a ci : Nat} (h : kd a = (0, ci)) : csz a = (clG ci).2.2 := by unfold csz; rw [h]; rfl
theorem csz_a {a t n : Nat} (h : kd a = (t + 1, n)) : csz a = n := by unfold csz; rw [h]; rfl
section NEW
variable {g : Gx} {p : Program} {l : Launch} {e : Env} {R : Room} {u : State} {m : MethodId} {args : Array Value} {below : List Frame} {meth : Method} {c : Code} {Q : State → Prop} {k cells slots pc : Nat} {L : Lc} {st r : List AV} {s : Sx} {H : Heap} {locs : List Loc}
theorem W_size {f : JFrame} (h : H.size ≤ u.heap.size + cells → W p l e R u m args below meth c H locs cells slots Q f) : W p l e R u m args below meth c H locs cells slots Q f := fun T hT X => h (by rw [← hT]; exact X.heapSize) T hT X
theorem heap_eq (hW : Wd g s H) (hS : va_S (bse g) u.heap H locs) (hB : gB g ≤ u.heap.size) (hz : u.heap.size + cells = gB g + s.2.1) (hs : H.size ≤ u.heap.size + cells) : H.size = gB g + s.2.1 := by
  have lo : gB g + s.2.1 ≤ H.size := by
    rcases Nat.eq_zero_or_pos s.2.1 with q | q
    · have := hS.1; omega
    · have he := ws_get (g := g) (s := s) (a := s.2.1) (by omega) (Nat.le_refl _)
      have h1 := (hW.1 _ _ he).lt
      have h2 : ad g s.2.1 = gB g + (s.2.1 - 1) := by
        obtain ⟨b, hb⟩ : ∃ b, s.2.1 = b + 1 := ⟨s.2.1 - 1, by omega⟩
        rw [hb]; rfl
      rw [h2] at h1
      omega
  omega
/-- a new cell behind the others -/
theorem Wd_new {H1 : Heap} (hW : Wd g s H) (hh : H.size = gB g + s.2.1) (hat : va_at (gD g) clT (gB g + s.2.1, cel g s (s.2.1 + 1)) H1) (hk : ∀ q, q < H.size → H1[q]? = H[q]?) : Wd g (sN s) H1 := by
  refine ⟨?_, hW.2.1, hW.2.2.1, fun a j ha => hW.2.2.2.1 a j (Nat.lt_of_succ_lt ha), fun q hq => Nat.le_succ_of_le (hW.2.2.2.2.1 q hq), hW.2.2.2.2.2⟩
  rw [ws_push]
  refine (hW.1.kept fun i q hq => hk _ (hW.1 i q hq).lt).app fun i q hq => ?_
  have hz : i < 1 := (List.getElem?_eq_some_iff.mp hq).1
  rw [show i = 0 by omega] at hq
  cases hq
  exact hat
theorem S_new {H1 : Heap} (hS : va_S (bse g) u.heap H locs) (hz1 : H1.size = H.size + 1) (hk : ∀ q, q < H.size → H1[q]? = H[q]?) : va_S (bse g) u.heap H1 locs :=
  ⟨by have := hS.1; omega, fun q h1 h2 => (hk q (Nat.lt_of_lt_of_le h1 hS.1)).trans (hS.2.1 q h1 h2), hS.2.2⟩
theorem ad_new : ad g (s.2.1 + 1) = gB g + s.2.1 := rfl
theorem o_new (C : Cx g p R u m args meth c k) {i ci : Nat} (hd : decode (codeK k) pc = .ok (.new i, 3)) (hc : cli k i = some ci) (hkd : kd (s.2.1 + 1) = (0, ci)) (hcr : cells + 1 ≤ R.cells) (hsr : slots + csz (s.2.1 + 1) ≤ R.slots) (kk : Kk g p l e R u m args below meth c Q k (cells + 1) (slots + csz (s.2.1 + 1)) (pc + 3) L (aA (s.2.1 + 1) :: st) (sN s)) : Kk g p l e R u m args below meth c Q k cells slots pc L st s := by
  intro H locs ls hW hS hl hL hT hSc hz
  obtain ⟨h1, h4⟩ := cl_ok hc
  obtain ⟨c1, c2, c3, c4, c5, c6, c7, c8⟩ := cls_ok ci h4
  rw [csz_o hkd] at hsr kk
  refine W_size fun hs => ?_
  have hh := heap_eq hW hS C.2.2.2.2.2.2.2.2.2.2.2 hz hs
  have hKn := C.2.2.2.2.2.2.2.1.1 ci _ c1
  refine W.newcK C.1 C.2.1 C.2.2.2.1 (C.2.2.2.2.1 _ h1) (C.2.2.2.2.1 _ c5) (C.2.2.2.2.1 _ c6) rfl hd hcr hsr hKn.2.1 rfl fun H1 kC hkC e1 z1 o1 => ?_
  have hat : va_at (gD g) clT (gB g + s.2.1, cel g s (s.2.1 + 1)) H1 := by
    rw [cel_o hkd, ← hh]
    refine ⟨_, c1, (u_born (tyT ci) C.2.2.2.2.1 c4 hKn hkC e1 c2).to fun j hj => ?_⟩
    have h7 := c7 j hj
    have hv : vp_V ((List.range (clG ci).2.2).map (fv g s (s.2.1 + 1) ci)) j = fv g s (s.2.1 + 1) ci j := by
      unfold vp_V
      rw [List.getD_eq_getElem?_getD, fv_get hj]
      rfl
    rw [hv]
    unfold fv
    rw [hasM_new hW.2 (Nat.lt_succ_self _), hW.2.2.2.1 _ j (Nat.lt_succ_self _)]
    unfold tyB at h7
    cases e0 : tyT ci j with
    | int => rw [e0] at h7; cases e9 : ft ci j with
      | zero => rfl
      | succ n => cases n with
        | zero => rfl
        | succ n => cases n with
          | zero => rw [e9] at h7; cases h7
          | succ n => rfl
    | boolean => rw [e0] at h7; cases e9 : ft ci j with
      | zero => rfl
      | succ n => cases n with
        | zero => rfl
        | succ n => cases n with
          | zero => rw [e9] at h7; cases h7
          | succ n => rfl
    | object C0 => rw [e0] at h7; cases e9 : ft ci j with
      | zero => rw [e9] at h7; cases h7
      | succ n => cases n with
        | zero => rw [e9] at h7; cases h7
        | succ n => cases n with
          | zero => rfl
          | succ n => rw [e9] at h7; cases h7
    | array C0 => rw [e0] at h7; cases e9 : ft ci j with
      | zero => rw [e9] at h7; cases h7
      | succ n => cases n with
        | zero => rw [e9] at h7; cases h7
        | succ n => cases n with
          | zero => rfl
          | succ n => rw [e9] at h7; cases h7
    | _ => rw [e0] at h7; cases e9 : ft ci j with
      | zero => rw [e9] at h7; cases h7
      | succ n => cases n with
        | zero => rw [e9] at h7; cases h7
        | succ n => cases n with
          | zero => rw [e9] at h7; cases h7
          | succ n => rw [e9] at h7; cases h7
  have hk := kk H1 locs ls (Wd_new hW hh hat o1) (S_new hS z1 o1) hl hL (okT_c.mpr ⟨trivial, hT⟩) hSc (by show _ = gB g + (s.2.1 + 1); omega)
  rw [hh]
  exact hk
theorem o_newa (C : Cx g p R u m args meth c k) {t : ArrayType} {z : Int} {ti : Nat} (hd : decode (codeK k) pc = .ok (.newarray t, 2)) (h0 : 0 ≤ z) (h1 : z ≤ 100000) (ht : (t = .int ∧ ti = 1) ∨ (t = .boolean ∧ ti = 2) ∨ (t = .long ∧ ti = 3)) (hkd : kd (s.2.1 + 1) = (ti, z.toNat)) (hcr : cells + 1 ≤ R.cells) (hsr : slots + csz (s.2.1 + 1) ≤ R.slots) (kk : Kk g p l e R u m args below meth c Q k (cells + 1) (slots + csz (s.2.1 + 1)) (pc + 2) L (aA (s.2.1 + 1) :: r) (sN s)) : Kk g p l e R u m args below meth c Q k cells slots pc L (aI z :: r) s := by
  intro H locs ls hW hS hl hL hT hSc hz
  obtain ⟨hx, hT2⟩ := okT_c.mp hT
  have hcs : csz (s.2.1 + 1) = z.toNat := by rcases ht with ⟨-, rfl⟩ | ⟨-, rfl⟩ | ⟨-, rfl⟩ <;> exact csz_a hkd
  rw [hcs] at hsr kk
  refine W_size fun hs => ?_
  have hh := heap_eq hW hS C.2.2.2.2.2.2.2.2.2.2.2 hz hs
  have nl : ¬ Int32.ofInt z < 0 := fun h => by have := (i32lt hx in32_0).mp h; omega
  have hK := C.2.2.2.2.2.2.2.1
  have harr : (Cond.arrayClass (newarray.typeOf t)).before args u = true := by
    rcases ht with ⟨rfl, -⟩ | ⟨rfl, -⟩ | ⟨rfl, -⟩
    · exact C.2.2.2.2.1 _ gx_6
    · exact C.2.2.2.2.1 _ gx_7
    · exact C.2.2.2.2.1 _ gx_8
  have hby : z.toNat * componentBytes (newarray.typeOf t) ≤ 536870912 := by
    have h8 : componentBytes (newarray.typeOf t) ≤ 8 := by rcases ht with ⟨rfl, -⟩ | ⟨rfl, -⟩ | ⟨rfl, -⟩ <;> decide
    have h9 : z.toNat ≤ 100000 := by omega
    calc z.toNat * componentBytes (newarray.typeOf t) ≤ 100000 * 8 := Nat.mul_le_mul h9 h8
      _ ≤ 536870912 := by decide
  refine va_newaK C.1 C.2.1 harr rfl hd rfl nl (i32n hx) hby hcr hsr rfl fun H1 cA e1 z1 o1 hAr hNm => ?_
  have hat : va_at (gD g) clT (gB g + s.2.1, cel g s (s.2.1 + 1)) H1 := by
    have z0 : ∀ j, s.1 (s.2.1 + 1) j = 0 := fun j => hW.2.2.2.1 _ j (Nat.lt_succ_self _)
    rw [← hh]
    rcases ht with ⟨rfl, rfl⟩ | ⟨rfl, rfl⟩ | ⟨rfl, rfl⟩
    · have ec : cA = gC g 1 := Option.some.inj (hNm.symm.trans (hK.2 0 _ rfl).2)
      rw [cel_i hkd, ← ec]
      simp only [z0]
      exact e1
    · have ec : cA = gC g 2 := Option.some.inj (hNm.symm.trans (hK.2 1 _ rfl).2)
      rw [cel_z hkd, ← ec]
      simp only [z0]
      exact e1
    · have ec : cA = gC g 3 := Option.some.inj (hNm.symm.trans (hK.2 2 _ rfl).2)
      rw [cel_j hkd, ← ec]
      simp only [z0]
      exact e1
  have hk := kk H1 locs ls (Wd_new hW hh hat o1) (S_new hS z1 o1) hl hL (okT_c.mpr ⟨trivial, hT2⟩) hSc (by show _ = gB g + (s.2.1 + 1); omega)
  rw [hh]
  exact hk
theorem o_anew (C : Cx g p R u m args meth c k) {i : Nat} {z : Int} (hd : decode (codeK k) pc = .ok (.anewarray i, 3)) (hc : cli k i = some 4) (h0 : 0 ≤ z) (h1 : z ≤ 100000) (hkd : kd (s.2.1 + 1) = (4, z.toNat)) (hcr : cells + 1 ≤ R.cells) (hsr : slots + csz (s.2.1 + 1) ≤ R.slots) (kk : Kk g p l e R u m args below meth c Q k (cells + 1) (slots + csz (s.2.1 + 1)) (pc + 3) L (aA (s.2.1 + 1) :: r) (sN s)) : Kk g p l e R u m args below meth c Q k cells slots pc L (aI z :: r) s := by
  intro H locs ls hW hS hl hL hT hSc hz
  obtain ⟨hx, hT2⟩ := okT_c.mp hT
  obtain ⟨hlk, -⟩ := cl_ok hc
  have hcs : csz (s.2.1 + 1) = z.toNat := csz_a hkd
  rw [hcs] at hsr kk
  refine W_size fun hs => ?_
  have hh := heap_eq hW hS C.2.2.2.2.2.2.2.2.2.2.2 hz hs
  have nl : ¬ Int32.ofInt z < 0 := fun h => by have := (i32lt hx in32_0).mp h; omega
  have hK := C.2.2.2.2.2.2.2.1
  have hn : (Int32.ofInt z).toNatClampNeg = z.toNat := i32n hx
  refine W.anew C.1 C.2.1 C.2.2.2.1 (C := RX4) (C.2.2.2.2.1 _ hlk) (va_AO.use C.2.2.2.2.2.2.1) rfl hd rfl nl (by rw [hn]; omega) hcr (by rw [hn]; exact hsr) fun cA kA comp f1 f2 f3 f4 => ?_
  rw [hn]
  generalize hH1 : H.push ({ cls := cA, slots := Array.replicate z.toNat .null, vm := .none } : Cell) = H1
  have z1 : H1.size = H.size + 1 := by rw [← hH1, Array.size_push]
  have e1 : H1[H.size]? = some (arrV cA z.toNat (fun _ => .null)) := by rw [← hH1, Array.getElem?_push_size, ← arrV_new]
  have o1 : ∀ q : Nat, q < H.size → H1[q]? = H[q]? := fun q hq => by rw [← hH1, Array.getElem?_push, if_neg (Nat.ne_of_lt hq)]
  have hat : va_at (gD g) clT (gB g + s.2.1, cel g s (s.2.1 + 1)) H1 := by
    rw [← hh]
    obtain ⟨kA', comp', q1, q2, q3, q4⟩ := (hK.2 3 _ rfl).2
    have ec : cA = gC g 4 := Option.some.inj (f1.symm.trans q4)
    rw [cel_q hkd, ← ec]
    simp only [hasM_new hW.2 (Nat.lt_succ_self _), cond_false]
    exact e1
  have hk := kk H1 locs ls (Wd_new hW hh hat o1) (S_new hS z1 o1) hl hL (okT_c.mpr ⟨trivial, hT2⟩) hSc (by show _ = gB g + (s.2.1 + 1); omega)
  rw [hh]
  exact hk
end NEW
