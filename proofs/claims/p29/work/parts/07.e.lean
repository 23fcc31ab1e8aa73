section ONE
variable {g : Gx} {p : Program} {l : Launch} {e : Env} {R : Room} {u : State} {m : MethodId} {args : Array Value} {below : List Frame} {meth : Method} {c : Code} {Q : State → Prop} {k cells slots pc : Nat} {L : Lc} {st r : List AV} {s : Sx}
theorem o_ials (C : Cx g p R u m args meth c k) {i : Int} (hd : decode (codeK k) pc = .ok (.iaload, 1)) (hk : k = 0) (hi : 0 ≤ i ∧ i < s.2.2.2) (kk : Kk g p l e R u m args below meth c Q k cells slots (pc + 1) L (aI (s.1 0 i.toNat) :: r) s) : Kk g p l e R u m args below meth c Q k cells slots pc L (aI i :: aA 0 :: r) s := by
  intro H locs ls hW hS hl hL hT hSc hz
  obtain ⟨hx, hT2⟩ := okT_c.mp hT
  obtain ⟨q1, q2, q3⟩ := hSc hk
  refine va_sld C.1 C.2.1 q1 q2 (A := bse g) q3 hS (i32in hx hi.1 hi.2) hd ?_
  rw [i32n hx]
  exact kk H locs ls hW hS hl hL (okT_c.mpr ⟨hW.2.2.1 0 _ (by decide), (okT_c.mp hT2).2⟩) hSc hz
theorem o_iald (C : Cx g p R u m args meth c k) {i : Int} {a : Nat} (hd : decode (codeK k) pc = .ok (.iaload, 1)) (ha : onA a s 1 (kd a).2 = true) (hi : 0 ≤ i ∧ i < (kd a).2) (kk : Kk g p l e R u m args below meth c Q k cells slots (pc + 1) L (aI (s.1 a i.toNat) :: r) s) : Kk g p l e R u m args below meth c Q k cells slots pc L (aI i :: aA a :: r) s := by
  intro H locs ls hW hS hl hL hT hSc hz
  obtain ⟨hx, hT2⟩ := okT_c.mp hT
  obtain ⟨a1, a2, a3⟩ := onA_ok ha
  have he := ws_get (g := g) (s := s) a2 a3
  rw [cel_i a1] at he
  refine va_iald C.1 C.2.1 C.2.2.2.2.2.2.2.1 hW.1 (a - 1) 0 he rfl (i32in hx hi.1 hi.2) hd ?_
  rw [i32n hx]
  exact kk H locs ls hW hS hl hL (okT_c.mpr ⟨hW.2.2.1 a _ (kd_ne a1 (by decide)), (okT_c.mp hT2).2⟩) hSc hz
theorem o_bald (C : Cx g p R u m args meth c k) {i : Int} {a : Nat} (hd : decode (codeK k) pc = .ok (.baload, 1)) (ha : onA a s 2 (kd a).2 = true) (hi : 0 ≤ i ∧ i < (kd a).2) (kk : Kk g p l e R u m args below meth c Q k cells slots (pc + 1) L (aI (s.1 a i.toNat) :: r) s) : Kk g p l e R u m args below meth c Q k cells slots pc L (aI i :: aA a :: r) s := by
  intro H locs ls hW hS hl hL hT hSc hz
  obtain ⟨hx, hT2⟩ := okT_c.mp hT
  obtain ⟨a1, a2, a3⟩ := onA_ok ha
  have he := ws_get (g := g) (s := s) a2 a3
  rw [cel_z a1] at he
  refine va_zald C.1 C.2.1 C.2.2.2.2.2.2.2.1 hW.1 (a - 1) 1 he rfl (i32in hx hi.1 hi.2) hd ?_
  rw [i32n hx]
  exact kk H locs ls hW hS hl hL (okT_c.mpr ⟨hW.2.2.1 a _ (kd_ne a1 (by decide)), (okT_c.mp hT2).2⟩) hSc hz
theorem o_lald (C : Cx g p R u m args meth c k) {i : Int} {a : Nat} (hd : decode (codeK k) pc = .ok (.laload, 1)) (ha : onA a s 3 (kd a).2 = true) (hi : 0 ≤ i ∧ i < (kd a).2) (kk : Kk g p l e R u m args below meth c Q k cells slots (pc + 1) L (aJ (s.1 a i.toNat) :: r) s) : Kk g p l e R u m args below meth c Q k cells slots pc L (aI i :: aA a :: r) s := by
  intro H locs ls hW hS hl hL hT hSc hz
  obtain ⟨hx, hT2⟩ := okT_c.mp hT
  obtain ⟨a1, a2, a3⟩ := onA_ok ha
  have he := ws_get (g := g) (s := s) a2 a3
  rw [cel_j a1] at he
  refine va_lald C.1 C.2.1 C.2.2.2.2.2.2.2.1 hW.1 (a - 1) 2 he rfl (i32in hx hi.1 hi.2) hd ?_
  rw [i32n hx]
  exact kk H locs ls hW hS hl hL (okT_c.mpr ⟨hW.2.1 a _ (by rw [a1]), (okT_c.mp hT2).2⟩) hSc hz
theorem upd_up {a i : Nat} {x : Int} : (fun j => Int32.ofInt ((sM s (up2 s.1 a i x)).1 a j)) = upd (fun j => Int32.ofInt (s.1 a j)) i (Int32.ofInt x) := by
  funext j
  show Int32.ofInt (up2 s.1 a i x a j) = if j = i then _ else _
  rw [up2_r]
  split <;> rfl
theorem updL_up {a i : Nat} {x : Int} : (fun j => Int64.ofInt ((sM s (up2 s.1 a i x)).1 a j)) = vp_updL (fun j => Int64.ofInt (s.1 a j)) i (Int64.ofInt x) := by
  funext j
  show Int64.ofInt (up2 s.1 a i x a j) = if j = i then _ else _
  rw [up2_r]
  split <;> rfl
theorem o_iast (C : Cx g p R u m args meth c k) {i x : Int} {a : Nat} (hd : decode (codeK k) pc = .ok (.iastore, 1)) (ha : onA a s 1 (kd a).2 = true) (hi : 0 ≤ i ∧ i < (kd a).2) (kk : Kk g p l e R u m args below meth c Q k cells slots (pc + 1) L r (sM s (up2 s.1 a i.toNat x))) : Kk g p l e R u m args below meth c Q k cells slots pc L (aI x :: aI i :: aA a :: r) s := by
  intro H locs ls hW hS hl hL hT hSc hz
  obtain ⟨hx, hT2⟩ := okT_c.mp hT
  obtain ⟨hj, hT3⟩ := okT_c.mp hT2
  obtain ⟨a1, a2, a3⟩ := onA_ok ha
  have he := ws_get (g := g) (s := s) a2 a3
  rw [cel_i a1] at he
  refine va_iast C.1 C.2.1 C.2.2.2.2.2.2.2.1 hW.1 (ws_D g s) hS (a - 1) 0 he rfl (i32in hj hi.1 hi.2) hd fun H1 locs1 hP1 hD1 hS1 => ?_
  rw [i32n hj] at hP1
  refine kk H1 locs1 ls (Wd_set (s := s) (a := a) rfl a2 a3 (fun b hb => cel_up hb) ?_ (okS_up hW.2 a3 (fun q => by rw [a1] at q; cases q) (fun _ => hx)) hP1) hS1 hl hL (okT_c.mp hT3).2 (sc_up hSc a2) hz
  rw [cel_i a1, upd_up]
theorem o_bast (C : Cx g p R u m args meth c k) {i x : Int} {a : Nat} (hd : decode (codeK k) pc = .ok (.bastore, 1)) (ha : onA a s 2 (kd a).2 = true) (hi : 0 ≤ i ∧ i < (kd a).2) (h01 : x = 0 ∨ x = 1) (kk : Kk g p l e R u m args below meth c Q k cells slots (pc + 1) L r (sM s (up2 s.1 a i.toNat x))) : Kk g p l e R u m args below meth c Q k cells slots pc L (aI x :: aI i :: aA a :: r) s := by
  intro H locs ls hW hS hl hL hT hSc hz
  obtain ⟨hx, hT2⟩ := okT_c.mp hT
  obtain ⟨hj, hT3⟩ := okT_c.mp hT2
  obtain ⟨a1, a2, a3⟩ := onA_ok ha
  have he := ws_get (g := g) (s := s) a2 a3
  rw [cel_z a1] at he
  have hnar : vp_nar .boolean (Int32.ofInt x) = Int32.ofInt x := by rcases h01 with rfl | rfl <;> decide
  refine va_zast C.1 C.2.1 C.2.2.2.2.2.2.2.1 hW.1 (ws_D g s) hS (a - 1) 1 he rfl (x := Int32.ofInt x) (i32in hj hi.1 hi.2) hd fun H1 locs1 hP1 hD1 hS1 => ?_
  rw [i32n hj, hnar] at hP1
  refine kk H1 locs1 ls (Wd_set (s := s) (a := a) rfl a2 a3 (fun b hb => cel_up hb) ?_ (okS_up hW.2 a3 (fun q => by rw [a1] at q; cases q) (fun _ => hx)) hP1) hS1 hl hL (okT_c.mp hT3).2 (sc_up hSc a2) hz
  rw [cel_z a1, upd_up]
theorem o_last (C : Cx g p R u m args meth c k) {i x : Int} {a : Nat} (hd : decode (codeK k) pc = .ok (.lastore, 1)) (ha : onA a s 3 (kd a).2 = true) (hi : 0 ≤ i ∧ i < (kd a).2) (kk : Kk g p l e R u m args below meth c Q k cells slots (pc + 1) L r (sM s (up2 s.1 a i.toNat x))) : Kk g p l e R u m args below meth c Q k cells slots pc L (aJ x :: aI i :: aA a :: r) s := by
  intro H locs ls hW hS hl hL hT hSc hz
  obtain ⟨hx, hT2⟩ := okT_c.mp hT
  obtain ⟨hj, hT3⟩ := okT_c.mp hT2
  obtain ⟨a1, a2, a3⟩ := onA_ok ha
  have he := ws_get (g := g) (s := s) a2 a3
  rw [cel_j a1] at he
  refine va_last C.1 C.2.1 C.2.2.2.2.2.2.2.1 hW.1 (ws_D g s) hS (a - 1) 2 he rfl (i32in hj hi.1 hi.2) hd fun H1 locs1 hP1 hD1 hS1 => ?_
  rw [i32n hj] at hP1
  refine kk H1 locs1 ls (Wd_set (s := s) (a := a) rfl a2 a3 (fun b hb => cel_up hb) ?_ (okS_up hW.2 a3 (fun _ => hx) (fun q => by rw [a1] at q; exact absurd rfl q)) hP1) hS1 hl hL (okT_c.mp hT3).2 (sc_up hSc a2) hz
  rw [cel_j a1, updL_up]
theorem o_aald (C : Cx g p R u m args meth c k) {i : Int} {a : Nat} (hd : decode (codeK k) pc = .ok (.aaload, 1)) (ha : onA a s 4 (kd a).2 = true) (hi : 0 ≤ i ∧ i < (kd a).2) (hm : hasM s a i.toNat = true) (kk : Kk g p l e R u m args below meth c Q k cells slots (pc + 1) L (aA (tgA i.toNat) :: r) s) : Kk g p l e R u m args below meth c Q k cells slots pc L (aI i :: aA a :: r) s := by
  intro H locs ls hW hS hl hL hT hSc hz
  obtain ⟨hx, hT2⟩ := okT_c.mp hT
  obtain ⟨a1, a2, a3⟩ := onA_ok ha
  have he := ws_get (g := g) (s := s) a2 a3
  rw [cel_q a1] at he
  refine va_aldq C.1 C.2.1 C.2.2.2.2.2.2.2.1 hW.1 (a - 1) 3 he rfl (i32in hx hi.1 hi.2) hd ?_
  rw [i32n hx, hm]
  exact kk H locs ls hW hS hl hL (okT_c.mpr ⟨trivial, (okT_c.mp hT2).2⟩) hSc hz
theorem o_aast (C : Cx g p R u m args meth c k) {i : Int} {a v : Nat} (hd : decode (codeK k) pc = .ok (.aastore, 1)) (ha : onA a s 4 (kd a).2 = true) (hi : 0 ≤ i ∧ i < (kd a).2) (hv : v = tgA i.toNat) (hov : onA v s 0 4 = true) (kk : Kk g p l e R u m args below meth c Q k cells slots (pc + 1) L r (sK s a i.toNat)) : Kk g p l e R u m args below meth c Q k cells slots pc L (aA v :: aI i :: aA a :: r) s := by
  intro H locs ls hW hS hl hL hT hSc hz
  obtain ⟨-, hT2⟩ := okT_c.mp hT
  obtain ⟨hj, hT3⟩ := okT_c.mp hT2
  obtain ⟨a1, a2, a3⟩ := onA_ok ha
  obtain ⟨v1, v2, v3⟩ := onA_ok hov
  have he := ws_get (g := g) (s := s) a2 a3
  rw [cel_q a1] at he
  have hev := ws_get (g := g) (s := s) v2 v3
  rw [cel_o v1] at hev
  refine va_astq C.1 C.2.1 C.2.2.2.2.2.2.2.1 hW.1 (ws_D g s) hS (a - 1) 3 (v - 1) 4 he (r := clG 4) rfl hev rfl (i32in hj hi.1 hi.2) hd fun H1 locs1 hP1 hD1 hS1 => ?_
  rw [i32n hj] at hP1
  have hok : okS (sK s a i.toNat) := ⟨hW.2.1, hW.2.2.1, hW.2.2.2.1, fun q hq => by
    rcases List.mem_cons.mp hq with rfl | h
    · exact a3
    · exact hW.2.2.2.2.1 q h, hW.2.2.2.2.2⟩
  refine kk H1 locs1 ls (Wd_set (s := s) (a := a) rfl a2 a3 (fun b hb => cel_sK hb) ?_ hok hP1) hS1 hl hL (okT_c.mp hT3).2 hSc hz
  rw [cel_q a1]
  have : (fun j => bif hasM (sK s a i.toNat) a j then some (ad g (tgA j)) else none) = va_up (fun j => bif hasM s a j then some (ad g (tgA j)) else none) i.toNat (some (ad g v)) := by
    funext j
    show _ = if j = i.toNat then _ else _
    rw [hasM_sK, show Nat.beq a a = true from Nat.beq_refl a]
    by_cases hj2 : j = i.toNat
    · subst hj2
      rw [if_pos rfl, show Nat.beq i.toNat i.toNat = true from Nat.beq_refl _, hv]
      rfl
    · rw [if_neg hj2, show Nat.beq i.toNat j = false from beqN (fun q => hj2 q.symm)]
      rfl
  rw [this]
theorem o_lens (C : Cx g p R u m args meth c k) (hd : decode (codeK k) pc = .ok (.arraylength, 1)) (hk : k = 0) (kk : Kk g p l e R u m args below meth c Q k cells slots (pc + 1) L (aI s.2.2.2 :: r) s) : Kk g p l e R u m args below meth c Q k cells slots pc L (aA 0 :: r) s := by
  intro H locs ls hW hS hl hL hT hSc hz
  obtain ⟨-, hT2⟩ := okT_c.mp hT
  obtain ⟨q1, q2, q3⟩ := hSc hk
  refine va_slen C.1 C.2.1 q1 q2 (A := bse g) q3 hS hd ?_
  exact kk H locs ls hW hS hl hL (okT_c.mpr ⟨⟨by omega, by have := hW.2.2.2.2.2; omega⟩, hT2⟩) hSc hz
theorem o_alen (C : Cx g p R u m args meth c k) {a : Nat} (hd : decode (codeK k) pc = .ok (.arraylength, 1)) (ha : onA a s 1 (kd a).2 = true) (hb : (kd a).2 < 100000) (kk : Kk g p l e R u m args below meth c Q k cells slots (pc + 1) L (aI (kd a).2 :: r) s) : Kk g p l e R u m args below meth c Q k cells slots pc L (aA a :: r) s := by
  intro H locs ls hW hS hl hL hT hSc hz
  obtain ⟨-, hT2⟩ := okT_c.mp hT
  obtain ⟨a1, a2, a3⟩ := onA_ok ha
  have he := ws_get (g := g) (s := s) a2 a3
  rw [cel_i a1] at he
  exact va_alen C.1 C.2.1 C.2.2.2.2.2.2.2.1 hW.1 (a - 1) 0 he rfl rfl hd (kk H locs ls hW hS hl hL (okT_c.mpr ⟨⟨by omega, by omega⟩, hT2⟩) hSc hz)
theorem o_copy (C : Cx g p R u m args meth c k) {i a b : Nat} {sp dp z : Int} (hd : decode (codeK k) pc = .ok (.invokestatic i, 3)) (hlk : Cond.methodLink (cnm (own k)) i arraycopyName ∈ gw) (ha : onA a s 1 (kd a).2 = true) (hb : onA b s 1 (kd b).2 = true) (h1 : 0 ≤ sp) (h2 : 0 ≤ dp) (h3 : 0 ≤ z) (h4 : sp + z ≤ (kd a).2) (h5 : dp + z ≤ (kd b).2) (hf : 1 ≤ frr k) (hlo : wsum r + 18 ≤ lor k) (kk : Kk g p l e R u m args below meth c Q k cells slots (pc + 3) L r (sM s (cpm s.1 a sp.toNat b dp.toNat z.toNat))) : Kk g p l e R u m args below meth c Q k cells slots pc L (aI z :: aI dp :: aA b :: aI sp :: aA a :: r) s := by
  intro H locs ls hW hS hl hL hT hSc hz
  obtain ⟨hzz, hT2⟩ := okT_c.mp hT
  obtain ⟨hdp, hT3⟩ := okT_c.mp hT2
  obtain ⟨-, hT4⟩ := okT_c.mp hT3
  obtain ⟨hsp, hT5⟩ := okT_c.mp hT4
  obtain ⟨-, hT6⟩ := okT_c.mp hT5
  obtain ⟨a1, a2, a3⟩ := onA_ok ha
  obtain ⟨b1, b2, b3⟩ := onA_ok hb
  have hea := ws_get (g := g) (s := s) a2 a3
  rw [cel_i a1] at hea
  have heb := ws_get (g := g) (s := s) b2 b3
  rw [cel_i b1] at heb
  have hfr := C.2.2.2.2.2.2.2.2.1
  have hlr := C.2.2.2.2.2.2.2.2.2.1
  have hcat : ((r.map (cv g)).map fun v => v.category).sum = wsum r := by
    unfold wsum
    rw [List.map_map]
    congr 1
    apply List.map_congr_left
    intro v _
    exact cv_cat g v
  have nl : ∀ {x : Int}, in32 x → 0 ≤ x → ¬ Int32.ofInt x < 0 := fun hx h0 h => by
    have := (i32lt hx in32_0).mp h
    omega
  refine va_copyi C.1 C.2.1 (by rw [C.2.2.1]; exact hl.1.symm) C.2.2.2.1 (C.2.2.2.2.1 _ hlk) (C.2.2.2.2.1 _ gx_2) (C.2.2.2.2.1 _ gx_3) (C.2.2.2.2.1 _ gx_0) C.2.2.2.2.2.2.2.1 hW.1 (ws_D g s) hS (a - 1) (b - 1) 0 0 hea heb rfl rfl rfl (nl hsp h1) (nl hdp h2) (nl hzz h3) (by rw [i32n hsp, i32n hzz]; omega) (by rw [i32n hdp, i32n hzz]; omega) (fun _ _ => rfl) (by omega) (by rw [hcat]; show _ + (7 + 11) ≤ _; omega) hd fun H1 locs1 hP1 hD1 hS1 => ?_
  rw [i32n hsp, i32n hdp, i32n hzz] at hP1
  refine kk H1 locs1 ls (Wd_set (s := s) (a := b) rfl b2 b3 (fun q hq => cel_congr (fun i => ?_) (fun _ => rfl)) ?_ (okS_cp hW.2 b3 (kd_ne a1 (by decide)) (kd_ne b1 (by decide))) hP1) hS1 hl hL hT6 ?_ hz
  · show cpm s.1 a _ b _ _ q i = _
    unfold cpm
    rw [if_neg hq]
  · rw [cel_i b1]
    have : (fun j => Int32.ofInt ((sM s (cpm s.1 a sp.toNat b dp.toNat z.toNat)).1 b j)) = va_cpy (fun j => Int32.ofInt (s.1 a j)) (fun j => Int32.ofInt (s.1 b j)) sp.toNat dp.toNat z.toNat := by
      funext j
      show Int32.ofInt (cpm s.1 a sp.toNat b dp.toNat z.toNat b j) = if _ then _ else _
      unfold cpm
      rw [if_pos rfl]
      split <;> rfl
    rw [this]
  · intro hk
    have h1 := hSc hk
    have e1 : (fun j' => Int32.ofInt ((sM s (cpm s.1 a sp.toNat b dp.toNat z.toNat)).1 0 j')) = fun j' => Int32.ofInt (s.1 0 j') := by
      funext j'
      show Int32.ofInt (cpm s.1 a _ b _ _ 0 j') = _
      unfold cpm
      rw [if_neg (by omega)]
    rw [e1]
    exact h1
theorem hcat_of (g : Gx) (r : List AV) : ((r.map (cv g)).map fun v => v.category).sum = wsum r := by
  unfold wsum
  rw [List.map_map]
  congr 1
  apply List.map_congr_left
  intro v _
  exact cv_cat g v
theorem o_max (C : Cx g p R u m args meth c k) {i : Nat} {x y : Int} (hd : decode (codeK k) pc = .ok (.invokestatic i, 3)) (hlk : Cond.methodLink (cnm (own k)) i Lib.Math.max.name ∈ gw) (hf : 1 ≤ frr k) (hlo : wsum r + 13 ≤ lor k) (hcr : cells ≤ R.cells) (hsr : slots ≤ R.slots) (kk : Kk g p l e R u m args below meth c Q k cells slots (pc + 3) L (aI (if x < y then y else x) :: r) s) : Kk g p l e R u m args below meth c Q k cells slots pc L (aI y :: aI x :: r) s := by
  intro H locs ls hW hS hl hL hT hSc hz
  obtain ⟨hy, hT2⟩ := okT_c.mp hT
  obtain ⟨hx, hT3⟩ := okT_c.mp hT2
  have hfr := C.2.2.2.2.2.2.2.2.1
  have hlr := C.2.2.2.2.2.2.2.2.2.1
  refine va_mmax C.1 C.2.1 (by rw [C.2.2.1]; exact hl.1.symm) C.2.2.2.1 (C.2.2.2.2.1 _ hlk) (C.2.2.2.2.1 _ gx_4) (C.2.2.2.2.1 _ gx_1) (C.2.2.2.2.1 _ gy_0) (by omega) (by rw [hcat_of]; omega) hcr hsr hd ?_
  have e1 : (if Int32.ofInt x < Int32.ofInt y then Int32.ofInt y else Int32.ofInt x) = Int32.ofInt (if x < y then y else x) := by
    by_cases h : x < y
    · rw [if_pos h, if_pos ((i32lt hx hy).mpr h)]
    · rw [if_neg h, if_neg (fun q => h ((i32lt hx hy).mp q))]
  rw [e1]
  refine kk H locs ls hW hS hl hL (okT_c.mpr ⟨?_, hT3⟩) hSc hz
  show in32 _
  split
  · exact hy
  · exact hx
theorem o_obj (C : Cx g p R u m args meth c k) {i a : Nat} (hd : decode (codeK k) pc = .ok (.invokespecial i, 3)) (hlk : Cond.methodLink (cnm (own k)) i objectInit ∈ gw) (hf : 1 ≤ frr k) (hlo : wsum r + 12 ≤ lor k) (kk : Kk g p l e R u m args below meth c Q k cells slots (pc + 3) L r s) : Kk g p l e R u m args below meth c Q k cells slots pc L (aA a :: r) s := by
  intro H locs ls hW hS hl hL hT hSc hz
  have hfr := C.2.2.2.2.2.2.2.2.1
  have hlr := C.2.2.2.2.2.2.2.2.2.1
  refine W.objInit C.1 C.2.1 C.2.2.2.1 (C.2.2.2.2.1 _ hlk) (C.2.2.2.2.1 _ gx_5) (C.2.2.2.2.1 _ gy_1) rfl (by rw [C.2.2.1]; exact hl.1) rfl hd (by omega) ?_ ?_
  · rw [hcat_of]
    show 2 * 0 + _ + 12 ≤ _
    omega
  · exact kk H locs ls hW hS hl hL (okT_c.mp hT).2 hSc hz
end ONE
