theorem nx_ok {pc pc' : Nat} {L L' : Lc} {st st' : List AV} {s s' : Sx} (h : nx pc L st s = some (.inl ((pc', (L', st')), s'))) : pc = pc' ∧ L = L' ∧ st = st' ∧ s = s' := by
  unfold nx at h
  cases h
  exact ⟨rfl, rfl, rfl, rfl⟩
theorem ckI_ok {z : Int} {o : Option Rs} {v : Rs} (h : ckI z o = some v) : in32 z ∧ o = some v := by
  unfold ckI at h
  split at h
  · next q => exact ⟨q, h⟩
  · cases h
theorem ckP_ok {b : Bool} {o : Option Rs} {v : Rs} (h : ckP b o = some v) : b = true ∧ o = some v := by
  unfold ckP at h
  cases b with
  | true => exact ⟨rfl, h⟩
  | false => cases h
theorem kdL_ok : (kdL.all fun q => Nat.blt q.2 100000 && Nat.blt q.1 6) = true := by decide +kernel
theorem kd_in (a : Nat) : (kd a).2 < 100000 ∧ (kd a).1 < 6 := by
  unfold kd
  split
  · decide
  · next a =>
    rcases Nat.lt_or_ge a kdL.length with q | q
    · rw [List.getD_eq_getElem?_getD, List.getElem?_eq_getElem q]
      have h := List.all_eq_true.mp kdL_ok _ (List.getElem_mem q)
      simp only [Bool.and_eq_true] at h
      exact ⟨bltN h.1, bltN h.2⟩
    · rw [List.getD_eq_getElem?_getD, List.getElem?_eq_none q]
      decide
theorem kd_lt (a : Nat) : (kd a).2 < 100000 := (kd_in a).1
theorem kd_n9 (a : Nat) {t : Nat} : ¬ (kd a).1 = 9 := fun h => by have := (kd_in a).2; omega
theorem mcall_no {k pc h k' : Nat} {L : Lc} {st : List AV} {s : Sx} (x : Fr × Sx) : ¬ mcall k pc L st s h k' = some (.inl x) := by
  intro e
  unfold mcall at e
  obtain ⟨-, e⟩ := ckP_ok e
  cases hb : Nat.beq h 1 with
  | true =>
    rw [hb] at e
    obtain ⟨-, e⟩ := ckP_ok e
    cases e
  | false =>
    rw [hb] at e
    simp only [cond_false] at e
    split at e
    · obtain ⟨-, e⟩ := ckP_ok e
      cases e
    · cases e
theorem q1I_ok {st : List AV} {f : Int → List AV → Option Rs} {v : Rs} (h : q1I st f = some v) : ∃ x r, st = aI x :: r ∧ f x r = some v := by
  unfold q1I at h
  split at h
  · exact ⟨_, _, rfl, h⟩
  · cases h
theorem q2I_ok {st : List AV} {f : Int → Int → List AV → Option Rs} {v : Rs} (h : q2I st f = some v) : ∃ x y r, st = aI y :: aI x :: r ∧ f x y r = some v := by
  unfold q2I at h
  split at h
  · exact ⟨_, _, _, rfl, h⟩
  · cases h
theorem q2J_ok {st : List AV} {f : Int → Int → List AV → Option Rs} {v : Rs} (h : q2J st f = some v) : ∃ x y r, st = aJ y :: aJ x :: r ∧ f x y r = some v := by
  unfold q2J at h
  split at h
  · exact ⟨_, _, _, rfl, h⟩
  · cases h
theorem qIJ_ok {st : List AV} {f : Int → Int → List AV → Option Rs} {v : Rs} (h : qIJ st f = some v) : ∃ x y r, st = aI y :: aJ x :: r ∧ f x y r = some v := by
  unfold qIJ at h
  split at h
  · exact ⟨_, _, _, rfl, h⟩
  · cases h
theorem q1A_ok {st : List AV} {f : Nat → List AV → Option Rs} {v : Rs} (h : q1A st f = some v) : ∃ a r, st = aA a :: r ∧ f a r = some v := by
  unfold q1A at h
  split at h
  · exact ⟨_, _, rfl, h⟩
  · cases h
theorem q1R_ok {st : List AV} {f : Option Nat → List AV → Option Rs} {v : Rs} (h : q1R st f = some v) : ∃ a r, st = .inr (.inr a) :: r ∧ f a r = some v := by
  unfold q1R at h
  split at h
  · exact ⟨_, _, rfl, h⟩
  · cases h
theorem qIA_ok {st : List AV} {f : Int → Nat → List AV → Option Rs} {v : Rs} (h : qIA st f = some v) : ∃ i a r, st = aI i :: aA a :: r ∧ f i a r = some v := by
  unfold qIA at h
  split at h
  · exact ⟨_, _, _, rfl, h⟩
  · cases h
theorem qAA_ok {st : List AV} {f : Nat → Nat → List AV → Option Rs} {v : Rs} (h : qAA st f = some v) : ∃ i a r, st = aA i :: aA a :: r ∧ f i a r = some v := by
  unfold qAA at h
  split at h
  · exact ⟨_, _, _, rfl, h⟩
  · cases h
theorem qIIA_ok {st : List AV} {f : Int → Int → Nat → List AV → Option Rs} {v : Rs} (h : qIIA st f = some v) : ∃ x i a r, st = aI x :: aI i :: aA a :: r ∧ f x i a r = some v := by
  unfold qIIA at h
  split at h
  · exact ⟨_, _, _, _, rfl, h⟩
  · cases h
theorem qJIA_ok {st : List AV} {f : Int → Int → Nat → List AV → Option Rs} {v : Rs} (h : qJIA st f = some v) : ∃ x i a r, st = aJ x :: aI i :: aA a :: r ∧ f x i a r = some v := by
  unfold qJIA at h
  split at h
  · exact ⟨_, _, _, _, rfl, h⟩
  · cases h
theorem qAIA_ok {st : List AV} {f : Nat → Int → Nat → List AV → Option Rs} {v : Rs} (h : qAIA st f = some v) : ∃ x i a r, st = aA x :: aI i :: aA a :: r ∧ f x i a r = some v := by
  unfold qAIA at h
  split at h
  · exact ⟨_, _, _, _, rfl, h⟩
  · cases h
theorem qcp_ok {st : List AV} {f : Nat → Int → Nat → Int → Int → List AV → Option Rs} {v : Rs} (h : qcp st f = some v) : ∃ a sp b dp z r, st = aI z :: aI dp :: aA b :: aI sp :: aA a :: r ∧ f a sp b dp z r = some v := by
  unfold qcp at h
  split at h
  · exact ⟨_, _, _, _, _, _, rfl, h⟩
  · cases h
theorem jp_ok {pc pc' : Nat} {d : Int} {L L' : Lc} {st st' : List AV} {s s' : Sx} (h : jp pc d L st s = some (.inl ((pc', (L', st')), s'))) : 0 ≤ (pc : Int) + d ∧ ((pc : Int) + d).toNat = pc' ∧ L = L' ∧ st = st' ∧ s = s' := by
  unfold jp at h
  split at h
  · next q => exact ⟨q, nx_ok h⟩
  · cases h
theorem ldv_ok {t : Nat} {L : Lc} {i : Nat} {f : AV → Option Rs} {v : Rs} (h : ldv t L i f = some v) : (t = 0 ∧ ∃ z, L[i]? = some (some (aI z)) ∧ f (aI z) = some v) ∨ (t = 1 ∧ ∃ z, L[i]? = some (some (aJ z)) ∧ f (aJ z) = some v) ∨ (t = 2 ∧ ∃ a, L[i]? = some (some (.inr (.inr a))) ∧ f (.inr (.inr a)) = some v) := by
  unfold ldv at h
  split at h
  · next w hw =>
    split at h
    · next z =>
      cases hb : Nat.beq t 0 with
      | true => rw [hb] at h; exact Or.inl ⟨Nat.eq_of_beq_eq_true hb, z, hw, h⟩
      | false => rw [hb] at h; cases h
    · next z =>
      cases hb : Nat.beq t 1 with
      | true => rw [hb] at h; exact Or.inr (Or.inl ⟨Nat.eq_of_beq_eq_true hb, z, hw, h⟩)
      | false => rw [hb] at h; cases h
    · next z =>
      cases hb : Nat.beq t 2 with
      | true => rw [hb] at h; exact Or.inr (Or.inr ⟨Nat.eq_of_beq_eq_true hb, z, hw, h⟩)
      | false => rw [hb] at h; cases h
  · cases h
theorem Kk_0 {g : Gx} {p : Program} {l : Launch} {e : Env} {R : Room} {u : State} {m : MethodId} {args : Array Value} {below : List Frame} {meth : Method} {c : Code} {Q : State → Prop} {k cells slots pc a b : Nat} {L : Lc} {st : List AV} {s : Sx} (h : Kk g p l e R u m args below meth c Q k (cells + (a - a)) (slots + (b - b)) pc L st s) : Kk g p l e R u m args below meth c Q k cells slots pc L st s := by
  simpa using h
set_option maxHeartbeats 4000000 in
theorem one {g : Gx} {p : Program} {l : Launch} {e : Env} {R : Room} {u : State} {m : MethodId} {args : Array Value} {below : List Frame} {meth : Method} {c : Code} {Q : State → Prop} {k cells slots pc pc' n : Nat} {L L' : Lc} {st st' : List AV} {s s' : Sx} {i : Instr} (C : Cx g p R u m args meth c k) (hi : ins k pc = some (i, n)) (hs : stp k pc L st s i n = some (.inl ((pc', (L', st')), s'))) (hcr : cells + (s'.2.1 - s.2.1) ≤ R.cells) (hsr : slots + (ssum s'.2.1 - ssum s.2.1) ≤ R.slots) (kk : Kk g p l e R u m args below meth c Q k (cells + (s'.2.1 - s.2.1)) (slots + (ssum s'.2.1 - ssum s.2.1)) pc' L' st' s') : Kk g p l e R u m args below meth c Q k cells slots pc L st s := by
  obtain ⟨hd, hn⟩ := ins_ok hi
  cases i with
  | iconst z =>
    unfold stp at hs
    try dsimp only at hs
    have hn := Nat.eq_of_beq_eq_true hn
    subst hn
    obtain ⟨h1, hs⟩ := ckI_ok hs
    obtain ⟨rfl, rfl, rfl, rfl⟩ := nx_ok hs
    exact o_iconst C hd h1 (Kk_0 kk)
  | bipush z =>
    unfold stp at hs
    try dsimp only at hs
    have hn := Nat.eq_of_beq_eq_true hn
    subst hn
    obtain ⟨h1, hs⟩ := ckP_ok hs
    simp only [Bool.and_eq_true, decide_eq_true_eq] at h1
    obtain ⟨rfl, rfl, rfl, rfl⟩ := nx_ok hs
    exact o_bipush C hd h1.1 h1.2 (Kk_0 kk)
  | sipush z =>
    unfold stp at hs
    try dsimp only at hs
    have hn := Nat.eq_of_beq_eq_true hn
    subst hn
    obtain ⟨h1, hs⟩ := ckP_ok hs
    simp only [Bool.and_eq_true, decide_eq_true_eq] at h1
    obtain ⟨rfl, rfl, rfl, rfl⟩ := nx_ok hs
    exact o_sipush C hd h1.1 h1.2 (Kk_0 kk)
  | lconst z =>
    unfold stp at hs
    try dsimp only at hs
    have hn := Nat.eq_of_beq_eq_true hn
    subst hn
    obtain ⟨rfl, rfl, rfl, rfl⟩ := nx_ok hs
    exact o_lconst C hd (Kk_0 kk)
  | ldc j =>
    unfold stp at hs
    try dsimp only at hs
    have hn := Nat.eq_of_beq_eq_true hn
    subst hn
    split at hs
    · next z hz => 
      obtain ⟨rfl, rfl, rfl, rfl⟩ := nx_ok hs
      exact o_ldc C hd hz (Kk_0 kk)
    · cases hs
  | ldc_w j =>
    unfold stp at hs
    try dsimp only at hs
    have hn := Nat.eq_of_beq_eq_true hn
    subst hn
    split at hs
    · next z hz => 
      obtain ⟨rfl, rfl, rfl, rfl⟩ := nx_ok hs
      exact o_ldcw C hd hz (Kk_0 kk)
    · cases hs
  | aconst_null =>
    unfold stp at hs
    try dsimp only at hs
    have hn := Nat.eq_of_beq_eq_true hn
    subst hn
    obtain ⟨rfl, rfl, rfl, rfl⟩ := nx_ok hs
    exact o_null C hd (Kk_0 kk)
  | iload j =>
    unfold stp at hs
    try dsimp only at hs
    have hn := Nat.eq_of_beq_eq_true hn
    subst hn
    rcases ldv_ok hs with ⟨h0, z, hv, hs⟩ | ⟨h0, z, hv, hs⟩ | ⟨h0, z, hv, hs⟩
    · obtain ⟨rfl, rfl, rfl, rfl⟩ := nx_ok hs
      exact o_iload C hd hv (Kk_0 kk)
    · cases h0
    · cases h0
  | iload_n j =>
    unfold stp at hs
    try dsimp only at hs
    have hn := Nat.eq_of_beq_eq_true hn
    subst hn
    rcases ldv_ok hs with ⟨h0, z, hv, hs⟩ | ⟨h0, z, hv, hs⟩ | ⟨h0, z, hv, hs⟩
    · obtain ⟨rfl, rfl, rfl, rfl⟩ := nx_ok hs
      exact o_iload_n C hd hv (Kk_0 kk)
    · cases h0
    · cases h0
  | lload j =>
    unfold stp at hs
    try dsimp only at hs
    have hn := Nat.eq_of_beq_eq_true hn
    subst hn
    rcases ldv_ok hs with ⟨h0, z, hv, hs⟩ | ⟨h0, z, hv, hs⟩ | ⟨h0, z, hv, hs⟩
    · cases h0
    · obtain ⟨rfl, rfl, rfl, rfl⟩ := nx_ok hs
      exact o_lload C hd hv (Kk_0 kk)
    · cases h0
  | lload_n j =>
    unfold stp at hs
    try dsimp only at hs
    have hn := Nat.eq_of_beq_eq_true hn
    subst hn
    rcases ldv_ok hs with ⟨h0, z, hv, hs⟩ | ⟨h0, z, hv, hs⟩ | ⟨h0, z, hv, hs⟩
    · cases h0
    · obtain ⟨rfl, rfl, rfl, rfl⟩ := nx_ok hs
      exact o_lload_n C hd hv (Kk_0 kk)
    · cases h0
  | aload j =>
    unfold stp at hs
    try dsimp only at hs
    have hn := Nat.eq_of_beq_eq_true hn
    subst hn
    rcases ldv_ok hs with ⟨h0, z, hv, hs⟩ | ⟨h0, z, hv, hs⟩ | ⟨h0, z, hv, hs⟩
    · cases h0
    · cases h0
    · obtain ⟨rfl, rfl, rfl, rfl⟩ := nx_ok hs
      exact o_aload C hd hv (Kk_0 kk)
  | aload_n j =>
    unfold stp at hs
    try dsimp only at hs
    have hn := Nat.eq_of_beq_eq_true hn
    subst hn
    rcases ldv_ok hs with ⟨h0, z, hv, hs⟩ | ⟨h0, z, hv, hs⟩ | ⟨h0, z, hv, hs⟩
    · cases h0
    · cases h0
    · obtain ⟨rfl, rfl, rfl, rfl⟩ := nx_ok hs
      exact o_aload_n C hd hv (Kk_0 kk)
  | istore j =>
    unfold stp at hs
    try dsimp only at hs
    have hn := Nat.eq_of_beq_eq_true hn
    subst hn
    obtain ⟨h1, hs⟩ := ckP_ok hs
    obtain ⟨x, r, rfl, hs⟩ := q1I_ok hs
    obtain ⟨rfl, rfl, rfl, rfl⟩ := nx_ok hs
    exact o_istore C hd (bltN h1) (Kk_0 kk)
  | lstore j =>
    unfold stp at hs
    try dsimp only at hs
    have hn := Nat.eq_of_beq_eq_true hn
    subst hn
    obtain ⟨h1, hs⟩ := ckP_ok hs
    split at hs
    · obtain ⟨rfl, rfl, rfl, rfl⟩ := nx_ok hs
      exact o_lstore C hd (bltN h1) (Kk_0 kk)
    · cases hs
  | astore j =>
    unfold stp at hs
    try dsimp only at hs
    have hn := Nat.eq_of_beq_eq_true hn
    subst hn
    obtain ⟨h1, hs⟩ := ckP_ok hs
    obtain ⟨x, r, rfl, hs⟩ := q1R_ok hs
    obtain ⟨rfl, rfl, rfl, rfl⟩ := nx_ok hs
    exact o_astore C hd (bltN h1) (Kk_0 kk)
  | istore_n j =>
    unfold stp at hs
    try dsimp only at hs
    have hn := Nat.eq_of_beq_eq_true hn
    subst hn
    obtain ⟨h1, hs⟩ := ckP_ok hs
    obtain ⟨x, r, rfl, hs⟩ := q1I_ok hs
    obtain ⟨rfl, rfl, rfl, rfl⟩ := nx_ok hs
    exact o_istore_n C hd (bltN h1) (Kk_0 kk)
  | lstore_n j =>
    unfold stp at hs
    try dsimp only at hs
    have hn := Nat.eq_of_beq_eq_true hn
    subst hn
    obtain ⟨h1, hs⟩ := ckP_ok hs
    split at hs
    · obtain ⟨rfl, rfl, rfl, rfl⟩ := nx_ok hs
      exact o_lstore_n C hd (bltN h1) (Kk_0 kk)
    · cases hs
  | astore_n j =>
    unfold stp at hs
    try dsimp only at hs
    have hn := Nat.eq_of_beq_eq_true hn
    subst hn
    obtain ⟨h1, hs⟩ := ckP_ok hs
    obtain ⟨x, r, rfl, hs⟩ := q1R_ok hs
    obtain ⟨rfl, rfl, rfl, rfl⟩ := nx_ok hs
    exact o_astore_n C hd (bltN h1) (Kk_0 kk)
  | iinc j d =>
    unfold stp at hs
    try dsimp only at hs
    have hn := Nat.eq_of_beq_eq_true hn
    subst hn
    obtain ⟨h1, hs⟩ := ckP_ok hs
    split at hs
    · next x hx =>
      obtain ⟨h2, hs⟩ := ckI_ok hs
      obtain ⟨rfl, rfl, rfl, rfl⟩ := nx_ok hs
      exact o_iinc C hd (bltN h1) hx h2 (Kk_0 kk)
    · cases hs
  | iadd =>
    unfold stp at hs
    try dsimp only at hs
    have hn := Nat.eq_of_beq_eq_true hn
    subst hn
    obtain ⟨x, y, r, rfl, hs⟩ := q2I_ok hs
    obtain ⟨h1, hs⟩ := ckI_ok hs
    obtain ⟨rfl, rfl, rfl, rfl⟩ := nx_ok hs
    exact o_iadd C hd h1 (Kk_0 kk)
  | isub =>
    unfold stp at hs
    try dsimp only at hs
    have hn := Nat.eq_of_beq_eq_true hn
    subst hn
    obtain ⟨x, y, r, rfl, hs⟩ := q2I_ok hs
    obtain ⟨h1, hs⟩ := ckI_ok hs
    obtain ⟨rfl, rfl, rfl, rfl⟩ := nx_ok hs
    exact o_isub C hd h1 (Kk_0 kk)
  | imul =>
    unfold stp at hs
    try dsimp only at hs
    have hn := Nat.eq_of_beq_eq_true hn
    subst hn
    obtain ⟨x, y, r, rfl, hs⟩ := q2I_ok hs
    obtain ⟨h1, hs⟩ := ckI_ok hs
    obtain ⟨rfl, rfl, rfl, rfl⟩ := nx_ok hs
    exact o_imul C hd h1 (Kk_0 kk)
  | idiv =>
    unfold stp at hs
    try dsimp only at hs
    have hn := Nat.eq_of_beq_eq_true hn
    subst hn
    obtain ⟨x, y, r, rfl, hs⟩ := q2I_ok hs
    obtain ⟨h0, hs⟩ := ckP_ok hs
    obtain ⟨h1, hs⟩ := ckI_ok hs
    obtain ⟨rfl, rfl, rfl, rfl⟩ := nx_ok hs
    exact o_idiv C hd (by simpa using h0) h1 (Kk_0 kk)
  | irem =>
    unfold stp at hs
    try dsimp only at hs
    have hn := Nat.eq_of_beq_eq_true hn
    subst hn
    obtain ⟨x, y, r, rfl, hs⟩ := q2I_ok hs
    obtain ⟨h0, hs⟩ := ckP_ok hs
    obtain ⟨h1, hs⟩ := ckI_ok hs
    obtain ⟨h2, hs⟩ := ckI_ok hs
    obtain ⟨rfl, rfl, rfl, rfl⟩ := nx_ok hs
    exact o_irem C hd (by simpa using h0) h2 (Kk_0 kk)
  | iand =>
    unfold stp at hs
    try dsimp only at hs
    have hn := Nat.eq_of_beq_eq_true hn
    subst hn
    obtain ⟨x, y, r, rfl, hs⟩ := q2I_ok hs
    obtain ⟨rfl, rfl, rfl, rfl⟩ := nx_ok hs
    exact o_b32 (fun a b => a &&& b) (fun H locs ls rest w => lv_iand C.1 C.2.1 hd w) (Kk_0 kk)
  | ior =>
    unfold stp at hs
    try dsimp only at hs
    have hn := Nat.eq_of_beq_eq_true hn
    subst hn
    obtain ⟨x, y, r, rfl, hs⟩ := q2I_ok hs
    obtain ⟨rfl, rfl, rfl, rfl⟩ := nx_ok hs
    exact o_b32 (fun a b => a ||| b) (fun H locs ls rest w => lv_ior C.1 C.2.1 hd w) (Kk_0 kk)
  | ixor =>
    unfold stp at hs
    try dsimp only at hs
    have hn := Nat.eq_of_beq_eq_true hn
    subst hn
    obtain ⟨x, y, r, rfl, hs⟩ := q2I_ok hs
    obtain ⟨rfl, rfl, rfl, rfl⟩ := nx_ok hs
    exact o_b32 (fun a b => a ^^^ b) (fun H locs ls rest w => lv_ixor C.1 C.2.1 hd w) (Kk_0 kk)
  | ishl =>
    unfold stp at hs
    try dsimp only at hs
    have hn := Nat.eq_of_beq_eq_true hn
    subst hn
    obtain ⟨x, y, r, rfl, hs⟩ := q2I_ok hs
    obtain ⟨rfl, rfl, rfl, rfl⟩ := nx_ok hs
    exact o_b32 (fun a b => a <<< (b &&& 31)) (fun H locs ls rest w => lv_ishl C.1 C.2.1 hd w) (Kk_0 kk)
  | ishr =>
    unfold stp at hs
    try dsimp only at hs
    have hn := Nat.eq_of_beq_eq_true hn
    subst hn
    obtain ⟨x, y, r, rfl, hs⟩ := q2I_ok hs
    obtain ⟨rfl, rfl, rfl, rfl⟩ := nx_ok hs
    exact o_b32 (fun a b => a >>> (b &&& 31)) (fun H locs ls rest w => lv_ishr C.1 C.2.1 hd w) (Kk_0 kk)
  | iushr =>
    unfold stp at hs
    try dsimp only at hs
    have hn := Nat.eq_of_beq_eq_true hn
    subst hn
    obtain ⟨x, y, r, rfl, hs⟩ := q2I_ok hs
    obtain ⟨rfl, rfl, rfl, rfl⟩ := nx_ok hs
    exact o_b32 (fun a b => (a.toUInt32 >>> (b.toUInt32 &&& Int32.toUInt32 31)).toInt32) (fun H locs ls rest w => lv_iushr C.1 C.2.1 hd rfl w) (Kk_0 kk)
  | land =>
    unfold stp at hs
    try dsimp only at hs
    have hn := Nat.eq_of_beq_eq_true hn
    subst hn
    obtain ⟨x, y, r, rfl, hs⟩ := q2J_ok hs
    obtain ⟨rfl, rfl, rfl, rfl⟩ := nx_ok hs
    exact o_b64 (fun a b => a &&& b) (fun H locs ls rest w => lv_land C.1 C.2.1 hd w) (Kk_0 kk)
  | lor =>
    unfold stp at hs
    try dsimp only at hs
    have hn := Nat.eq_of_beq_eq_true hn
    subst hn
    obtain ⟨x, y, r, rfl, hs⟩ := q2J_ok hs
    obtain ⟨rfl, rfl, rfl, rfl⟩ := nx_ok hs
    exact o_b64 (fun a b => a ||| b) (fun H locs ls rest w => lv_lor C.1 C.2.1 hd w) (Kk_0 kk)
  | lshl =>
    unfold stp at hs
    try dsimp only at hs
    have hn := Nat.eq_of_beq_eq_true hn
    subst hn
    obtain ⟨x, y, r, rfl, hs⟩ := qIJ_ok hs
    obtain ⟨rfl, rfl, rfl, rfl⟩ := nx_ok hs
    exact o_s64 (fun a b => a <<< b) (fun H locs ls rest w => lv_lshl C.1 C.2.1 hd rfl w) (Kk_0 kk)
  | lshr =>
    unfold stp at hs
    try dsimp only at hs
    have hn := Nat.eq_of_beq_eq_true hn
    subst hn
    obtain ⟨x, y, r, rfl, hs⟩ := qIJ_ok hs
    obtain ⟨rfl, rfl, rfl, rfl⟩ := nx_ok hs
    exact o_s64 (fun a b => a >>> b) (fun H locs ls rest w => lv_lshr C.1 C.2.1 hd rfl w) (Kk_0 kk)
  | lcmp =>
    unfold stp at hs
    try dsimp only at hs
    have hn := Nat.eq_of_beq_eq_true hn
    subst hn
    obtain ⟨x, y, r, rfl, hs⟩ := q2J_ok hs
    obtain ⟨rfl, rfl, rfl, rfl⟩ := nx_ok hs
    exact o_lcmp C hd (Kk_0 kk)
  | dup =>
    unfold stp at hs
    try dsimp only at hs
    have hn := Nat.eq_of_beq_eq_true hn
    subst hn
    split at hs
    · obtain ⟨h1, hs⟩ := ckP_ok hs
      obtain ⟨rfl, rfl, rfl, rfl⟩ := nx_ok hs
      exact o_dup C hd (Nat.eq_of_beq_eq_true h1) (Kk_0 kk)
    · cases hs
  | pop =>
    unfold stp at hs
    try dsimp only at hs
    have hn := Nat.eq_of_beq_eq_true hn
    subst hn
    split at hs
    · obtain ⟨h1, hs⟩ := ckP_ok hs
      obtain ⟨rfl, rfl, rfl, rfl⟩ := nx_ok hs
      exact o_pop C hd (Nat.eq_of_beq_eq_true h1) (Kk_0 kk)
    · cases hs
  | dup2 =>
    unfold stp at hs
    try dsimp only at hs
    have hn := Nat.eq_of_beq_eq_true hn
    subst hn
    split at hs
    · obtain ⟨h1, hs⟩ := ckP_ok hs
      simp only [Bool.and_eq_true] at h1
      obtain ⟨rfl, rfl, rfl, rfl⟩ := nx_ok hs
      exact o_dup2 C hd (Nat.eq_of_beq_eq_true h1.1) (Nat.eq_of_beq_eq_true h1.2) (Kk_0 kk)
    · cases hs
  | goto d =>
    unfold stp at hs
    try dsimp only at hs
    have hn := Nat.eq_of_beq_eq_true hn
    subst hn
    obtain ⟨h0, rfl, rfl, rfl, rfl⟩ := jp_ok hs
    exact o_goto C hd (tgt_ok h0) (Kk_0 kk)
  | ifCond cc d =>
    unfold stp at hs
    try dsimp only at hs
    have hn := Nat.eq_of_beq_eq_true hn
    subst hn
    obtain ⟨x, r, rfl, hs⟩ := q1I_ok hs
    obtain ⟨h0, hs⟩ := ckP_ok hs
    have h0 := of_decide_eq_true h0
    refine o_if C hd h0 (fun h1 => ?_) (fun h1 => ?_)
    · rw [h1] at hs; obtain ⟨rfl, rfl, rfl, rfl⟩ := nx_ok hs; exact Kk_0 kk
    · rw [h1] at hs; obtain ⟨rfl, rfl, rfl, rfl⟩ := nx_ok hs; exact Kk_0 kk
  | if_icmp cc d =>
    unfold stp at hs
    try dsimp only at hs
    have hn := Nat.eq_of_beq_eq_true hn
    subst hn
    obtain ⟨x, y, r, rfl, hs⟩ := q2I_ok hs
    obtain ⟨h0, hs⟩ := ckP_ok hs
    have h0 := of_decide_eq_true h0
    refine o_icmp C hd h0 (fun h1 => ?_) (fun h1 => ?_)
    · rw [h1] at hs; obtain ⟨rfl, rfl, rfl, rfl⟩ := nx_ok hs; exact Kk_0 kk
    · rw [h1] at hs; obtain ⟨rfl, rfl, rfl, rfl⟩ := nx_ok hs; exact Kk_0 kk
  | ifnull d =>
    unfold stp at hs
    try dsimp only at hs
    have hn := Nat.eq_of_beq_eq_true hn
    subst hn
    obtain ⟨a, r, rfl, hs⟩ := q1R_ok hs
    cases a with
    | none => obtain ⟨h0, rfl, rfl, rfl, rfl⟩ := jp_ok hs; exact o_ifnull_n C hd h0 (Kk_0 kk)
    | some a => obtain ⟨rfl, rfl, rfl, rfl⟩ := nx_ok hs; exact o_ifnull_s C hd (Kk_0 kk)
  | ifnonnull d =>
    unfold stp at hs
    try dsimp only at hs
    have hn := Nat.eq_of_beq_eq_true hn
    subst hn
    obtain ⟨a, r, rfl, hs⟩ := q1R_ok hs
    cases a with
    | none => obtain ⟨rfl, rfl, rfl, rfl⟩ := nx_ok hs; exact o_ifnonnull_n C hd (Kk_0 kk)
    | some a => obtain ⟨h0, rfl, rfl, rfl, rfl⟩ := jp_ok hs; exact o_ifnonnull_s C hd h0 (Kk_0 kk)
  | tableswitch df lo h9 os =>
    unfold stp at hs
    try dsimp only at hs
    obtain ⟨x, r, e0, hs1⟩ := q1I_ok hs
    clear hs
    subst e0
    have hs := hs1
    clear hs1
    cases hb : (decide (x < lo) || decide (h9 < x)) with
    | true =>
      rw [hb] at hs
      obtain ⟨h0, rfl, rfl, rfl, rfl⟩ := jp_ok hs
      exact o_tabOut C hd (by simpa using hb) h0 (Kk_0 kk)
    | false =>
      rw [hb] at hs
      simp only [Bool.or_eq_false_iff, decide_eq_false_iff_not] at hb
      simp only [cond_false] at hs
      split at hs
      · next o ho =>
        obtain ⟨h0, rfl, rfl, rfl, rfl⟩ := jp_ok hs
        exact o_tabIn C hd hb.1 hb.2 ho h0 (Kk_0 kk)
      · cases hs
  | lookupswitch df ps =>
    unfold stp at hs
    try dsimp only at hs
    obtain ⟨x, r, rfl, hs⟩ := q1I_ok hs
    obtain ⟨h1, hs⟩ := ckP_ok hs
    obtain ⟨h0, rfl, rfl, rfl, rfl⟩ := jp_ok hs
    exact o_look C hd h1 h0 (Kk_0 kk)
  | getfield j =>
    unfold stp at hs
    try dsimp only at hs
    have hn := Nat.eq_of_beq_eq_true hn
    subst hn
    skip
    split at hs
    · cases hs
    · next ci f hf =>
      obtain ⟨a, r, rfl, hs⟩ := q1A_ok hs
      obtain ⟨h1, hs⟩ := ckP_ok hs
      cases hb : Nat.beq (ft ci f) 2 with
      | true =>
        rw [hb] at hs
        obtain ⟨h2, hs⟩ := ckP_ok hs
        obtain ⟨rfl, rfl, rfl, rfl⟩ := nx_ok hs
        exact o_getr C hd hf h1 hb h2 (Kk_0 kk)
      | false =>
        rw [hb] at hs
        obtain ⟨rfl, rfl, rfl, rfl⟩ := nx_ok hs
        exact o_geti C hd hf h1 hb (Kk_0 kk)
  | putfield j =>
    unfold stp at hs
    try dsimp only at hs
    have hn := Nat.eq_of_beq_eq_true hn
    subst hn
    skip
    split at hs
    · cases hs
    · next ci f hf =>
      cases hb : Nat.beq (ft ci f) 2 with
      | true =>
        rw [hb] at hs
        obtain ⟨v, a, r, e0, hs2⟩ := qAA_ok hs
        clear hs
        subst e0
        obtain ⟨h1, hs3⟩ := ckP_ok hs2
        clear hs2
        simp only [Bool.and_eq_true] at h1
        obtain ⟨rfl, rfl, rfl, rfl⟩ := nx_ok hs3
        exact o_putr C hd hf h1.1.1.1.1 hb (Nat.eq_of_beq_eq_true h1.1.1.1.2) (Nat.eq_of_beq_eq_true h1.1.1.2) (Nat.eq_of_beq_eq_true h1.1.2) (Kk_0 kk)
      | false =>
        rw [hb] at hs
        obtain ⟨x, a, r, rfl, hs⟩ := qIA_ok hs
        obtain ⟨h1, hs⟩ := ckP_ok hs
        simp only [Bool.and_eq_true, Bool.or_eq_true, decide_eq_true_eq] at h1
        obtain ⟨rfl, rfl, rfl, rfl⟩ := nx_ok hs
        refine o_puti C hd hf h1.1 ?_ (Kk_0 kk)
        rcases h1.2 with q | q
        · exact Or.inl (Nat.eq_of_beq_eq_true q)
        · by_cases h0 : ft ci f = 0
          · exact Or.inl h0
          · refine Or.inr ⟨?_, q⟩
            obtain ⟨-, g2, -, g4, -⟩ := fl_ok hf
            obtain ⟨-, -, -, -, -, -, c7, -⟩ := cls_ok ci g4
            have h7 := c7 f g2
            unfold tyB at h7
            split at h7
            · next e0 _ => exact absurd e0 h0
            · next e0 _ => exact e0
            · next e0 _ => rw [e0] at hb; cases hb
            · next e0 _ => rw [e0] at hb; cases hb
            · cases h7
  | iaload =>
    unfold stp at hs
    try dsimp only at hs
    have hn := Nat.eq_of_beq_eq_true hn
    subst hn
    obtain ⟨j, a, r, rfl, hs⟩ := qIA_ok hs
    cases a with
    | zero =>
      obtain ⟨h1, hs⟩ := ckP_ok hs
      simp only [Bool.and_eq_true] at h1
      obtain ⟨rfl, rfl, rfl, rfl⟩ := nx_ok hs
      exact o_ials C hd (Nat.eq_of_beq_eq_true h1.1) (inb_ok h1.2) (Kk_0 kk)
    | succ a =>
      obtain ⟨h1, hs⟩ := ckP_ok hs
      simp only [Bool.and_eq_true] at h1
      obtain ⟨rfl, rfl, rfl, rfl⟩ := nx_ok hs
      exact o_iald C hd h1.1 (inb_ok h1.2) (Kk_0 kk)
  | baload =>
    unfold stp at hs
    try dsimp only at hs
    have hn := Nat.eq_of_beq_eq_true hn
    subst hn
    obtain ⟨j, a, r, rfl, hs⟩ := qIA_ok hs
    obtain ⟨h1, hs⟩ := ckP_ok hs
    simp only [Bool.and_eq_true] at h1
    obtain ⟨rfl, rfl, rfl, rfl⟩ := nx_ok hs
    exact o_bald C hd h1.1 (inb_ok h1.2) (Kk_0 kk)
  | laload =>
    unfold stp at hs
    try dsimp only at hs
    have hn := Nat.eq_of_beq_eq_true hn
    subst hn
    obtain ⟨j, a, r, rfl, hs⟩ := qIA_ok hs
    obtain ⟨h1, hs⟩ := ckP_ok hs
    simp only [Bool.and_eq_true] at h1
    obtain ⟨rfl, rfl, rfl, rfl⟩ := nx_ok hs
    exact o_lald C hd h1.1 (inb_ok h1.2) (Kk_0 kk)
  | aaload =>
    unfold stp at hs
    try dsimp only at hs
    have hn := Nat.eq_of_beq_eq_true hn
    subst hn
    obtain ⟨j, a, r, rfl, hs⟩ := qIA_ok hs
    obtain ⟨h1, hs⟩ := ckP_ok hs
    simp only [Bool.and_eq_true] at h1
    obtain ⟨rfl, rfl, rfl, rfl⟩ := nx_ok hs
    exact o_aald C hd h1.1.1 (inb_ok h1.1.2) h1.2 (Kk_0 kk)
  | iastore =>
    unfold stp at hs
    try dsimp only at hs
    have hn := Nat.eq_of_beq_eq_true hn
    subst hn
    obtain ⟨x, j, a, r, rfl, hs⟩ := qIIA_ok hs
    obtain ⟨h1, hs⟩ := ckP_ok hs
    simp only [Bool.and_eq_true] at h1
    obtain ⟨rfl, rfl, rfl, rfl⟩ := nx_ok hs
    exact o_iast C hd h1.1 (inb_ok h1.2) (Kk_0 kk)
  | bastore =>
    unfold stp at hs
    try dsimp only at hs
    have hn := Nat.eq_of_beq_eq_true hn
    subst hn
    obtain ⟨x, j, a, r, rfl, hs⟩ := qIIA_ok hs
    obtain ⟨h1, hs⟩ := ckP_ok hs
    simp only [Bool.and_eq_true, Bool.or_eq_true, decide_eq_true_eq] at h1
    obtain ⟨rfl, rfl, rfl, rfl⟩ := nx_ok hs
    exact o_bast C hd h1.1.1 (inb_ok h1.1.2) h1.2 (Kk_0 kk)
  | lastore =>
    unfold stp at hs
    try dsimp only at hs
    have hn := Nat.eq_of_beq_eq_true hn
    subst hn
    obtain ⟨x, j, a, r, rfl, hs⟩ := qJIA_ok hs
    obtain ⟨h1, hs⟩ := ckP_ok hs
    simp only [Bool.and_eq_true] at h1
    obtain ⟨rfl, rfl, rfl, rfl⟩ := nx_ok hs
    exact o_last C hd h1.1 (inb_ok h1.2) (Kk_0 kk)
  | aastore =>
    unfold stp at hs
    try dsimp only at hs
    have hn := Nat.eq_of_beq_eq_true hn
    subst hn
    obtain ⟨x, j, a, r, rfl, hs⟩ := qAIA_ok hs
    obtain ⟨h1, hs⟩ := ckP_ok hs
    simp only [Bool.and_eq_true] at h1
    obtain ⟨rfl, rfl, rfl, rfl⟩ := nx_ok hs
    exact o_aast C hd h1.1.1.1 (inb_ok h1.1.1.2) (Nat.eq_of_beq_eq_true h1.1.2) h1.2 (Kk_0 kk)
  | arraylength =>
    unfold stp at hs
    try dsimp only at hs
    have hn := Nat.eq_of_beq_eq_true hn
    subst hn
    obtain ⟨a, r, rfl, hs⟩ := q1A_ok hs
    cases a with
    | zero =>
      obtain ⟨h1, hs⟩ := ckP_ok hs
      obtain ⟨rfl, rfl, rfl, rfl⟩ := nx_ok hs
      exact o_lens C hd (Nat.eq_of_beq_eq_true h1) (Kk_0 kk)
    | succ a =>
      obtain ⟨h1, hs⟩ := ckP_ok hs
      obtain ⟨rfl, rfl, rfl, rfl⟩ := nx_ok hs
      exact o_alen C hd h1 (kd_lt _) (Kk_0 kk)
  | new j =>
    unfold stp at hs
    try dsimp only at hs
    have hn := Nat.eq_of_beq_eq_true hn
    subst hn
    skip
    split at hs
    · cases hs
    · next ci hc =>
      obtain ⟨h1, hs⟩ := ckP_ok hs
      obtain ⟨rfl, rfl, rfl, rfl⟩ := nx_ok hs
      have e1 : (sN s).2.1 - s.2.1 = 1 := by show s.2.1 + 1 - s.2.1 = 1; omega
      have e2 : ssum (sN s).2.1 - ssum s.2.1 = csz (s.2.1 + 1) := by show ssum s.2.1 + csz (s.2.1 + 1) - ssum s.2.1 = _; omega
      rw [e1] at hcr; rw [e2] at hsr; rw [e1, e2] at kk
      exact o_new C hd hc (of_decide_eq_true h1) hcr hsr kk
  | newarray t =>
    unfold stp at hs
    try dsimp only at hs
    have hn := Nat.eq_of_beq_eq_true hn
    subst hn
    obtain ⟨z, r, rfl, hs⟩ := q1I_ok hs
    obtain ⟨h1, hs⟩ := ckP_ok hs
    simp only [Bool.and_eq_true, decide_eq_true_eq] at h1
    obtain ⟨rfl, rfl, rfl, rfl⟩ := nx_ok hs
    have e1 : (sN s).2.1 - s.2.1 = 1 := by show s.2.1 + 1 - s.2.1 = 1; omega
    have e2 : ssum (sN s).2.1 - ssum s.2.1 = csz (s.2.1 + 1) := by show ssum s.2.1 + csz (s.2.1 + 1) - ssum s.2.1 = _; omega
    rw [e1] at hcr; rw [e2] at hsr; rw [e1, e2] at kk
    obtain ⟨⟨h0, h9⟩, h2⟩ := h1
    cases t with
    | int => exact o_newa C hd h0 h9 (Or.inl ⟨rfl, rfl⟩) h2 hcr hsr kk
    | boolean => exact o_newa C hd h0 h9 (Or.inr (Or.inl ⟨rfl, rfl⟩)) h2 hcr hsr kk
    | long => exact o_newa C hd h0 h9 (Or.inr (Or.inr ⟨rfl, rfl⟩)) h2 hcr hsr kk
    | _ => exact absurd (congrArg Prod.fst h2) (kd_n9 (t := 0) _)
  | anewarray j =>
    unfold stp at hs
    try dsimp only at hs
    have hn := Nat.eq_of_beq_eq_true hn
    subst hn
    obtain ⟨z, r, rfl, hs⟩ := q1I_ok hs
    obtain ⟨h1, hs⟩ := ckP_ok hs
    simp only [Bool.and_eq_true, decide_eq_true_eq] at h1
    obtain ⟨rfl, rfl, rfl, rfl⟩ := nx_ok hs
    have e1 : (sN s).2.1 - s.2.1 = 1 := by show s.2.1 + 1 - s.2.1 = 1; omega
    have e2 : ssum (sN s).2.1 - ssum s.2.1 = csz (s.2.1 + 1) := by show ssum s.2.1 + csz (s.2.1 + 1) - ssum s.2.1 = _; omega
    rw [e1] at hcr; rw [e2] at hsr; rw [e1, e2] at kk
    exact o_anew C hd h1.1.1.1 h1.1.1.2 h1.1.2 h1.2 hcr hsr kk
  | invokevirtual j =>
    unfold stp at hs
    try dsimp only at hs
    have hn := Nat.eq_of_beq_eq_true hn
    subst hn
    skip
    split at hs
    · cases hs
    · exact absurd hs (mcall_no _)
  | invokespecial j =>
    unfold stp at hs
    try dsimp only at hs
    have hn := Nat.eq_of_beq_eq_true hn
    subst hn
    skip
    split at hs
    · cases hs
    · next k' b hm =>
      cases hb : Nat.beq k' 1000 with
      | true =>
        rw [hb] at hs
        obtain ⟨a, r, rfl, hs⟩ := q1A_ok hs
        obtain ⟨h1, hs⟩ := ckP_ok hs
        simp only [Bool.and_eq_true, Nat.ble_eq] at h1
        obtain ⟨rfl, rfl, rfl, rfl⟩ := nx_ok hs
        have e9 := Nat.eq_of_beq_eq_true hb
        subst e9
        rcases ml_ok hm with ⟨-, h⟩ | ⟨h, -⟩ | ⟨h, -⟩ | ⟨h, -⟩
        · exact o_obj C hd h h1.1 h1.2 (Kk_0 kk)
        · cases h
        · cases h
        · exact absurd rfl h
      | false =>
        rw [hb] at hs
        exact absurd hs (mcall_no _)
  | invokestatic j =>
    unfold stp at hs
    try dsimp only at hs
    have hn := Nat.eq_of_beq_eq_true hn
    subst hn
    skip
    split at hs
    · cases hs
    · next k' b hm =>
      cases hb : Nat.beq k' 1001 with
      | true =>
        rw [hb] at hs
        obtain ⟨a, sp, q, dp, z, r, rfl, hs⟩ := qcp_ok hs
        obtain ⟨h1, hs⟩ := ckP_ok hs
        simp only [Bool.and_eq_true, Nat.ble_eq, decide_eq_true_eq] at h1
        obtain ⟨rfl, rfl, rfl, rfl⟩ := nx_ok hs
        obtain ⟨⟨⟨⟨⟨⟨g1, g2⟩, ⟨g3, g4⟩, g5⟩, g6⟩, g7⟩, g8⟩, g9⟩ := h1
        have e9 := Nat.eq_of_beq_eq_true hb
        subst e9
        rcases ml_ok hm with ⟨h, -⟩ | ⟨-, h⟩ | ⟨h, -⟩ | ⟨-, h, -⟩
        · cases h
        · exact o_copy C hd h g1 g2 g3 g4 g5 g6 g7 g8 g9 (Kk_0 kk)
        · cases h
        · exact absurd rfl h
      | false =>
        rw [hb] at hs
        simp only [cond_false] at hs
        cases hb2 : Nat.beq k' 1002 with
        | true =>
          rw [hb2] at hs
          obtain ⟨x, y, r, rfl, hs⟩ := q2I_ok hs
          obtain ⟨h1, hs⟩ := ckP_ok hs
          simp only [Bool.and_eq_true, Nat.ble_eq] at h1
          obtain ⟨rfl, rfl, rfl, rfl⟩ := nx_ok hs
          have e9 := Nat.eq_of_beq_eq_true hb2
          subst e9
          rcases ml_ok hm with ⟨h, -⟩ | ⟨h, -⟩ | ⟨-, h⟩ | ⟨-, -, h, -⟩
          · cases h
          · cases h
          · exact o_max C hd h h1.1 h1.2 (by omega) (by omega) (Kk_0 kk)
          · exact absurd rfl h
        | false =>
          rw [hb2] at hs
          exact absurd hs (mcall_no _)
  | ireturn =>
    unfold stp at hs
    try dsimp only at hs
    split at hs
    · obtain ⟨h1, hs⟩ := ckP_ok hs; cases hs
    · cases hs
  | lreturn =>
    unfold stp at hs
    try dsimp only at hs
    split at hs
    · obtain ⟨h1, hs⟩ := ckP_ok hs; cases hs
    · cases hs
  | areturn =>
    unfold stp at hs
    try dsimp only at hs
    split at hs
    · obtain ⟨h1, hs⟩ := ckP_ok hs; cases hs
    · cases hs
  | return_ =>
    unfold stp at hs
    try dsimp only at hs
    split at hs
    · obtain ⟨h1, hs⟩ := ckP_ok hs; cases hs
    · cases hs
  | _ => unfold stp at hs; cases hs
