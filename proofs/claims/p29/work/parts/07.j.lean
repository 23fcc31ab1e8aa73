set_option maxHeartbeats 4000000 in
/-- the script stays -/
theorem stp_scr {k pc pc' n : Nat} {L L' : Lc} {st st' : List AV} {s s' : Sx} {i : Instr} (hs : stp k pc L st s i n = some (.inl ((pc', (L', st')), s'))) : s'.2.2.2 = s.2.2.2 ∧ ∀ j, s'.1 0 j = s.1 0 j := by
  cases i with
  | iconst z =>
    unfold stp at hs
    try dsimp only at hs
    obtain ⟨h1, hs⟩ := ckI_ok hs
    obtain ⟨rfl, rfl, rfl, rfl⟩ := nx_ok hs
    exact ⟨rfl, fun _ => rfl⟩
  | bipush z =>
    unfold stp at hs
    try dsimp only at hs
    obtain ⟨h1, hs⟩ := ckP_ok hs
    simp only [Bool.and_eq_true, decide_eq_true_eq] at h1
    obtain ⟨rfl, rfl, rfl, rfl⟩ := nx_ok hs
    exact ⟨rfl, fun _ => rfl⟩
  | sipush z =>
    unfold stp at hs
    try dsimp only at hs
    obtain ⟨h1, hs⟩ := ckP_ok hs
    simp only [Bool.and_eq_true, decide_eq_true_eq] at h1
    obtain ⟨rfl, rfl, rfl, rfl⟩ := nx_ok hs
    exact ⟨rfl, fun _ => rfl⟩
  | lconst z =>
    unfold stp at hs
    try dsimp only at hs
    obtain ⟨rfl, rfl, rfl, rfl⟩ := nx_ok hs
    exact ⟨rfl, fun _ => rfl⟩
  | ldc j =>
    unfold stp at hs
    try dsimp only at hs
    split at hs
    · next z hz => 
      obtain ⟨rfl, rfl, rfl, rfl⟩ := nx_ok hs
      exact ⟨rfl, fun _ => rfl⟩
    · cases hs
  | ldc_w j =>
    unfold stp at hs
    try dsimp only at hs
    split at hs
    · next z hz => 
      obtain ⟨rfl, rfl, rfl, rfl⟩ := nx_ok hs
      exact ⟨rfl, fun _ => rfl⟩
    · cases hs
  | aconst_null =>
    unfold stp at hs
    try dsimp only at hs
    obtain ⟨rfl, rfl, rfl, rfl⟩ := nx_ok hs
    exact ⟨rfl, fun _ => rfl⟩
  | iload j =>
    unfold stp at hs
    try dsimp only at hs
    rcases ldv_ok hs with ⟨h0, z, hv, hs⟩ | ⟨h0, z, hv, hs⟩ | ⟨h0, z, hv, hs⟩
    · obtain ⟨rfl, rfl, rfl, rfl⟩ := nx_ok hs
      exact ⟨rfl, fun _ => rfl⟩
    · cases h0
    · cases h0
  | iload_n j =>
    unfold stp at hs
    try dsimp only at hs
    rcases ldv_ok hs with ⟨h0, z, hv, hs⟩ | ⟨h0, z, hv, hs⟩ | ⟨h0, z, hv, hs⟩
    · obtain ⟨rfl, rfl, rfl, rfl⟩ := nx_ok hs
      exact ⟨rfl, fun _ => rfl⟩
    · cases h0
    · cases h0
  | lload j =>
    unfold stp at hs
    try dsimp only at hs
    rcases ldv_ok hs with ⟨h0, z, hv, hs⟩ | ⟨h0, z, hv, hs⟩ | ⟨h0, z, hv, hs⟩
    · cases h0
    · obtain ⟨rfl, rfl, rfl, rfl⟩ := nx_ok hs
      exact ⟨rfl, fun _ => rfl⟩
    · cases h0
  | lload_n j =>
    unfold stp at hs
    try dsimp only at hs
    rcases ldv_ok hs with ⟨h0, z, hv, hs⟩ | ⟨h0, z, hv, hs⟩ | ⟨h0, z, hv, hs⟩
    · cases h0
    · obtain ⟨rfl, rfl, rfl, rfl⟩ := nx_ok hs
      exact ⟨rfl, fun _ => rfl⟩
    · cases h0
  | aload j =>
    unfold stp at hs
    try dsimp only at hs
    rcases ldv_ok hs with ⟨h0, z, hv, hs⟩ | ⟨h0, z, hv, hs⟩ | ⟨h0, z, hv, hs⟩
    · cases h0
    · cases h0
    · obtain ⟨rfl, rfl, rfl, rfl⟩ := nx_ok hs
      exact ⟨rfl, fun _ => rfl⟩
  | aload_n j =>
    unfold stp at hs
    try dsimp only at hs
    rcases ldv_ok hs with ⟨h0, z, hv, hs⟩ | ⟨h0, z, hv, hs⟩ | ⟨h0, z, hv, hs⟩
    · cases h0
    · cases h0
    · obtain ⟨rfl, rfl, rfl, rfl⟩ := nx_ok hs
      exact ⟨rfl, fun _ => rfl⟩
  | istore j =>
    unfold stp at hs
    try dsimp only at hs
    obtain ⟨h1, hs⟩ := ckP_ok hs
    obtain ⟨x, r, rfl, hs⟩ := q1I_ok hs
    obtain ⟨rfl, rfl, rfl, rfl⟩ := nx_ok hs
    exact ⟨rfl, fun _ => rfl⟩
  | lstore j =>
    unfold stp at hs
    try dsimp only at hs
    obtain ⟨h1, hs⟩ := ckP_ok hs
    split at hs
    · obtain ⟨rfl, rfl, rfl, rfl⟩ := nx_ok hs
      exact ⟨rfl, fun _ => rfl⟩
    · cases hs
  | astore j =>
    unfold stp at hs
    try dsimp only at hs
    obtain ⟨h1, hs⟩ := ckP_ok hs
    obtain ⟨x, r, rfl, hs⟩ := q1R_ok hs
    obtain ⟨rfl, rfl, rfl, rfl⟩ := nx_ok hs
    exact ⟨rfl, fun _ => rfl⟩
  | istore_n j =>
    unfold stp at hs
    try dsimp only at hs
    obtain ⟨h1, hs⟩ := ckP_ok hs
    obtain ⟨x, r, rfl, hs⟩ := q1I_ok hs
    obtain ⟨rfl, rfl, rfl, rfl⟩ := nx_ok hs
    exact ⟨rfl, fun _ => rfl⟩
  | lstore_n j =>
    unfold stp at hs
    try dsimp only at hs
    obtain ⟨h1, hs⟩ := ckP_ok hs
    split at hs
    · obtain ⟨rfl, rfl, rfl, rfl⟩ := nx_ok hs
      exact ⟨rfl, fun _ => rfl⟩
    · cases hs
  | astore_n j =>
    unfold stp at hs
    try dsimp only at hs
    obtain ⟨h1, hs⟩ := ckP_ok hs
    obtain ⟨x, r, rfl, hs⟩ := q1R_ok hs
    obtain ⟨rfl, rfl, rfl, rfl⟩ := nx_ok hs
    exact ⟨rfl, fun _ => rfl⟩
  | iinc j d =>
    unfold stp at hs
    try dsimp only at hs
    obtain ⟨h1, hs⟩ := ckP_ok hs
    split at hs
    · next x hx =>
      obtain ⟨h2, hs⟩ := ckI_ok hs
      obtain ⟨rfl, rfl, rfl, rfl⟩ := nx_ok hs
      exact ⟨rfl, fun _ => rfl⟩
    · cases hs
  | iadd =>
    unfold stp at hs
    try dsimp only at hs
    obtain ⟨x, y, r, rfl, hs⟩ := q2I_ok hs
    obtain ⟨h1, hs⟩ := ckI_ok hs
    obtain ⟨rfl, rfl, rfl, rfl⟩ := nx_ok hs
    exact ⟨rfl, fun _ => rfl⟩
  | isub =>
    unfold stp at hs
    try dsimp only at hs
    obtain ⟨x, y, r, rfl, hs⟩ := q2I_ok hs
    obtain ⟨h1, hs⟩ := ckI_ok hs
    obtain ⟨rfl, rfl, rfl, rfl⟩ := nx_ok hs
    exact ⟨rfl, fun _ => rfl⟩
  | imul =>
    unfold stp at hs
    try dsimp only at hs
    obtain ⟨x, y, r, rfl, hs⟩ := q2I_ok hs
    obtain ⟨h1, hs⟩ := ckI_ok hs
    obtain ⟨rfl, rfl, rfl, rfl⟩ := nx_ok hs
    exact ⟨rfl, fun _ => rfl⟩
  | idiv =>
    unfold stp at hs
    try dsimp only at hs
    obtain ⟨x, y, r, rfl, hs⟩ := q2I_ok hs
    obtain ⟨h0, hs⟩ := ckP_ok hs
    obtain ⟨h1, hs⟩ := ckI_ok hs
    obtain ⟨rfl, rfl, rfl, rfl⟩ := nx_ok hs
    exact ⟨rfl, fun _ => rfl⟩
  | irem =>
    unfold stp at hs
    try dsimp only at hs
    obtain ⟨x, y, r, rfl, hs⟩ := q2I_ok hs
    obtain ⟨h0, hs⟩ := ckP_ok hs
    obtain ⟨h1, hs⟩ := ckI_ok hs
    obtain ⟨h2, hs⟩ := ckI_ok hs
    obtain ⟨rfl, rfl, rfl, rfl⟩ := nx_ok hs
    exact ⟨rfl, fun _ => rfl⟩
  | iand =>
    unfold stp at hs
    try dsimp only at hs
    obtain ⟨x, y, r, rfl, hs⟩ := q2I_ok hs
    obtain ⟨rfl, rfl, rfl, rfl⟩ := nx_ok hs
    exact ⟨rfl, fun _ => rfl⟩
  | ior =>
    unfold stp at hs
    try dsimp only at hs
    obtain ⟨x, y, r, rfl, hs⟩ := q2I_ok hs
    obtain ⟨rfl, rfl, rfl, rfl⟩ := nx_ok hs
    exact ⟨rfl, fun _ => rfl⟩
  | ixor =>
    unfold stp at hs
    try dsimp only at hs
    obtain ⟨x, y, r, rfl, hs⟩ := q2I_ok hs
    obtain ⟨rfl, rfl, rfl, rfl⟩ := nx_ok hs
    exact ⟨rfl, fun _ => rfl⟩
  | ishl =>
    unfold stp at hs
    try dsimp only at hs
    obtain ⟨x, y, r, rfl, hs⟩ := q2I_ok hs
    obtain ⟨rfl, rfl, rfl, rfl⟩ := nx_ok hs
    exact ⟨rfl, fun _ => rfl⟩
  | ishr =>
    unfold stp at hs
    try dsimp only at hs
    obtain ⟨x, y, r, rfl, hs⟩ := q2I_ok hs
    obtain ⟨rfl, rfl, rfl, rfl⟩ := nx_ok hs
    exact ⟨rfl, fun _ => rfl⟩
  | iushr =>
    unfold stp at hs
    try dsimp only at hs
    obtain ⟨x, y, r, rfl, hs⟩ := q2I_ok hs
    obtain ⟨rfl, rfl, rfl, rfl⟩ := nx_ok hs
    exact ⟨rfl, fun _ => rfl⟩
  | land =>
    unfold stp at hs
    try dsimp only at hs
    obtain ⟨x, y, r, rfl, hs⟩ := q2J_ok hs
    obtain ⟨rfl, rfl, rfl, rfl⟩ := nx_ok hs
    exact ⟨rfl, fun _ => rfl⟩
  | lor =>
    unfold stp at hs
    try dsimp only at hs
    obtain ⟨x, y, r, rfl, hs⟩ := q2J_ok hs
    obtain ⟨rfl, rfl, rfl, rfl⟩ := nx_ok hs
    exact ⟨rfl, fun _ => rfl⟩
  | lshl =>
    unfold stp at hs
    try dsimp only at hs
    obtain ⟨x, y, r, rfl, hs⟩ := qIJ_ok hs
    obtain ⟨rfl, rfl, rfl, rfl⟩ := nx_ok hs
    exact ⟨rfl, fun _ => rfl⟩
  | lshr =>
    unfold stp at hs
    try dsimp only at hs
    obtain ⟨x, y, r, rfl, hs⟩ := qIJ_ok hs
    obtain ⟨rfl, rfl, rfl, rfl⟩ := nx_ok hs
    exact ⟨rfl, fun _ => rfl⟩
  | lcmp =>
    unfold stp at hs
    try dsimp only at hs
    obtain ⟨x, y, r, rfl, hs⟩ := q2J_ok hs
    obtain ⟨rfl, rfl, rfl, rfl⟩ := nx_ok hs
    exact ⟨rfl, fun _ => rfl⟩
  | dup =>
    unfold stp at hs
    try dsimp only at hs
    split at hs
    · obtain ⟨h1, hs⟩ := ckP_ok hs
      obtain ⟨rfl, rfl, rfl, rfl⟩ := nx_ok hs
      exact ⟨rfl, fun _ => rfl⟩
    · cases hs
  | pop =>
    unfold stp at hs
    try dsimp only at hs
    split at hs
    · obtain ⟨h1, hs⟩ := ckP_ok hs
      obtain ⟨rfl, rfl, rfl, rfl⟩ := nx_ok hs
      exact ⟨rfl, fun _ => rfl⟩
    · cases hs
  | dup2 =>
    unfold stp at hs
    try dsimp only at hs
    split at hs
    · obtain ⟨h1, hs⟩ := ckP_ok hs
      simp only [Bool.and_eq_true] at h1
      obtain ⟨rfl, rfl, rfl, rfl⟩ := nx_ok hs
      exact ⟨rfl, fun _ => rfl⟩
    · cases hs
  | goto d =>
    unfold stp at hs
    try dsimp only at hs
    obtain ⟨h0, rfl, rfl, rfl, rfl⟩ := jp_ok hs
    exact ⟨rfl, fun _ => rfl⟩
  | ifCond cc d =>
    unfold stp at hs
    try dsimp only at hs
    obtain ⟨x, r, rfl, hs⟩ := q1I_ok hs
    obtain ⟨h0, hs⟩ := ckP_ok hs
    have h0 := of_decide_eq_true h0
    cases h1 : cmpb cc x 0 with
    | true => rw [h1] at hs; obtain ⟨rfl, rfl, rfl, rfl⟩ := nx_ok hs; exact ⟨rfl, fun _ => rfl⟩
    | false => rw [h1] at hs; obtain ⟨rfl, rfl, rfl, rfl⟩ := nx_ok hs; exact ⟨rfl, fun _ => rfl⟩
  | if_icmp cc d =>
    unfold stp at hs
    try dsimp only at hs
    obtain ⟨x, y, r, rfl, hs⟩ := q2I_ok hs
    obtain ⟨h0, hs⟩ := ckP_ok hs
    have h0 := of_decide_eq_true h0
    cases h1 : cmpb cc x y with
    | true => rw [h1] at hs; obtain ⟨rfl, rfl, rfl, rfl⟩ := nx_ok hs; exact ⟨rfl, fun _ => rfl⟩
    | false => rw [h1] at hs; obtain ⟨rfl, rfl, rfl, rfl⟩ := nx_ok hs; exact ⟨rfl, fun _ => rfl⟩
  | ifnull d =>
    unfold stp at hs
    try dsimp only at hs
    obtain ⟨a, r, rfl, hs⟩ := q1R_ok hs
    cases a with
    | none => obtain ⟨h0, rfl, rfl, rfl, rfl⟩ := jp_ok hs; exact ⟨rfl, fun _ => rfl⟩
    | some a => obtain ⟨rfl, rfl, rfl, rfl⟩ := nx_ok hs; exact ⟨rfl, fun _ => rfl⟩
  | ifnonnull d =>
    unfold stp at hs
    try dsimp only at hs
    obtain ⟨a, r, rfl, hs⟩ := q1R_ok hs
    cases a with
    | none => obtain ⟨rfl, rfl, rfl, rfl⟩ := nx_ok hs; exact ⟨rfl, fun _ => rfl⟩
    | some a => obtain ⟨h0, rfl, rfl, rfl, rfl⟩ := jp_ok hs; exact ⟨rfl, fun _ => rfl⟩
  | tableswitch df lo h9 os =>
    unfold stp at hs
    try dsimp only at hs
    obtain ⟨x, r, e0, hs1⟩ := q1I_ok hs
    clear hs
    subst e0
    have hs := hs1
    clear hs1
    cases hb : (decide (x < lo) || decide (h9 < x)) with
    | true =>
      rw [hb] at hs
      obtain ⟨h0, rfl, rfl, rfl, rfl⟩ := jp_ok hs
      exact ⟨rfl, fun _ => rfl⟩
    | false =>
      rw [hb] at hs
      simp only [Bool.or_eq_false_iff, decide_eq_false_iff_not] at hb
      simp only [cond_false] at hs
      split at hs
      · next o ho =>
        obtain ⟨h0, rfl, rfl, rfl, rfl⟩ := jp_ok hs
        exact ⟨rfl, fun _ => rfl⟩
      · cases hs
  | lookupswitch df ps =>
    unfold stp at hs
    try dsimp only at hs
    obtain ⟨x, r, rfl, hs⟩ := q1I_ok hs
    obtain ⟨h1, hs⟩ := ckP_ok hs
    obtain ⟨h0, rfl, rfl, rfl, rfl⟩ := jp_ok hs
    exact ⟨rfl, fun _ => rfl⟩
  | getfield j =>
    unfold stp at hs
    try dsimp only at hs
    skip
    split at hs
    · cases hs
    · next ci f hf =>
      obtain ⟨a, r, rfl, hs⟩ := q1A_ok hs
      obtain ⟨h1, hs⟩ := ckP_ok hs
      cases hb : Nat.beq (ft ci f) 2 with
      | true =>
        rw [hb] at hs
        obtain ⟨h2, hs⟩ := ckP_ok hs
        obtain ⟨rfl, rfl, rfl, rfl⟩ := nx_ok hs
        exact ⟨rfl, fun _ => rfl⟩
      | false =>
        rw [hb] at hs
        obtain ⟨rfl, rfl, rfl, rfl⟩ := nx_ok hs
        exact ⟨rfl, fun _ => rfl⟩
  | putfield j =>
    unfold stp at hs
    try dsimp only at hs
    skip
    split at hs
    · cases hs
    · next ci f hf =>
      cases hb : Nat.beq (ft ci f) 2 with
      | true =>
        rw [hb] at hs
        obtain ⟨v, a, r, e0, hs2⟩ := qAA_ok hs
        clear hs
        subst e0
        obtain ⟨h1, hs3⟩ := ckP_ok hs2
        clear hs2
        simp only [Bool.and_eq_true] at h1
        obtain ⟨rfl, rfl, rfl, rfl⟩ := nx_ok hs3
        exact ⟨rfl, fun _ => rfl⟩
      | false =>
        rw [hb] at hs
        obtain ⟨x, a, r, rfl, hs⟩ := qIA_ok hs
        obtain ⟨h1, hs⟩ := ckP_ok hs
        simp only [Bool.and_eq_true, Bool.or_eq_true, decide_eq_true_eq] at h1
        obtain ⟨rfl, rfl, rfl, rfl⟩ := nx_ok hs
        exact ⟨rfl, fun j0 => up2_n _ _ _ _ (by have := (onA_ok h1.1).2.1; omega)⟩
  | iaload =>
    unfold stp at hs
    try dsimp only at hs
    obtain ⟨j, a, r, rfl, hs⟩ := qIA_ok hs
    cases a with
    | zero =>
      obtain ⟨h1, hs⟩ := ckP_ok hs
      simp only [Bool.and_eq_true] at h1
      obtain ⟨rfl, rfl, rfl, rfl⟩ := nx_ok hs
      exact ⟨rfl, fun _ => rfl⟩
    | succ a =>
      obtain ⟨h1, hs⟩ := ckP_ok hs
      simp only [Bool.and_eq_true] at h1
      obtain ⟨rfl, rfl, rfl, rfl⟩ := nx_ok hs
      exact ⟨rfl, fun _ => rfl⟩
  | baload =>
    unfold stp at hs
    try dsimp only at hs
    obtain ⟨j, a, r, rfl, hs⟩ := qIA_ok hs
    obtain ⟨h1, hs⟩ := ckP_ok hs
    simp only [Bool.and_eq_true] at h1
    obtain ⟨rfl, rfl, rfl, rfl⟩ := nx_ok hs
    exact ⟨rfl, fun _ => rfl⟩
  | laload =>
    unfold stp at hs
    try dsimp only at hs
    obtain ⟨j, a, r, rfl, hs⟩ := qIA_ok hs
    obtain ⟨h1, hs⟩ := ckP_ok hs
    simp only [Bool.and_eq_true] at h1
    obtain ⟨rfl, rfl, rfl, rfl⟩ := nx_ok hs
    exact ⟨rfl, fun _ => rfl⟩
  | aaload =>
    unfold stp at hs
    try dsimp only at hs
    obtain ⟨j, a, r, rfl, hs⟩ := qIA_ok hs
    obtain ⟨h1, hs⟩ := ckP_ok hs
    simp only [Bool.and_eq_true] at h1
    obtain ⟨rfl, rfl, rfl, rfl⟩ := nx_ok hs
    exact ⟨rfl, fun _ => rfl⟩
  | iastore =>
    unfold stp at hs
    try dsimp only at hs
    obtain ⟨x, j, a, r, rfl, hs⟩ := qIIA_ok hs
    obtain ⟨h1, hs⟩ := ckP_ok hs
    simp only [Bool.and_eq_true] at h1
    obtain ⟨rfl, rfl, rfl, rfl⟩ := nx_ok hs
    exact ⟨rfl, fun j0 => up2_n _ _ _ _ (by have := (onA_ok h1.1).2.1; omega)⟩
  | bastore =>
    unfold stp at hs
    try dsimp only at hs
    obtain ⟨x, j, a, r, rfl, hs⟩ := qIIA_ok hs
    obtain ⟨h1, hs⟩ := ckP_ok hs
    simp only [Bool.and_eq_true, Bool.or_eq_true, decide_eq_true_eq] at h1
    obtain ⟨rfl, rfl, rfl, rfl⟩ := nx_ok hs
    exact ⟨rfl, fun j0 => up2_n _ _ _ _ (by have := (onA_ok h1.1.1).2.1; omega)⟩
  | lastore =>
    unfold stp at hs
    try dsimp only at hs
    obtain ⟨x, j, a, r, rfl, hs⟩ := qJIA_ok hs
    obtain ⟨h1, hs⟩ := ckP_ok hs
    simp only [Bool.and_eq_true] at h1
    obtain ⟨rfl, rfl, rfl, rfl⟩ := nx_ok hs
    exact ⟨rfl, fun j0 => up2_n _ _ _ _ (by have := (onA_ok h1.1).2.1; omega)⟩
  | aastore =>
    unfold stp at hs
    try dsimp only at hs
    obtain ⟨x, j, a, r, rfl, hs⟩ := qAIA_ok hs
    obtain ⟨h1, hs⟩ := ckP_ok hs
    simp only [Bool.and_eq_true] at h1
    obtain ⟨rfl, rfl, rfl, rfl⟩ := nx_ok hs
    exact ⟨rfl, fun _ => rfl⟩
  | arraylength =>
    unfold stp at hs
    try dsimp only at hs
    obtain ⟨a, r, rfl, hs⟩ := q1A_ok hs
    cases a with
    | zero =>
      obtain ⟨h1, hs⟩ := ckP_ok hs
      obtain ⟨rfl, rfl, rfl, rfl⟩ := nx_ok hs
      exact ⟨rfl, fun _ => rfl⟩
    | succ a =>
      obtain ⟨h1, hs⟩ := ckP_ok hs
      obtain ⟨rfl, rfl, rfl, rfl⟩ := nx_ok hs
      exact ⟨rfl, fun _ => rfl⟩
  | new j =>
    unfold stp at hs
    try dsimp only at hs
    skip
    split at hs
    · cases hs
    · next ci hc =>
      obtain ⟨h1, hs⟩ := ckP_ok hs
      obtain ⟨rfl, rfl, rfl, rfl⟩ := nx_ok hs
      exact ⟨rfl, fun _ => rfl⟩
  | newarray t =>
    unfold stp at hs
    try dsimp only at hs
    obtain ⟨z, r, rfl, hs⟩ := q1I_ok hs
    obtain ⟨h1, hs⟩ := ckP_ok hs
    simp only [Bool.and_eq_true, decide_eq_true_eq] at h1
    obtain ⟨rfl, rfl, rfl, rfl⟩ := nx_ok hs
    obtain ⟨⟨h0, h9⟩, h2⟩ := h1
    cases t with
    | int => exact ⟨rfl, fun _ => rfl⟩
    | boolean => exact ⟨rfl, fun _ => rfl⟩
    | long => exact ⟨rfl, fun _ => rfl⟩
    | _ => exact ⟨rfl, fun _ => rfl⟩
  | anewarray j =>
    unfold stp at hs
    try dsimp only at hs
    obtain ⟨z, r, rfl, hs⟩ := q1I_ok hs
    obtain ⟨h1, hs⟩ := ckP_ok hs
    simp only [Bool.and_eq_true, decide_eq_true_eq] at h1
    obtain ⟨rfl, rfl, rfl, rfl⟩ := nx_ok hs
    exact ⟨rfl, fun _ => rfl⟩
  | invokevirtual j =>
    unfold stp at hs
    try dsimp only at hs
    skip
    split at hs
    · cases hs
    · exact absurd hs (mcall_no _)
  | invokespecial j =>
    unfold stp at hs
    try dsimp only at hs
    skip
    split at hs
    · cases hs
    · next k' b hm =>
      cases hb : Nat.beq k' 1000 with
      | true =>
        rw [hb] at hs
        obtain ⟨a, r, rfl, hs⟩ := q1A_ok hs
        obtain ⟨h1, hs⟩ := ckP_ok hs
        simp only [Bool.and_eq_true, Nat.ble_eq] at h1
        obtain ⟨rfl, rfl, rfl, rfl⟩ := nx_ok hs
        have e9 := Nat.eq_of_beq_eq_true hb
        subst e9
        rcases ml_ok hm with ⟨-, h⟩ | ⟨h, -⟩ | ⟨h, -⟩ | ⟨h, -⟩
        · exact ⟨rfl, fun _ => rfl⟩
        · cases h
        · cases h
        · exact absurd rfl h
      | false =>
        rw [hb] at hs
        exact absurd hs (mcall_no _)
  | invokestatic j =>
    unfold stp at hs
    try dsimp only at hs
    skip
    split at hs
    · cases hs
    · next k' b hm =>
      cases hb : Nat.beq k' 1001 with
      | true =>
        rw [hb] at hs
        obtain ⟨a, sp, q, dp, z, r, rfl, hs⟩ := qcp_ok hs
        obtain ⟨h1, hs⟩ := ckP_ok hs
        simp only [Bool.and_eq_true, Nat.ble_eq, decide_eq_true_eq] at h1
        obtain ⟨rfl, rfl, rfl, rfl⟩ := nx_ok hs
        obtain ⟨⟨⟨⟨⟨⟨g1, g2⟩, ⟨g3, g4⟩, g5⟩, g6⟩, g7⟩, g8⟩, g9⟩ := h1
        have e9 := Nat.eq_of_beq_eq_true hb
        subst e9
        rcases ml_ok hm with ⟨h, -⟩ | ⟨-, h⟩ | ⟨h, -⟩ | ⟨-, h, -⟩
        · cases h
        · exact ⟨rfl, fun j0 => if_neg (by have := (onA_ok g2).2.1; omega)⟩
        · cases h
        · exact absurd rfl h
      | false =>
        rw [hb] at hs
        simp only [cond_false] at hs
        cases hb2 : Nat.beq k' 1002 with
        | true =>
          rw [hb2] at hs
          obtain ⟨x, y, r, rfl, hs⟩ := q2I_ok hs
          obtain ⟨h1, hs⟩ := ckP_ok hs
          simp only [Bool.and_eq_true, Nat.ble_eq] at h1
          obtain ⟨rfl, rfl, rfl, rfl⟩ := nx_ok hs
          have e9 := Nat.eq_of_beq_eq_true hb2
          subst e9
          rcases ml_ok hm with ⟨h, -⟩ | ⟨h, -⟩ | ⟨-, h⟩ | ⟨-, -, h, -⟩
          · cases h
          · cases h
          · exact ⟨rfl, fun _ => rfl⟩
          · exact absurd rfl h
        | false =>
          rw [hb2] at hs
          exact absurd hs (mcall_no _)
  | ireturn =>
    unfold stp at hs
    try dsimp only at hs
    split at hs
    · obtain ⟨h1, hs⟩ := ckP_ok hs; cases hs
    · cases hs
  | lreturn =>
    unfold stp at hs
    try dsimp only at hs
    split at hs
    · obtain ⟨h1, hs⟩ := ckP_ok hs; cases hs
    · cases hs
  | areturn =>
    unfold stp at hs
    try dsimp only at hs
    split at hs
    · obtain ⟨h1, hs⟩ := ckP_ok hs; cases hs
    · cases hs
  | return_ =>
    unfold stp at hs
    try dsimp only at hs
    split at hs
    · obtain ⟨h1, hs⟩ := ckP_ok hs; cases hs
    · cases hs
  | _ => unfold stp at hs; cases hs

theorem rn_scr : ∀ (n k : Nat) (f : Fr) (s : Sx) (v : Option AV) (s2 : Sx), rn n k f s = some (v, s2) → s2.2.2.2 = s.2.2.2 ∧ ∀ j, s2.1 0 j = s.1 0 j := by
  intro n
  induction n with
  | zero => intro k f s v s2 h; cases h
  | succ n ih =>
    intro k f s v s2 h
    unfold rn at h
    split at h
    · cases h
    · split at h
      · cases h
      · next f' s' hst =>
        cases hb : Nat.ble s.2.1 s'.2.1 with
        | true =>
          rw [hb] at h
          obtain ⟨pc', L', st'⟩ := f'
          obtain ⟨a1, a2⟩ := stp_scr hst
          obtain ⟨b1, b2⟩ := ih _ _ _ _ _ h
          exact ⟨b1.trans a1, fun j => (b2 j).trans (a2 j)⟩
        | false => rw [hb] at h; cases h
      · cases h; exact ⟨rfl, fun _ => rfl⟩
      · split at h
        · cases h
        · next v' s' h1 =>
          obtain ⟨a1, a2⟩ := ih _ _ _ _ _ h1
          obtain ⟨b1, b2⟩ := ih _ _ _ _ _ h
          exact ⟨b1.trans a1, fun j => (b2 j).trans (a2 j)⟩
