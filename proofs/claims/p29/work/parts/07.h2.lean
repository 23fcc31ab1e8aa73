set_option maxHeartbeats 4000000 in
/-- what returns or calls is a return or a call -/
theorem stp_inr {k pc n : Nat} {L : Lc} {st : List AV} {s : Sx} {i : Instr} {x : Option AV ⊕ (Nat × (List AV × Fr))} (hs : stp k pc L st s i n = some (.inr x)) :
    (∃ v, x = .inl v ∧ st = v.toList ∧ ((∃ z, v = some (aI z) ∧ i = .ireturn ∧ (rtc k = 1 ∨ (rtc k = 2 ∧ (z = 0 ∨ z = 1)))) ∨ (∃ z, v = some (aJ z) ∧ i = .lreturn ∧ rtc k = 3) ∨ (∃ a, v = some (.inr (.inr a)) ∧ i = .areturn ∧ rtc k = 4) ∨ (v = none ∧ i = .return_ ∧ rtc k = 0))) ∨
    (∃ j k' b, mli k j = some (k', b) ∧ ((i = .invokevirtual j ∧ mcall k pc L st s 0 k' = some (.inr x)) ∨ (i = .invokespecial j ∧ k' ≠ 1000 ∧ mcall k pc L st s 2 k' = some (.inr x)) ∨ (i = .invokestatic j ∧ k' ≠ 1001 ∧ k' ≠ 1002 ∧ mcall k pc L st s 1 k' = some (.inr x)))) := by
  cases i with
  | iconst z =>
    unfold stp at hs
    try dsimp only at hs
    obtain ⟨-, hs⟩ := ckI_ok hs
    exact absurd hs nx_ret
  | bipush z =>
    unfold stp at hs
    try dsimp only at hs
    obtain ⟨-, hs⟩ := ckP_ok hs
    exact absurd hs nx_ret
  | sipush z =>
    unfold stp at hs
    try dsimp only at hs
    obtain ⟨-, hs⟩ := ckP_ok hs
    exact absurd hs nx_ret
  | lconst z =>
    unfold stp at hs
    try dsimp only at hs
    exact absurd hs nx_ret
  | ldc j =>
    unfold stp at hs
    try dsimp only at hs
    split at hs
    · exact absurd hs nx_ret
    · cases hs
  | ldc_w j =>
    unfold stp at hs
    try dsimp only at hs
    split at hs
    · exact absurd hs nx_ret
    · cases hs
  | aconst_null =>
    unfold stp at hs
    try dsimp only at hs
    exact absurd hs nx_ret
  | iload j =>
    unfold stp at hs
    try dsimp only at hs
    rcases ldv_ok hs with ⟨-, z, -, hs⟩ | ⟨-, z, -, hs⟩ | ⟨-, z, -, hs⟩ <;> exact absurd hs nx_ret
  | iload_n j =>
    unfold stp at hs
    try dsimp only at hs
    rcases ldv_ok hs with ⟨-, z, -, hs⟩ | ⟨-, z, -, hs⟩ | ⟨-, z, -, hs⟩ <;> exact absurd hs nx_ret
  | lload j =>
    unfold stp at hs
    try dsimp only at hs
    rcases ldv_ok hs with ⟨-, z, -, hs⟩ | ⟨-, z, -, hs⟩ | ⟨-, z, -, hs⟩ <;> exact absurd hs nx_ret
  | lload_n j =>
    unfold stp at hs
    try dsimp only at hs
    rcases ldv_ok hs with ⟨-, z, -, hs⟩ | ⟨-, z, -, hs⟩ | ⟨-, z, -, hs⟩ <;> exact absurd hs nx_ret
  | aload j =>
    unfold stp at hs
    try dsimp only at hs
    rcases ldv_ok hs with ⟨-, z, -, hs⟩ | ⟨-, z, -, hs⟩ | ⟨-, z, -, hs⟩ <;> exact absurd hs nx_ret
  | aload_n j =>
    unfold stp at hs
    try dsimp only at hs
    rcases ldv_ok hs with ⟨-, z, -, hs⟩ | ⟨-, z, -, hs⟩ | ⟨-, z, -, hs⟩ <;> exact absurd hs nx_ret
  | istore j =>
    unfold stp at hs
    try dsimp only at hs
    obtain ⟨-, hs⟩ := ckP_ok hs
    obtain ⟨x, r, -, hs⟩ := q1I_ok hs
    exact absurd hs nx_ret
  | istore_n j =>
    unfold stp at hs
    try dsimp only at hs
    obtain ⟨-, hs⟩ := ckP_ok hs
    obtain ⟨x, r, -, hs⟩ := q1I_ok hs
    exact absurd hs nx_ret
  | lstore j =>
    unfold stp at hs
    try dsimp only at hs
    obtain ⟨-, hs⟩ := ckP_ok hs
    split at hs
    · exact absurd hs nx_ret
    · cases hs
  | lstore_n j =>
    unfold stp at hs
    try dsimp only at hs
    obtain ⟨-, hs⟩ := ckP_ok hs
    split at hs
    · exact absurd hs nx_ret
    · cases hs
  | astore j =>
    unfold stp at hs
    try dsimp only at hs
    obtain ⟨-, hs⟩ := ckP_ok hs
    obtain ⟨x, r, -, hs⟩ := q1R_ok hs
    exact absurd hs nx_ret
  | astore_n j =>
    unfold stp at hs
    try dsimp only at hs
    obtain ⟨-, hs⟩ := ckP_ok hs
    obtain ⟨x, r, -, hs⟩ := q1R_ok hs
    exact absurd hs nx_ret
  | iinc j d =>
    unfold stp at hs
    try dsimp only at hs
    obtain ⟨-, hs⟩ := ckP_ok hs
    split at hs
    · obtain ⟨-, hs⟩ := ckI_ok hs; exact absurd hs nx_ret
    · cases hs
  | iadd =>
    unfold stp at hs
    try dsimp only at hs
    obtain ⟨x, y, r, -, hs⟩ := q2I_ok hs
    obtain ⟨-, hs⟩ := ckI_ok hs
    exact absurd hs nx_ret
  | isub =>
    unfold stp at hs
    try dsimp only at hs
    obtain ⟨x, y, r, -, hs⟩ := q2I_ok hs
    obtain ⟨-, hs⟩ := ckI_ok hs
    exact absurd hs nx_ret
  | imul =>
    unfold stp at hs
    try dsimp only at hs
    obtain ⟨x, y, r, -, hs⟩ := q2I_ok hs
    obtain ⟨-, hs⟩ := ckI_ok hs
    exact absurd hs nx_ret
  | idiv =>
    unfold stp at hs
    try dsimp only at hs
    obtain ⟨x, y, r, -, hs⟩ := q2I_ok hs
    obtain ⟨-, hs⟩ := ckP_ok hs
    obtain ⟨-, hs⟩ := ckI_ok hs
    exact absurd hs nx_ret
  | irem =>
    unfold stp at hs
    try dsimp only at hs
    obtain ⟨x, y, r, -, hs⟩ := q2I_ok hs
    obtain ⟨-, hs⟩ := ckP_ok hs
    obtain ⟨-, hs⟩ := ckI_ok hs
    obtain ⟨-, hs⟩ := ckI_ok hs
    exact absurd hs nx_ret
  | iand =>
    unfold stp at hs
    try dsimp only at hs
    obtain ⟨x, y, r, -, hs⟩ := q2I_ok hs
    exact absurd hs nx_ret
  | ior =>
    unfold stp at hs
    try dsimp only at hs
    obtain ⟨x, y, r, -, hs⟩ := q2I_ok hs
    exact absurd hs nx_ret
  | ixor =>
    unfold stp at hs
    try dsimp only at hs
    obtain ⟨x, y, r, -, hs⟩ := q2I_ok hs
    exact absurd hs nx_ret
  | ishl =>
    unfold stp at hs
    try dsimp only at hs
    obtain ⟨x, y, r, -, hs⟩ := q2I_ok hs
    exact absurd hs nx_ret
  | ishr =>
    unfold stp at hs
    try dsimp only at hs
    obtain ⟨x, y, r, -, hs⟩ := q2I_ok hs
    exact absurd hs nx_ret
  | iushr =>
    unfold stp at hs
    try dsimp only at hs
    obtain ⟨x, y, r, -, hs⟩ := q2I_ok hs
    exact absurd hs nx_ret
  | land =>
    unfold stp at hs
    try dsimp only at hs
    obtain ⟨x, y, r, -, hs⟩ := q2J_ok hs
    exact absurd hs nx_ret
  | lor =>
    unfold stp at hs
    try dsimp only at hs
    obtain ⟨x, y, r, -, hs⟩ := q2J_ok hs
    exact absurd hs nx_ret
  | lshl =>
    unfold stp at hs
    try dsimp only at hs
    obtain ⟨x, y, r, -, hs⟩ := qIJ_ok hs
    exact absurd hs nx_ret
  | lshr =>
    unfold stp at hs
    try dsimp only at hs
    obtain ⟨x, y, r, -, hs⟩ := qIJ_ok hs
    exact absurd hs nx_ret
  | lcmp =>
    unfold stp at hs
    try dsimp only at hs
    obtain ⟨x, y, r, -, hs⟩ := q2J_ok hs
    exact absurd hs nx_ret
  | dup =>
    unfold stp at hs
    try dsimp only at hs
    split at hs
    · obtain ⟨-, hs⟩ := ckP_ok hs; exact absurd hs nx_ret
    · cases hs
  | dup2 =>
    unfold stp at hs
    try dsimp only at hs
    split at hs
    · obtain ⟨-, hs⟩ := ckP_ok hs; exact absurd hs nx_ret
    · cases hs
  | pop =>
    unfold stp at hs
    try dsimp only at hs
    split at hs
    · obtain ⟨-, hs⟩ := ckP_ok hs; exact absurd hs nx_ret
    · cases hs
  | goto d =>
    unfold stp at hs
    try dsimp only at hs
    exact absurd hs jp_ret
  | ifCond cc d =>
    unfold stp at hs
    try dsimp only at hs
    obtain ⟨x, r, -, hs⟩ := q1I_ok hs
    obtain ⟨-, hs⟩ := ckP_ok hs
    cases hb : cmpb cc x 0 with
    | true => rw [hb] at hs; exact absurd hs nx_ret
    | false => rw [hb] at hs; exact absurd hs nx_ret
  | if_icmp cc d =>
    unfold stp at hs
    try dsimp only at hs
    obtain ⟨x, y, r, -, hs⟩ := q2I_ok hs
    obtain ⟨-, hs⟩ := ckP_ok hs
    cases hb : cmpb cc x y with
    | true => rw [hb] at hs; exact absurd hs nx_ret
    | false => rw [hb] at hs; exact absurd hs nx_ret
  | ifnull d =>
    unfold stp at hs
    try dsimp only at hs
    obtain ⟨a, r, -, hs⟩ := q1R_ok hs
    cases a with
    | none => exact absurd hs (by first | exact jp_ret | exact nx_ret)
    | some a => exact absurd hs (by first | exact jp_ret | exact nx_ret)
  | ifnonnull d =>
    unfold stp at hs
    try dsimp only at hs
    obtain ⟨a, r, -, hs⟩ := q1R_ok hs
    cases a with
    | none => exact absurd hs (by first | exact jp_ret | exact nx_ret)
    | some a => exact absurd hs (by first | exact jp_ret | exact nx_ret)
  | tableswitch df lo h9 os =>
    unfold stp at hs
    try dsimp only at hs
    obtain ⟨x, r, -, hs1⟩ := q1I_ok hs
    clear hs
    cases hb : (decide (x < lo) || decide (h9 < x)) with
    | true => rw [hb] at hs1; exact absurd hs1 jp_ret
    | false =>
      rw [hb] at hs1
      simp only [cond_false] at hs1
      split at hs1
      · exact absurd hs1 jp_ret
      · cases hs1
  | lookupswitch df ps =>
    unfold stp at hs
    try dsimp only at hs
    obtain ⟨x, r, -, hs⟩ := q1I_ok hs
    obtain ⟨-, hs⟩ := ckP_ok hs
    exact absurd hs jp_ret
  | getfield j =>
    unfold stp at hs
    try dsimp only at hs
    split at hs
    · cases hs
    · next ci f hf =>
      obtain ⟨a, r, -, hs1⟩ := q1A_ok hs
      obtain ⟨-, hs2⟩ := ckP_ok hs1
      cases hb : Nat.beq (ft ci f) 2 with
      | true =>
        rw [hb] at hs2
        obtain ⟨-, hs3⟩ := ckP_ok hs2
        exact absurd hs3 nx_ret
      | false =>
        rw [hb] at hs2
        exact absurd hs2 nx_ret
  | putfield j =>
    unfold stp at hs
    try dsimp only at hs
    split at hs
    · cases hs
    · next ci f hf =>
      cases hb : Nat.beq (ft ci f) 2 with
      | true =>
        rw [hb] at hs
        obtain ⟨v, a, r, -, hs2⟩ := qAA_ok hs
        obtain ⟨-, hs3⟩ := ckP_ok hs2
        exact absurd hs3 nx_ret
      | false =>
        rw [hb] at hs
        obtain ⟨x, a, r, -, hs2⟩ := qIA_ok hs
        obtain ⟨-, hs3⟩ := ckP_ok hs2
        exact absurd hs3 nx_ret
  | iaload =>
    unfold stp at hs
    try dsimp only at hs
    obtain ⟨i, a, r, -, hs⟩ := qIA_ok hs
    cases a with
    | zero => obtain ⟨-, hs⟩ := ckP_ok hs; exact absurd hs nx_ret
    | succ a => obtain ⟨-, hs⟩ := ckP_ok hs; exact absurd hs nx_ret
  | iastore =>
    unfold stp at hs
    try dsimp only at hs
    obtain ⟨x, i, a, r, -, hs⟩ := qIIA_ok hs
    obtain ⟨-, hs⟩ := ckP_ok hs
    exact absurd hs nx_ret
  | baload =>
    unfold stp at hs
    try dsimp only at hs
    obtain ⟨i, a, r, -, hs⟩ := qIA_ok hs
    obtain ⟨-, hs⟩ := ckP_ok hs
    exact absurd hs nx_ret
  | bastore =>
    unfold stp at hs
    try dsimp only at hs
    obtain ⟨x, i, a, r, -, hs⟩ := qIIA_ok hs
    obtain ⟨-, hs⟩ := ckP_ok hs
    exact absurd hs nx_ret
  | laload =>
    unfold stp at hs
    try dsimp only at hs
    obtain ⟨i, a, r, -, hs⟩ := qIA_ok hs
    obtain ⟨-, hs⟩ := ckP_ok hs
    exact absurd hs nx_ret
  | lastore =>
    unfold stp at hs
    try dsimp only at hs
    obtain ⟨x, i, a, r, -, hs⟩ := qJIA_ok hs
    obtain ⟨-, hs⟩ := ckP_ok hs
    exact absurd hs nx_ret
  | aaload =>
    unfold stp at hs
    try dsimp only at hs
    obtain ⟨i, a, r, -, hs⟩ := qIA_ok hs
    obtain ⟨-, hs⟩ := ckP_ok hs
    exact absurd hs nx_ret
  | aastore =>
    unfold stp at hs
    try dsimp only at hs
    obtain ⟨x, i, a, r, -, hs⟩ := qAIA_ok hs
    obtain ⟨-, hs⟩ := ckP_ok hs
    exact absurd hs nx_ret
  | arraylength =>
    unfold stp at hs
    try dsimp only at hs
    obtain ⟨a, r, -, hs⟩ := q1A_ok hs
    cases a with
    | zero => obtain ⟨-, hs⟩ := ckP_ok hs; exact absurd hs nx_ret
    | succ a => obtain ⟨-, hs⟩ := ckP_ok hs; exact absurd hs nx_ret
  | new j =>
    unfold stp at hs
    try dsimp only at hs
    split at hs
    · cases hs
    · obtain ⟨-, hs⟩ := ckP_ok hs; exact absurd hs nx_ret
  | newarray t =>
    unfold stp at hs
    try dsimp only at hs
    obtain ⟨z, r, -, hs⟩ := q1I_ok hs
    obtain ⟨-, hs⟩ := ckP_ok hs
    exact absurd hs nx_ret
  | anewarray j =>
    unfold stp at hs
    try dsimp only at hs
    obtain ⟨z, r, -, hs⟩ := q1I_ok hs
    obtain ⟨-, hs⟩ := ckP_ok hs
    exact absurd hs nx_ret
  | invokevirtual j =>
    unfold stp at hs
    dsimp only at hs
    split at hs
    · cases hs
    · next k' b hm => exact Or.inr ⟨j, k', b, hm, Or.inl ⟨rfl, hs⟩⟩
  | invokespecial j =>
    unfold stp at hs
    dsimp only at hs
    split at hs
    · cases hs
    · next k' b hm =>
      cases hb : Nat.beq k' 1000 with
      | true =>
        rw [hb] at hs
        obtain ⟨a, r, -, hs1⟩ := q1A_ok hs
        obtain ⟨-, hs2⟩ := ckP_ok hs1
        exact absurd hs2 nx_ret
      | false =>
        rw [hb] at hs
        exact Or.inr ⟨j, k', b, hm, Or.inr (Or.inl ⟨rfl, (fun q => by rw [q] at hb; cases hb), hs⟩)⟩
  | invokestatic j =>
    unfold stp at hs
    dsimp only at hs
    split at hs
    · cases hs
    · next k' b hm =>
      cases hb : Nat.beq k' 1001 with
      | true =>
        rw [hb] at hs
        obtain ⟨a, sp, q, dp, z, r, -, hs1⟩ := qcp_ok hs
        obtain ⟨-, hs2⟩ := ckP_ok hs1
        exact absurd hs2 nx_ret
      | false =>
        rw [hb] at hs
        simp only [cond_false] at hs
        cases hb2 : Nat.beq k' 1002 with
        | true =>
          rw [hb2] at hs
          obtain ⟨x, y, r, -, hs1⟩ := q2I_ok hs
          obtain ⟨-, hs2⟩ := ckP_ok hs1
          exact absurd hs2 nx_ret
        | false =>
          rw [hb2] at hs
          exact Or.inr ⟨j, k', b, hm, Or.inr (Or.inr ⟨rfl, (fun q => by rw [q] at hb; cases hb), (fun q => by rw [q] at hb2; cases hb2), hs⟩)⟩
  | ireturn =>
    unfold stp at hs
    dsimp only at hs
    split at hs
    · next z =>
      obtain ⟨h1, hs⟩ := ckP_ok hs
      cases hs
      simp only [Bool.or_eq_true, Bool.and_eq_true, decide_eq_true_eq] at h1
      refine Or.inl ⟨_, rfl, rfl, Or.inl ⟨z, rfl, rfl, ?_⟩⟩
      rcases h1 with q | ⟨q, q2⟩
      · exact Or.inl (Nat.eq_of_beq_eq_true q)
      · exact Or.inr ⟨Nat.eq_of_beq_eq_true q, q2⟩
    · cases hs
  | lreturn =>
    unfold stp at hs
    dsimp only at hs
    split at hs
    · next z =>
      obtain ⟨h1, hs⟩ := ckP_ok hs
      cases hs
      exact Or.inl ⟨_, rfl, rfl, Or.inr (Or.inl ⟨z, rfl, rfl, Nat.eq_of_beq_eq_true h1⟩)⟩
    · cases hs
  | areturn =>
    unfold stp at hs
    dsimp only at hs
    split at hs
    · next z =>
      obtain ⟨h1, hs⟩ := ckP_ok hs
      cases hs
      exact Or.inl ⟨_, rfl, rfl, Or.inr (Or.inr (Or.inl ⟨z, rfl, rfl, Nat.eq_of_beq_eq_true h1⟩))⟩
    · cases hs
  | return_ =>
    unfold stp at hs
    dsimp only at hs
    split at hs
    · obtain ⟨h1, hs⟩ := ckP_ok hs
      cases hs
      exact Or.inl ⟨_, rfl, rfl, Or.inr (Or.inr (Or.inr ⟨rfl, rfl, Nat.eq_of_beq_eq_true h1⟩))⟩
    · cases hs
  | _ => unfold stp at hs; cases hs
/-- a call: the frame behind it, the arguments, the receiver -/
theorem mcall_ok {k pc h k' : Nat} {L : Lc} {st : List AV} {s : Sx} {x : Option AV ⊕ (Nat × (List AV × Fr))} (e : mcall k pc L st s h k' = some (.inr x)) : how k' = h ∧ frr k' + 1 ≤ frr k ∧ 19 + mxl k' + lor k' ≤ lor k ∧ ∃ (As rest : List AV), As.length = npr k' ∧ wsum rest ≤ 8 ∧
    ((h = 1 ∧ st = As.reverse ++ rest ∧ (spr As).length ≤ mxl k' ∧ x = .inr (k', (As, (pc + 3, (L, rest))))) ∨ (h ≠ 1 ∧ ∃ a, st = As.reverse ++ aA a :: rest ∧ onA a s 0 (own k') = true ∧ (spr (aA a :: As)).length ≤ mxl k' ∧ x = .inr (k', (aA a :: As, (pc + 3, (L, rest)))))) := by
  unfold mcall at e
  obtain ⟨h1, e⟩ := ckP_ok e
  simp only [Bool.and_eq_true, Nat.ble_eq] at h1
  refine ⟨Nat.eq_of_beq_eq_true h1.1, h1.2.1, h1.2.2, ?_⟩
  have e3 : st = st.take (npr k') ++ st.drop (npr k') := (List.take_append_drop _ _).symm
  cases hb : Nat.beq h 1 with
  | true =>
    rw [hb] at e
    obtain ⟨h2, e⟩ := ckP_ok e
    simp only [Bool.and_eq_true, Nat.ble_eq] at h2
    cases e
    refine ⟨(st.take (npr k')).reverse, st.drop (npr k'), by rw [List.length_reverse, List.length_take]; omega, h2.1.2, Or.inl ⟨Nat.eq_of_beq_eq_true hb, by rw [List.reverse_reverse]; exact e3, h2.2, rfl⟩⟩
  | false =>
    rw [hb] at e
    simp only [cond_false] at e
    split at e
    · next a rest hdr =>
      obtain ⟨h2, e⟩ := ckP_ok e
      simp only [Bool.and_eq_true, Nat.ble_eq] at h2
      cases e
      refine ⟨(st.take (npr k')).reverse, rest, by rw [List.length_reverse, List.length_take]; omega, h2.1.2, Or.inr ⟨(fun q => by rw [q] at hb; cases hb), a, ?_, h2.1.1.2, h2.2, rfl⟩⟩
      rw [List.reverse_reverse, ← hdr]
      exact e3
    · cases e
