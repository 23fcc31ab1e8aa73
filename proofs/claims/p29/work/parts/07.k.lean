theorem ar1 {a b c d : Nat} (h1 : b ≤ c) (h2 : c ≤ d) : a + (c - b) + (d - c) = a + (d - b) := by omega
theorem ar2 {a b c d : Nat} (h1 : 19 + a + b ≤ c) (h2 : c ≤ d) : 8 + (a + 11) + b ≤ d := by omega
theorem ar3 {a b c d r : Nat} (h1 : a + (d - b) ≤ r) (h2 : c ≤ d) : a + (c - b) ≤ r := by omega
theorem ar4 {a b c d e : Nat} (h1 : a + b = c + d) (h2 : d ≤ e) : a + (b + (e - d)) = c + e := by omega
set_option maxHeartbeats 4000000 in
theorem snd_all (l : Launch) : ∀ n, SndP l n := by
  intro n
  induction n with
  | zero => intro k f s v s2 h; cases h
  | succ n ih =>
    intro k f s v s2 h g p e R u m args below meth c Q cells slots C hcr hsr hend
    have hm0 := rn_mono _ _ _ _ _ _ h
    obtain ⟨pc, L, st⟩ := f
    unfold rn at h
    dsimp only at h ⊢
    split at h
    · cases h
    · next i len hi =>
      split at h
      · cases h
      · next f' s' hst =>
        cases hb : Nat.ble s.2.1 s'.2.1 with
        | false => rw [hb] at h; cases h
        | true =>
          rw [hb] at h
          obtain ⟨pc', L', st'⟩ := f'
          have hb := Nat.le_of_ble_eq_true hb
          have hm1 := rn_mono _ _ _ _ _ _ h
          have g1 := ssum_mono hb
          have g2 := ssum_mono hm1
          have E1 : cells + (s'.2.1 - s.2.1) + (s2.2.1 - s'.2.1) = cells + (s2.2.1 - s.2.1) := by omega
          have E2 : slots + (ssum s'.2.1 - ssum s.2.1) + (ssum s2.2.1 - ssum s'.2.1) = slots + (ssum s2.2.1 - ssum s.2.1) := by omega
          refine one C hi hst (by omega) (by omega) ?_
          exact ih _ _ _ _ _ h g p e R u m args below meth c Q _ _ C (by rw [E1]; exact hcr) (by rw [E2]; exact hsr) (by rw [E1, E2]; exact hend)
      · next v' hst =>
        cases h
        obtain ⟨hd, hlen⟩ := ins_ok hi
        rcases stp_inr hst with ⟨v1, hv1, hstk, hR⟩ | ⟨j, k', b, -, hR⟩
        · cases hv1
          subst hstk
          have e1 : cells + (s.2.1 - s.2.1) = cells := by omega
          have e2 : slots + (ssum s.2.1 - ssum s.2.1) = slots := by omega
          rw [e1, e2] at hend
          refine hend pc L ?_
          rcases hR with ⟨z, h1, rfl, h3⟩ | ⟨z, h1, rfl, h3⟩ | ⟨z, h1, rfl, h3⟩ | ⟨h1, rfl, h3⟩
          · have := Nat.eq_of_beq_eq_true hlen; subst this; exact Or.inl ⟨z, h1, hi, h3⟩
          · have := Nat.eq_of_beq_eq_true hlen; subst this; exact Or.inr (Or.inl ⟨z, h1, hi, h3⟩)
          · have := Nat.eq_of_beq_eq_true hlen; subst this; exact Or.inr (Or.inr (Or.inl ⟨z, h1, hi, h3⟩))
          · have := Nat.eq_of_beq_eq_true hlen; subst this; exact Or.inr (Or.inr (Or.inr ⟨h1, hi, h3⟩))
        · rcases hR with ⟨-, h1⟩ | ⟨-, -, h1⟩ | ⟨-, -, -, h1⟩ <;> exact absurd h1 (mcall_ret _)
      · next k1 av f1 hst =>
        split at h
        · cases h
        · next v1 s1 h1 =>
          obtain ⟨hd, hlen⟩ := ins_ok hi
          rcases stp_inr hst with ⟨v1, hv1, -⟩ | ⟨j, k', b, hml, hR⟩
          · cases hv1
          · have hmc : ∃ hh, mcall k pc L st s hh k' = some (.inr (.inr (k1, (av, f1)))) ∧ ((hh = 0 ∧ i = .invokevirtual j) ∨ (hh = 2 ∧ i = .invokespecial j) ∨ (hh = 1 ∧ i = .invokestatic j)) ∧ len = 3 ∧ (hh = 2 → k' ≠ 1000) ∧ (hh = 1 → k' ≠ 1001 ∧ k' ≠ 1002) := by
              rcases hR with ⟨rfl, q⟩ | ⟨rfl, q0, q⟩ | ⟨rfl, q0, q1, q⟩
              · exact ⟨0, q, Or.inl ⟨rfl, rfl⟩, Nat.eq_of_beq_eq_true hlen, (fun z => by cases z), (fun z => by cases z)⟩
              · exact ⟨2, q, Or.inr (Or.inl ⟨rfl, rfl⟩), Nat.eq_of_beq_eq_true hlen, (fun _ => q0), (fun z => by cases z)⟩
              · exact ⟨1, q, Or.inr (Or.inr ⟨rfl, rfl⟩), Nat.eq_of_beq_eq_true hlen, (fun z => by cases z), (fun _ => ⟨q0, q1⟩)⟩
            obtain ⟨hh, hmc, hkind, rfl, hne2, hne1⟩ := hmc
            obtain ⟨hhow, hfr, hlo, As, rest, hAs, hws, hcase⟩ := mcall_ok hmc
            -- the callee is a method of the table
            have hk' : 0 < k' ∧ k' < 183 ∧ k' ≠ 122 ∧ (Cond.methodLinkNest (cnm (own k)) j (yK k') "CordHouse" ∈ nwl ∨ Cond.methodLink (cnm (own k)) j (yK k') ∈ gw) := by
              rcases ml_ok hml with ⟨rfl, -⟩ | ⟨rfl, -⟩ | ⟨rfl, -⟩ | ⟨-, -, -, q⟩
              · rw [show how 1000 = 9 from rfl] at hhow; subst hhow; rcases hkind with ⟨q, -⟩ | ⟨q, -⟩ | ⟨q, -⟩ <;> cases q
              · rw [show how 1001 = 9 from rfl] at hhow; subst hhow; rcases hkind with ⟨q, -⟩ | ⟨q, -⟩ | ⟨q, -⟩ <;> cases q
              · rw [show how 1002 = 9 from rfl] at hhow; subst hhow; rcases hkind with ⟨q, -⟩ | ⟨q, -⟩ | ⟨q, -⟩ <;> cases q
              · exact q
            obtain ⟨k0, k1', k2', hlink⟩ := hk'
            obtain ⟨⟨m1, m2⟩, ⟨m3, m4, m5, m6⟩, m7, m8, m9, m10, m11, m12⟩ := mt_ok k0 k1' k2'
            have hm1 := rn_mono _ _ _ _ _ _ h1
            have hm2 := rn_mono _ _ _ _ _ _ h
            have g1 := ssum_mono hm1
            have g2 := ssum_mono hm2
            have E1 : cells + (s1.2.1 - s.2.1) + (s2.2.1 - s1.2.1) = cells + (s2.2.1 - s.2.1) := ar1 hm1 hm2
            have E2 : slots + (ssum s1.2.1 - ssum s.2.1) + (ssum s2.2.1 - ssum s1.2.1) = slots + (ssum s2.2.1 - ssum s.2.1) := ar1 g1 g2
            have hfR := C.2.2.2.2.2.2.2.2.1
            have hlR := C.2.2.2.2.2.2.2.2.2.1
            intro H locs ls hW hS hl hL hT hSc hz
            refine W_size fun hs => ?_
            have hh0 := heap_eq hW hS C.2.2.2.2.2.2.2.2.2.2.2 hz hs
            have hts := C.2.2.2.2.1
            have hroom : (rmK k' (s1.2.1 - s.2.1) (ssum s1.2.1 - ssum s.2.1)).frames + 1 ≤ R.frames ∧ 8 + (mxl k' + 11) + (rmK k' (s1.2.1 - s.2.1) (ssum s1.2.1 - ssum s.2.1)).locals ≤ R.locals := ⟨Nat.le_trans hfr hfR, ar2 hlo hlR⟩
            have hfix : CallFix p m c (codeK k) (mxl k) u args gw (cnm (own k)) := ⟨C.1, C.2.1, C.2.2.1, C.2.2.2.1, hts⟩
            have hfit : cells + (s1.2.1 - s.2.1) ≤ R.cells ∧ slots + (ssum s1.2.1 - ssum s.2.1) ≤ R.slots := ⟨ar3 hcr hm2, ar3 hsr g2⟩
            have hscr := rn_scr _ _ _ _ _ _ h1
            have hpd : (yK k').cls ≠ "java/lang/invoke/MethodHandle" ∧ (yK k').cls ≠ "java/lang/invoke/VarHandle" ∧ (parseMethodDescriptor (yK k').desc).map (fun d => d.parameters.length) = some (npr k') := ⟨m8, m9, m10⟩
            have hWrest : 2 * (F0 m pc ls (st.map (cv g))).monitorRoom + ((rest.map (cv g)).map fun v => v.category).sum ≤ 8 := by rw [hcat_of]; show 2 * 0 + _ ≤ 8; rw [Nat.mul_zero, Nat.zero_add]; exact hws
            have hz1 : u.heap.size + (cells + (s1.2.1 - s.2.1)) = gB g + s1.2.1 := ar4 hz hm1
            have hini : (Cond.initialized (yK k').cls).before args u = true := hts _ m1
            have hPre : ∀ (av : List AV), okT av → ∀ U : State, U.heap = H → u.WarmedH U.vm → PcK g s av ((av.map (cv g)).toArray) U := fun av _ U hU hWm => ⟨rfl, by rw [hU]; exact hW, by rw [hU]; exact hh0, va_K.moved hWm.alike C.2.2.2.2.2.2.2.1, fun w hw => by
              obtain ⟨a9, i9, x9, b9, rfl⟩ := nw_form hw
              exact va_Nw.warmM hWm (C.2.2.2.2.2.1 _ hw), va_AO.moved hWm.alike C.2.2.2.2.2.2.1⟩
            rcases hcase with ⟨hh1, rfl, hspr, hx⟩ | ⟨hh1, a, rfl, hoa, hspr, hx⟩
            · obtain ⟨e1, e2, e3⟩ : k' = k1 ∧ As = av ∧ (pc + 3, (L, rest)) = f1 := by cases hx; exact ⟨rfl, rfl, rfl⟩
              subst e1 e2 e3
              obtain ⟨hkd, rfl⟩ : hh = 1 ∧ i = .invokestatic j := by
                rcases hkind with ⟨q, -⟩ | ⟨q, -⟩ | q
                · rw [hh1] at q; cases q
                · rw [hh1] at q; cases q
                · exact q
              have hTs : okT As ∧ okT rest := ⟨fun w hw => hT w (List.mem_append_left _ (List.mem_reverse.mpr hw)), fun w hw => hT w (List.mem_append_right _ hw)⟩
              have hMet := met_of ih k0 k1' k2' g h1 hspr hTs.1
              have kk := ih _ _ _ _ _ h g p e R u m args below meth c Q _ _ C (by rw [E1]; exact hcr) (by rw [E2]; exact hsr) (by rw [E1, E2]; exact hend)
              have hstk : (F0 m pc ls ((As.reverse ++ rest).map (cv g))).stack = (As.map (cv g)).reverse ++ rest.map (cv g) := by show ((As.reverse ++ rest).map (cv g)) = _; rw [List.map_append, List.map_reverse]
              have hlen2 : (As.map (cv g)).length = npr k' := by rw [List.length_map]; exact hAs
              have hst1 : (Cond.static (yK k')).before args u = true := hts _ (m3 (hhow.trans hkd))
              rcases hlink with hN | hM
              · exact o_back (va_runSN hfix hMet ⟨va_cnB (npr k') hts (goodK m2) rfl rfl rfl (C.2.2.2.2.2.1 _ hN) hini hpd hroom, hst1, trivial⟩ ⟨PcK_blind _ _ _, fun U hU hWm => hPre _ hTs.1 U hU hWm⟩ rfl hlen2 hl.1 hstk hWrest hd hfit) hS hl hL hTs.2 hSc hscr.2 hscr.1 hz1 kk
              · exact o_back (va_runS hfix hMet ⟨callB_of (npr k') hts (goodK m2) rfl rfl rfl hini (hts _ hM) hpd hroom, hst1⟩ ⟨PcK_blind _ _ _, fun U hU hWm => hPre _ hTs.1 U hU hWm⟩ rfl hlen2 hl.1 hstk hWrest hd hfit) hS hl hL hTs.2 hSc hscr.2 hscr.1 hz1 kk
            · obtain ⟨e1, e2, e3⟩ : k' = k1 ∧ aA a :: As = av ∧ (pc + 3, (L, rest)) = f1 := by cases hx; exact ⟨rfl, rfl, rfl⟩
              subst e1 e2 e3
              have hTs : okT (aA a :: As) ∧ okT rest := ⟨okT_c.mpr ⟨trivial, fun w hw => hT w (List.mem_append_left _ (List.mem_reverse.mpr hw))⟩, fun w hw => hT w (List.mem_append_right _ (List.mem_cons_of_mem _ hw))⟩
              have hMet := met_of ih k0 k1' k2' g h1 hspr hTs.1
              have kk := ih _ _ _ _ _ h g p e R u m args below meth c Q _ _ C (by rw [E1]; exact hcr) (by rw [E2]; exact hsr) (by rw [E1, E2]; exact hend)
              have hstk : (F0 m pc ls ((As.reverse ++ aA a :: rest).map (cv g))).stack = (As.map (cv g)).reverse ++ .ref (ad g a) :: rest.map (cv g) := by show ((As.reverse ++ aA a :: rest).map (cv g)) = _; rw [List.map_append, List.map_reverse]; rfl
              have hlen2 : (As.map (cv g)).length = npr k' := by rw [List.length_map]; exact hAs
              have hinst : (Cond.instanceMethod (yK k')).before args u = true := hts _ (m4 (fun q => hh1 (hhow.symm.trans q)))
              obtain ⟨n1, n2⟩ := m12 (fun q => hh1 (hhow.symm.trans q))
              obtain ⟨a1, a2, a3⟩ := onA_ok hoa
              have he := ws_get (g := g) (s := s) a2 a3
              rw [cel_o a1] at he
              obtain ⟨c1, -⟩ := cls_ok (own k') n2
              have hrec := va_recv C.2.2.2.2.2.2.2.1 hW.1 c1 he
              rw [n1, ← m7] at hrec
              rcases hkind with ⟨hkd, rfl⟩ | ⟨hkd, rfl⟩ | ⟨hkd, rfl⟩
              · have hsel : (Cond.selects (yK k').cls (yK k') (yK k')).before args u = true := hts _ (m5 (hhow.trans hkd))
                rcases hlink with hN | hM
                · exact o_back (va_runVN (C := (yK k').cls) hfix hMet ⟨va_cnB (npr k') hts (goodK m2) rfl rfl rfl (C.2.2.2.2.2.1 _ hN) hini hpd hroom, hinst, hsel⟩ ⟨PcK_blind _ _ _, hrec, fun U hU hWm => hPre _ hTs.1 U hU hWm⟩ rfl hlen2 hl.1 hstk hWrest hd hfit) hS hl hL hTs.2 hSc hscr.2 hscr.1 hz1 kk
                · exact o_back (va_runV (C := (yK k').cls) hfix hMet ⟨callB_of (npr k') hts (goodK m2) rfl rfl rfl hini (hts _ hM) hpd hroom, hinst, hsel⟩ ⟨PcK_blind _ _ _, hrec, fun U hU hWm => hPre _ hTs.1 U hU hWm⟩ rfl hlen2 hl.1 hstk hWrest hd hfit) hS hl hL hTs.2 hSc hscr.2 hscr.1 hz1 kk
              · obtain ⟨hnm, hrt⟩ := m6 (hhow.trans hkd)
                have hrk : retK k' = none := by unfold retK; rw [hrt]; rfl
                have hG := goodK m2
                have hw0 : wsK k' = Cond.code (yK k') (codeK k') (mxl k') none :: gw := by unfold wsK; rw [hrk]
                rcases hlink with hN | hM
                · exact o_back (va_runIN hfix hMet ⟨va_cnB (npr k') hts hG hw0 rfl rfl (C.2.2.2.2.2.1 _ hN) hini hpd hroom, hnm, hinst⟩ ⟨PcK_blind _ _ _, fun U hU hWm => hPre _ hTs.1 U hU hWm⟩ rfl hlen2 hl.1 hstk hWrest hd hfit) hS hl hL hTs.2 hSc hscr.2 hscr.1 hz1 kk
                · exact o_back (va_runI hfix hMet ⟨callB_of (npr k') hts hG hw0 rfl rfl hini (hts _ hM) hpd hroom, hnm, hinst⟩ ⟨PcK_blind _ _ _, fun U hU hWm => hPre _ hTs.1 U hU hWm⟩ rfl hlen2 hl.1 hstk hWrest hd hfit) hS hl hL hTs.2 hSc hscr.2 hscr.1 hz1 kk
              · exact absurd hkd hh1
