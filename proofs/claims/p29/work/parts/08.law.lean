/-! from a run of the abstract machine to the law -/
def R_law : String := "CordHouseLaw"
def lw_P (b : Addr) (xs : List Int32) (args : Array Value) (s : State) : Prop := args = #[.ref b] ∧ s.IntsAt b xs ∧ xs.length ≤ 3072 ∧ (Jvm.Cond.and given_1 narrow_1).before args s = true
def lw_Q (_ : Array Value) (s : State) (o : Outcome) (t : State) : Prop := o = .returned (some (.int 1)) ∧ Framed s o t [] 600000 7302250
def lw_Z (below : List Frame) (a : Array Value) (s : State) : State → Prop := fun t => ∃ o, t.status = .running ∧ Ended t below o ∧ lw_Q a s o t
/-- the law's own end, with 1 on the stack, nothing written that was there before, its room as the claim has it -/
theorem lw_ret {p : Program} {l : Launch} {e : Env} {s : State} {m : MethodId} {below : List Frame} {meth : Method} {c : Code} {b : Nat} (hx : p.tables.exec = Jvm.exec) (hb : c.code = code) (hr : meth.sig.returnType = ret) (hlocks : meth.locks = false) {pc : Nat} {H : Heap} {ls : Array Slot} (hdg : decode code pc = .ok (.ireturn, 1)) : W p l e room_1 s m #[Value.ref b] below meth c H [] 600000 7302250 (lw_Z below #[Value.ref b] s) (F0 m pc ls [.int 1]) := by
  intro T hT X
  obtain ⟨fs, hret, hrun, hended, hW, hframe⟩ := X.leave (v := some (.int 1)) (hlocks := hlocks) (fun h => by rw [hr] at h; cases h)
  have hmeth' : T.vm.method? m = some meth := X.method'
  refine ⟨T.setFrames fs, ?_, .returned (some (.int 1)), hrun, hended, rfl, ⟨_, rfl⟩, hW, hframe⟩
  jvm_step X.here [X.here.top, hx, hb, hdg, hmeth', hr, ret, narrow_b1]
  (try refine ⟨rfl, ?_⟩); (try refine ⟨rfl, ?_⟩)
  first | (intro acts; rw [hret _ acts rfl rfl rfl]) | rw [hret _ _ rfl rfl rfl]
  exact Steps.refl _
/-- what holds at the law's entry: the machine, the code, the tables' words (any of lw_tbl by 'hts w (by decide +kernel)'), the script of L ints xs at the cell b, what the Statement gives of the start (any of its parts by flat_of_before) -/
def lw_At (p : Program) (s : State) (m : MethodId) (meth : Method) (c : Code) (b L : Nat) (xs : Nat → Int32) : Prop :=
  p.tables.exec = Jvm.exec ∧ c.code = code ∧ meth.sig.returnType = ret ∧ c.maxLocals = 4 ∧ s.vm.findClass R_law = some m.cls ∧ (∀ w ∈ lw_tbl, w.before #[Value.ref b] s = true) ∧ va_X b L xs s s.heap ∧ b < s.heap.size ∧ meth.locks = false ∧ (Jvm.Cond.and given_1 narrow_1).before #[Value.ref b] s = true
theorem nw_tables {w : Cond} (h : w ∈ nwl) : w.onTables = true := by
  obtain ⟨_, _, _, _, rfl⟩ := nw_form h
  rfl
theorem law_arr : (.arrayOver (.object RX4) : Cond) ∈ lw_tbl := List.mem_of_getElem? (i := 75) (by decide +kernel)
theorem law_of {p : Program} {e : Env} {s : State} {m : MethodId} {below : List Frame} {meth : Method} {c : Code} (l : Launch) {b L : Nat} {xs : Nat → Int32} (hL : L < 2147483648) (C0 : lw_At p s m meth c b L xs) (n : Nat) (s2 : Sx) (hrun : rn n 0 (0, (entL 0 [aA 0], [])) (sx0 (m0 fun j => (xs j).toInt) L) = some (some (aI 1), s2)) (hc2 : s2.2.1 ≤ 600000) (hs2 : ssum s2.2.1 ≤ 7302250) :
    W p l e room_1 s m #[Value.ref b] below meth c s.heap [] 0 0 (lw_Z below #[Value.ref b] s) (entryFrame m ([Value.ref b] : List Value).toArray 4) := by
  obtain ⟨hx, hb, hr, hml, hown, hts, hX, hbl, hlocks, hgv⟩ := id C0
  have htg : ∀ w ∈ gw, w.before #[Value.ref b] s = true := fun w hw => hts w (List.mem_filter.mp hw).1
  have hkn : ∀ ci, ci < 11 → ∃ (cC : ClassId) (iS : Nat → Nat), u_Kn s (clG ci).1 (clG ci).2.1 (clG ci).2.2 cC iS := fun ci hci => by
    obtain ⟨c1, c2, c3, c4, c5, -⟩ := cls_ok ci hci
    exact u_known htg c4 (htg _ c5)
  have hkn2 : ∃ (dC : Nat → ClassId) (dI : Nat → Nat → Nat), ∀ ci, ci < 11 → u_Kn s (clG ci).1 (clG ci).2.1 (clG ci).2.2 (dC ci) (dI ci) := by
    refine ⟨fun ci => if h : ci < 11 then (hkn ci h).choose else 0, fun ci => if h : ci < 11 then (hkn ci h).choose_spec.choose else fun _ => 0, fun ci hci => ?_⟩
    simp only [dif_pos hci]
    exact (hkn ci hci).choose_spec.choose_spec
  obtain ⟨dC, dI, hD⟩ := hkn2
  obtain ⟨cI, kI, pI, hI1, hI2, hI3⟩ := Cond.arrayClass_spec (htg _ gx_6)
  obtain ⟨cZ, kZ, pZ, hZ1, hZ2, hZ3⟩ := Cond.arrayClass_spec (htg _ gx_7)
  obtain ⟨cJ, kJ, pJ, hJ1, hJ2, hJ3⟩ := Cond.arrayClass_spec (htg _ gx_8)
  obtain ⟨pK, cK, kK, hK1, hK0, hK2, hK3, hK4⟩ := Cond.arrayOver_spec (hts _ law_arr)
  obtain ⟨g, hg⟩ : ∃ g : Gx, g = ((dC, dI), ((fun t => match t with | 1 => cI | 2 => cZ | 3 => cJ | _ => cK), (s.heap.size, b))) := ⟨_, rfl⟩
  have gB1 : gB g = s.heap.size := by rw [hg]; rfl
  have gS1 : gS g = b := by rw [hg]; rfl
  have hK : va_K (gD g) clT (tysG g) s := by
    refine ⟨fun ci q hq => ?_, fun k q hq => ?_⟩
    · have hlt : ci < 11 := by
        have := (List.getElem?_eq_some_iff.mp hq).1
        simpa [clT] using this
      obtain ⟨c1, -⟩ := cls_ok ci hlt
      rw [c1] at hq
      cases hq
      rw [hg]
      exact hD ci hlt
    · have arr : ∀ {cA : ClassId} {kA : Class} {comp : ClassId} {ty : FieldType}, s.vm.classes[cA]? = some kA → kA.kind = .array comp ty → ArrOfT s cA ty := fun h2 h3 => fun N z => ⟨(fun k h => by cases h), _, h2, _, h3⟩
      rw [hg] at hq
      match k, hq with
      | 0, hq => cases hq; exact ⟨arr hI2 hI3, hI1⟩
      | 1, hq => cases hq; exact ⟨arr hZ2 hZ3, hZ1⟩
      | 2, hq => cases hq; exact ⟨arr hJ2 hJ3, hJ1⟩
      | 3, hq => cases hq; exact ⟨arr hK2 hK3, kK, pK, hK2, hK3, hK1, hK4⟩
      | k + 4, hq => simp [tysG] at hq
  have C : Cx g p room_1 s m #[Value.ref b] meth c 0 := ⟨hx, hb, hml, hown, htg, fun w hw => va_Nw.of (nw_tables hw) (hts w (List.mem_filter.mp hw).1), va_AO.of (hts _ law_arr), hK, by decide, by decide, (fun h => by cases h), by rw [gB1]; exact Nat.le_refl _⟩
  have hcv : cv g (aA 0) = .ref b := by show Value.ref (gS g) = _; rw [gS1]
  have hss : ssum (sx0 (m0 fun j => (xs j).toInt) L).2.1 = 0 := rfl
  have key := snd_all l n 0 (0, (entL 0 [aA 0], [])) _ _ s2 hrun g p e room_1 s m #[Value.ref b] below meth c (lw_Z below #[Value.ref b] s) 0 0 C (by show 0 + (s2.2.1 - 0) ≤ 600000; omega) (by rw [hss]; show 0 + (ssum s2.2.1 - 0) ≤ 7302250; omega) (fun pc L1 hR => by
    intro H locs ls hW2 hS hl hL2 hT hSc hz
    refine va_forget (fun q hq => by have := hS.2.2 q hq; unfold bse at this; rw [gB1] at this; exact this) ?_
    refine W.widen (k := 600000) (n := 7302250) (by show 0 + (s2.2.1 - 0) ≤ 600000; omega) (by rw [hss]; show 0 + (ssum s2.2.1 - 0) ≤ 7302250; omega) ?_
    rcases hR with ⟨z, hz1, hi, -⟩ | ⟨z, hz1, -⟩ | ⟨z, hz1, -⟩ | ⟨hz1, -⟩
    · cases hz1
      obtain ⟨hd, -⟩ := ins_ok hi
      exact lw_ret hx hb hr hlocks hd
    · cases hz1
    · cases hz1
    · cases hz1)
  have hl := lv_entry ([Value.ref b]) (n := 4) (Nat.le_of_ble_eq_true rfl)
  rw [lg_entry_eq]
  generalize (lg_sl ([Value.ref b]) ++ List.replicate (4 - (lg_sl ([Value.ref b])).length) Slot.unset).toArray = ls at hl ⊢
  refine key s.heap [] ls ⟨fun i q hq => by simp [wsG, sx0] at hq, fun a j ha => ?_, fun a j ha => ?_, fun a j ha => ?_, (fun q hq => by cases hq), hL⟩ va_S.rf ⟨hl.1, hl.2.1, fun j w hw => ?_⟩ (fun j w hw => ?_) (fun w hw => by cases hw) (fun _ => ?_) (by rw [gB1]; rfl)
  · show in64 (m0 (fun j => (xs j).toInt) a j)
    cases a with
    | zero => have := i32r (xs j); exact ⟨by have := this.1; show _ ≤ (xs j).toInt; omega, by have := this.2; show (xs j).toInt ≤ _; omega⟩
    | succ a => show in64 0; unfold in64; omega
  · show in32 (m0 (fun j => (xs j).toInt) a j)
    cases a with
    | zero => exact i32r (xs j)
    | succ a => exact in32_0
  · show m0 (fun j => (xs j).toInt) a j = 0
    cases a with
    | zero => exact absurd ha (Nat.lt_irrefl _)
    | succ a => rfl
  · have h1 := spr_args g [aA 0] 0 j w (entL_get (k := 0) hw)
    rw [Nat.zero_add] at h1
    have h2 : (j, cv g w) ∈ lv_args 0 [Value.ref b] := by rw [← hcv]; exact h1
    exact hl.2.2 _ h2
  · have := spr_mem (entL_get (k := 0) hw)
    rw [List.mem_singleton.mp this]
    trivial
  · refine ⟨?_, by rw [gS1]; exact hbl, by rw [gB1, gS1]; omega⟩
    have e1 : (fun j => Int32.ofInt ((sx0 (m0 fun j => (xs j).toInt) L).1 0 j)) = xs := by
      funext j
      exact Int32.ofInt_toInt _
    rw [e1, gS1]
    exact hX
