/-! calls, and the whole run -/
def wsK (k : Nat) : List Cond := Cond.code (yK k) (codeK k) (mxl k) (retK k) :: gw
theorem gw_good : ∀ w ∈ gw, ((w.onTables && w.keeps) = true ∨ ∃ ty, w = .arrayClass ty) := fun w h => good_of_word (List.mem_filter.mp h).2
theorem nw_form {w : Cond} (h : w ∈ nwl) : ∃ a i x b, w = .methodLinkNest a i x b := by
  have h2 := (List.mem_filter.mp h).2
  unfold isNw at h2
  split at h2
  · exact ⟨_, _, _, _, rfl⟩
  · cases h2
theorem goodK {k : Nat} (h : Cond.code (yK k) (codeK k) (mxl k) (retK k) ∈ gw) : GoodIn gw (wsK k) := fun w hw => by
  rcases List.mem_cons.mp hw with rfl | h1
  · exact ⟨h, gw_good _ h⟩
  · exact ⟨h1, gw_good _ h1⟩
/-- what a method's start must hold: its arguments, the world, the tables -/
def PcK (g : Gx) (s : Sx) (av : List AV) : Array Value → State → Prop := fun a U => a = (av.map (cv g)).toArray ∧ Wd g s U.heap ∧ U.heap.size = gB g + s.2.1 ∧ va_K (gD g) clT (tysG g) U ∧ (∀ w ∈ nwl, va_Nw w U) ∧ va_AO RX4 U
def QcK (g : Gx) (v : Option AV) (s2 : Sx) : Array Value → State → Outcome → State → Prop := fun _ st o t => o = .returned (v.map (cv g)) ∧ Wd g s2 t.heap ∧ va_F (bse g) st t ∧ ∀ w, v = some w → okV w
def rmK (k mc ms : Nat) : Room := { frames := frr k, cells := mc, slots := ms, locals := lor k }
theorem PcK_blind (g : Gx) (s : Sx) (av : List AV) : FrameBlind (PcK g s av) := by
  intro a U f mk h
  obtain ⟨h1, h2, h3, h4, h5, h6⟩ := h
  refine ⟨h1, h2, h3, va_K.moved (u := U) (U := U.calling f mk a) (Vm.Alike.refl U.vm) h4, fun w hw => ?_, va_AO.moved (u := U) (U := U.calling f mk a) (Vm.Alike.refl U.vm) h6⟩
  obtain ⟨_, _, _, _, rfl⟩ := nw_form hw
  exact va_Nw.same rfl rfl (h5 _ hw)
theorem spr_args (g : Gx) : ∀ (av : List AV) (i j : Nat) (v : AV), (spr av)[j]? = some (some v) → (i + j, cv g v) ∈ lv_args i (av.map (cv g))
  | [], i, j, v, h => by simp [spr] at h
  | w :: r, i, j, v, h => by
    rw [List.map_cons, lv_args, cv_cat]
    rcases w with z | z | a
    · cases j with
      | zero => simp only [spr, List.getElem?_cons_zero, Option.some.injEq] at h; subst h; exact List.mem_cons_self
      | succ j =>
        simp only [spr, List.getElem?_cons_succ] at h
        refine List.mem_cons_of_mem _ ?_
        rw [if_neg (show ¬ cat (Sum.inl z : AV) = 2 by simp [cat]), show i + (j + 1) = i + 1 + j by omega]
        exact spr_args g r (i + 1) j v h
    · cases j with
      | zero => simp only [spr, List.getElem?_cons_zero, Option.some.injEq] at h; subst h; exact List.mem_cons_self
      | succ j => cases j with
        | zero => simp [spr] at h
        | succ j =>
          simp only [spr, List.getElem?_cons_succ] at h
          refine List.mem_cons_of_mem _ ?_
          rw [if_pos (show cat (Sum.inr (Sum.inl z) : AV) = 2 from rfl), show i + (j + 1 + 1) = i + 2 + j by omega]
          exact spr_args g r (i + 2) j v h
    · cases j with
      | zero => simp only [spr, List.getElem?_cons_zero, Option.some.injEq] at h; subst h; exact List.mem_cons_self
      | succ j =>
        simp only [spr, List.getElem?_cons_succ] at h
        refine List.mem_cons_of_mem _ ?_
        rw [if_neg (show ¬ cat (Sum.inr (Sum.inr a) : AV) = 2 by simp [cat]), show i + (j + 1) = i + 1 + j by omega]
        exact spr_args g r (i + 1) j v h
theorem spr_len (g : Gx) : ∀ (av : List AV), (lg_sl (av.map (cv g))).length = (spr av).length
  | [] => rfl
  | w :: r => by
    have ih := spr_len g r
    have e1 : lg_sl ((w :: r).map (cv g)) = (if (cv g w).category = 2 then [Slot.val (cv g w), .second] else [.val (cv g w)]) ++ lg_sl (r.map (cv g)) := by simp [lg_sl]
    rw [e1, cv_cat, List.length_append, ih]
    rcases w with z | z | a
    · rw [if_neg (show ¬ cat (Sum.inl z : AV) = 2 by simp [cat])]; simp [spr]; omega
    · rw [if_pos (show cat (Sum.inr (Sum.inl z) : AV) = 2 from rfl)]; simp [spr]; omega
    · rw [if_neg (show ¬ cat (Sum.inr (Sum.inr a) : AV) = 2 by simp [cat])]; simp [spr]; omega
theorem entL_get {k : Nat} {av : List AV} {j : Nat} {v : AV} (h : (entL k av)[j]? = some (some v)) : (spr av)[j]? = some (some v) := by
  unfold entL at h
  rcases Nat.lt_or_ge j (spr av).length with q | q
  · rwa [List.getElem?_append_left q] at h
  · rw [List.getElem?_append_right q] at h
    have := List.eq_of_mem_replicate (List.mem_of_getElem? h)
    cases this
theorem spr_mem : ∀ {av : List AV} {j : Nat} {v : AV}, (spr av)[j]? = some (some v) → v ∈ av
  | [], j, v, h => by simp [spr] at h
  | w :: r, j, v, h => by
    rcases w with z | z | a
    · cases j with
      | zero => simp only [spr, List.getElem?_cons_zero, Option.some.injEq] at h; subst h; exact List.mem_cons_self
      | succ j => simp only [spr, List.getElem?_cons_succ] at h; exact List.mem_cons_of_mem _ (spr_mem h)
    · cases j with
      | zero => simp only [spr, List.getElem?_cons_zero, Option.some.injEq] at h; subst h; exact List.mem_cons_self
      | succ j => cases j with
        | zero => simp [spr] at h
        | succ j => simp only [spr, List.getElem?_cons_succ] at h; exact List.mem_cons_of_mem _ (spr_mem h)
    · cases j with
      | zero => simp only [spr, List.getElem?_cons_zero, Option.some.injEq] at h; subst h; exact List.mem_cons_self
      | succ j => simp only [spr, List.getElem?_cons_succ] at h; exact List.mem_cons_of_mem _ (spr_mem h)
/-- a run of n steps is sound -/
def SndP (l : Launch) (n : Nat) : Prop := ∀ (k : Nat) (f : Fr) (s : Sx) (v : Option AV) (s2 : Sx), rn n k f s = some (v, s2) → ∀ (g : Gx) (p : Program) (e : Env) (R : Room) (u : State) (m : MethodId) (args : Array Value) (below : List Frame) (meth : Method) (c : Code) (Q : State → Prop) (cells slots : Nat), Cx g p R u m args meth c k → cells + (s2.2.1 - s.2.1) ≤ R.cells → slots + (ssum s2.2.1 - ssum s.2.1) ≤ R.slots →
  (∀ (pc : Nat) (L : Lc), RetOk k pc v → Kk g p l e R u m args below meth c Q k (cells + (s2.2.1 - s.2.1)) (slots + (ssum s2.2.1 - ssum s.2.1)) pc L v.toList s2) → Kk g p l e R u m args below meth c Q k cells slots f.1 f.2.1 f.2.2 s
theorem met_of {l : Launch} {n k : Nat} (ih : SndP l n) (hk0 : 0 < k) (hk1 : k < 183) (hk2 : k ≠ 122) (g : Gx) {s s2 : Sx} {av : List AV} {v : Option AV} (hr : rn n k (0, (entL k av, [])) s = some (v, s2)) (hsp : (spr av).length ≤ mxl k) (hok : okT av) :
    Met l (yK k) (wsK k) (rmK k (s2.2.1 - s.2.1) (ssum s2.2.1 - ssum s.2.1)) (PcK g s av) (QcK g v s2) (s2.2.1 - s.2.1) (ssum s2.2.1 - ssum s.2.1) (bse g) := by
  obtain ⟨⟨m1, m2⟩, ⟨m3, m4, m5, m6⟩, m7, m8, m9, m10, m11, m12⟩ := mt_ok hk0 hk1 hk2
  refine Met.ofW (cc := codeK k) (maxL := mxl k) (ret := retK k) m11 rfl ?_
  intro p e u m args below meth c s₁ B hml hv
  obtain ⟨rfl, hW, hsz, hK, hN, hAO⟩ := hv
  have hts := atoms_spec (ws := wsK k) B.pre
  have hown : u.vm.findClass (cnm (own k)) = some m.cls := by rw [← m7]; exact findClass_of_methodNamed B.named
  have hlocks := B.notSynchronized
  have hret := B.returns
  have C : Cx g p (headSpec (wsK k) (rmK k (s2.2.1 - s.2.1) (ssum s2.2.1 - ssum s.2.1))).room u m ((av.map (cv g)).toArray) meth c k :=
    ⟨B.exec, B.bytes, hml, hown, fun w hw => hts w (List.mem_cons_of_mem _ hw), hN, hAO, hK, Nat.le_refl _, Nat.le_refl _, fun h => (name_of_methodNamed B.named B.method).1.trans (m6 h).1, by omega⟩
  have key := ih k (0, (entL k av, [])) s v s2 hr g p e _ u m _ below meth c (MQ below (QcK g v s2) ((av.map (cv g)).toArray) u (s2.2.1 - s.2.1) (ssum s2.2.1 - ssum s.2.1) (bse g)) 0 0 C (by show 0 + _ ≤ s2.2.1 - s.2.1; omega) (by show 0 + _ ≤ ssum s2.2.1 - ssum s.2.1; omega) (fun pc L hR => by
    intro H locs ls hW2 hS hl hL hT hSc hz
    rw [Nat.zero_add, Nat.zero_add]
    have hq : ∀ t : State, t.heap = H → u.WarmedH t.vm → QcK g v s2 ((av.map (cv g)).toArray) u (.returned (v.map (cv g))) t := fun t ht _ => ⟨rfl, by rw [ht]; exact hW2, hS.F ht, fun w hw => hT w (by rw [hw]; exact List.mem_singleton.mpr rfl)⟩
    rcases hR with ⟨z, rfl, hi, h3⟩ | ⟨z, rfl, hi, h3⟩ | ⟨a, rfl, hi, h3⟩ | ⟨rfl, hi, h3⟩
    · obtain ⟨hd, -⟩ := ins_ok hi
      rcases h3 with h3 | ⟨h3, h4⟩
      · have hr2 : meth.sig.returnType = some .int := by rw [hret]; unfold retK; rw [h3]; rfl
        exact W.iret (v := Int32.ofInt z) B.exec B.bytes hr2 hq hS.2.2 hd hlocks
      · have hr2 : meth.sig.returnType = some .boolean := by rw [hret]; unfold retK; rw [h3]; rfl
        exact W.zret (v := Int32.ofInt z) B.exec B.bytes hr2 (by rcases h4 with rfl | rfl <;> decide) hq hS.2.2 hd hlocks
    · obtain ⟨hd, -⟩ := ins_ok hi
      have hr2 : meth.sig.returnType = some .long := by rw [hret]; unfold retK; rw [h3]; rfl
      exact W.lret (v := Int64.ofInt z) B.exec B.bytes hr2 hq hS.2.2 hd hlocks
    · obtain ⟨hd, -⟩ := ins_ok hi
      have hr2 : meth.sig.returnType = some (cond (Nat.beq (own k) 9) (.object RX4) (.object RX6)) := by rw [hret]; unfold retK; rw [h3]; rfl
      refine W.aret (v := cv g (.inr (.inr a))) B.exec B.bytes hr2 ?_ ?_ hq hS.2.2 hd hlocks
      · cases Nat.beq (own k) 9
        · exact Or.inl ⟨_, rfl⟩
        · exact Or.inl ⟨_, rfl⟩
      · cases a with
        | none => exact Or.inl rfl
        | some a => exact Or.inr ⟨_, rfl⟩
    · obtain ⟨hd, -⟩ := ins_ok hi
      have hr2 : meth.sig.returnType = none := by rw [hret]; unfold retK; rw [h3]; rfl
      exact W.vret B.exec B.bytes hr2 hq hS.2.2 hd hlocks)
  have hl := lv_entry (av.map (cv g)) (n := mxl k) (by rw [spr_len]; exact hsp)
  rw [lg_entry_eq]
  generalize (lg_sl (av.map (cv g)) ++ List.replicate (mxl k - (lg_sl (av.map (cv g))).length) Slot.unset).toArray = ls at hl ⊢
  refine key u.heap [] ls hW va_S.rf ⟨hl.1, hl.2.1, fun j w hw => ?_⟩ (fun j w hw => hok w (spr_mem (entL_get hw))) (fun w hw => by cases hw) (fun h => absurd h (by omega)) (by omega)
  have h1 := spr_args g av 0 j w (entL_get hw)
  rw [Nat.zero_add] at h1
  exact hl.2.2 _ h1
section CALL
variable {g : Gx} {p : Program} {l : Launch} {e : Env} {R : Room} {u : State} {m : MethodId} {args : Array Value} {below : List Frame} {meth : Method} {c : Code} {Q : State → Prop} {k cells slots pc : Nat} {L : Lc} {st r : List AV} {s : Sx} {H : Heap} {locs : List Loc}
theorem wcall {Qa : State → Outcome → State → Prop} {free : Addr → Prop} {mc ms : Nat} {ls : Array Slot} {st0 rest : List Value} (hr : va_Run p l e R u m args below meth c H locs cells slots mc ms (F0 m pc ls st0) rest Qa free) (kk : ∀ (v : Option Value) (st₀ t : State) (H1 : Heap) (LL : List Loc), st₀.heap = H → (∀ q ∈ LL, free q.base) → H1 = t.heap → Qa st₀ (.returned v) t → W p l e R u m args below meth c H1 (locs ++ LL) (cells + mc) (slots + ms) Q (F0 m (pc + 3) ls (v.toList ++ rest))) : W p l e R u m args below meth c H locs cells slots Q (F0 m pc ls st0) := by
  intro T hT X
  obtain ⟨v, st₀, t, T', LL, h0, X', hL, e1, e2, hq, st⟩ := hr T hT X
  obtain ⟨t2, a1, b1⟩ := kk v st₀ t T'.heap LL h0 hL e1 hq T' rfl X'
  exact ⟨t2, st t2 a1, b1⟩
/-- behind a call the caller goes on in the callee's world -/
theorem o_back {mc ms : Nat} {v : Option AV} {s2 : Sx} {a : Array Value} {ls : Array Slot} {rest : List AV} {st0 : List Value} (hr : va_Run p l e R u m args below meth c H locs cells slots mc ms (F0 m pc ls st0) (rest.map (cv g)) (QcK g v s2 a) (bse g)) (hS : va_S (bse g) u.heap H locs) (hl : lvR g ls (mxl k) L) (hL : okL L) (hT : okT rest) (hSc : Sc g k s u) (hsc2 : ∀ j, s2.1 0 j = s.1 0 j) (hsl : s2.2.2.2 = s.2.2.2) (hz : u.heap.size + (cells + mc) = gB g + s2.2.1)
    (kk : Kk g p l e R u m args below meth c Q k (cells + mc) (slots + ms) (pc + 3) L (v.toList ++ rest) s2) : W p l e R u m args below meth c H locs cells slots Q (F0 m pc ls st0) := by
  refine wcall hr fun v' st₀ t H1 LL h0 hLL e1 hq => ?_
  obtain ⟨q1, q2, q3, q4⟩ := hq
  cases q1
  have e3 : (v.map (cv g)).toList ++ rest.map (cv g) = (v.toList ++ rest).map (cv g) := by cases v <;> simp
  rw [e3]
  refine kk H1 (locs ++ LL) ls (by rw [e1]; exact q2) ⟨?_, fun q h1 h2 => ?_, fun q hq => ?_⟩ hl hL ?_ ?_ hz
  · have := hS.1; have := q3.1; rw [h0] at this; rw [e1]; omega
  · rw [e1, q3.2 q (by rw [h0]; exact Nat.lt_of_lt_of_le h1 hS.1) h2, h0]; exact hS.2.1 q h1 h2
  · rcases List.mem_append.mp hq with h | h
    · exact hS.2.2 q h
    · exact hLL q h
  · intro w hw
    rcases List.mem_append.mp hw with h | h
    · cases v with
      | none => cases h
      | some w' => rw [List.mem_singleton.mp h]; exact q4 _ rfl
    · exact hT w h
  · intro hk
    have h1 := hSc hk
    rw [hsl, show (fun j => Int32.ofInt (s2.1 0 j)) = fun j => Int32.ofInt (s.1 0 j) from funext fun j => by rw [hsc2]]
    exact h1
end CALL
