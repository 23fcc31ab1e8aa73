theorem clG_cnm : ∀ ci, ci < 11 → (clG ci).1 = cnm ci := (lt_s (lt_s (lt_s (lt_s (lt_s (lt_s (lt_s (lt_s (lt_s (lt_s (lt_s lt_0 rfl) rfl) rfl) rfl) rfl) rfl) rfl) rfl) rfl) rfl) rfl)
theorem kd_ne {a t n : Nat} (h : kd a = (t, n)) (ht : t ≠ 3) : (kd a).1 ≠ 3 := by rw [h]; exact ht
section ONE
variable {g : Gx} {p : Program} {l : Launch} {e : Env} {R : Room} {u : State} {m : MethodId} {args : Array Value} {below : List Frame} {meth : Method} {c : Code} {Q : State → Prop} {k cells slots pc : Nat} {L : Lc} {st r : List AV} {s : Sx}
theorem tgt_ok {pc : Nat} {d : Int} (h : 0 ≤ (pc : Int) + d) : (pc : Int) + d = ((((pc : Int) + d).toNat : Nat) : Int) := (Int.toNat_of_nonneg h).symm
theorem o_icmp (C : Cx g p R u m args meth c k) {cc : Jvm.ClassFile.Cond} {d x y : Int} (hd : decode (codeK k) pc = .ok (.if_icmp cc d, 3)) (h0 : 0 ≤ (pc : Int) + d) (kt : cmpb cc x y = true → Kk g p l e R u m args below meth c Q k cells slots ((pc : Int) + d).toNat L r s) (kf : cmpb cc x y = false → Kk g p l e R u m args below meth c Q k cells slots (pc + 3) L r s) : Kk g p l e R u m args below meth c Q k cells slots pc L (aI y :: aI x :: r) s := by
  intro H locs ls hW hS hl hL hT hSc hz
  obtain ⟨hy, hT2⟩ := okT_c.mp hT
  obtain ⟨hx, hT3⟩ := okT_c.mp hT2
  have ht := tgt_ok h0
  cases cc with
  | eq => exact lv_icmp_eq C.1 C.2.1 hd ht (fun h => kt (by simpa [cmpb] using (i32eq hx hy).mp h) H locs ls hW hS hl hL hT3 hSc hz) (fun h => kf (by simpa [cmpb] using fun q => h ((i32eq hx hy).mpr q)) H locs ls hW hS hl hL hT3 hSc hz)
  | ne => exact lv_icmp_ne C.1 C.2.1 hd ht (fun h => kt (by simpa [cmpb] using fun q => h ((i32eq hx hy).mpr q)) H locs ls hW hS hl hL hT3 hSc hz) (fun h => kf (by simpa [cmpb] using (i32eq hx hy).mp h) H locs ls hW hS hl hL hT3 hSc hz)
  | lt => exact lv_icmp_lt C.1 C.2.1 hd ht (fun h => kt (by simpa [cmpb] using (i32lt hx hy).mp h) H locs ls hW hS hl hL hT3 hSc hz) (fun h => kf (by simpa [cmpb] using Int.not_lt.mp fun q => h ((i32lt hx hy).mpr q)) H locs ls hW hS hl hL hT3 hSc hz)
  | ge => exact lv_icmp_ge C.1 C.2.1 hd ht (fun h => kt (by simpa [cmpb] using (i32le hy hx).mp h) H locs ls hW hS hl hL hT3 hSc hz) (fun h => kf (by simpa [cmpb] using Int.not_le.mp fun q => h ((i32le hy hx).mpr q)) H locs ls hW hS hl hL hT3 hSc hz)
  | gt => exact lv_icmp_gt C.1 C.2.1 hd ht (fun h => kt (by simpa [cmpb] using (i32lt hy hx).mp h) H locs ls hW hS hl hL hT3 hSc hz) (fun h => kf (by simpa [cmpb] using Int.not_lt.mp fun q => h ((i32lt hy hx).mpr q)) H locs ls hW hS hl hL hT3 hSc hz)
  | le => exact lv_icmp_le C.1 C.2.1 hd ht (fun h => kt (by simpa [cmpb] using (i32le hx hy).mp h) H locs ls hW hS hl hL hT3 hSc hz) (fun h => kf (by simpa [cmpb] using Int.not_le.mp fun q => h ((i32le hx hy).mpr q)) H locs ls hW hS hl hL hT3 hSc hz)
theorem o_if (C : Cx g p R u m args meth c k) {cc : Jvm.ClassFile.Cond} {d x : Int} (hd : decode (codeK k) pc = .ok (.ifCond cc d, 3)) (h0 : 0 ≤ (pc : Int) + d) (kt : cmpb cc x 0 = true → Kk g p l e R u m args below meth c Q k cells slots ((pc : Int) + d).toNat L r s) (kf : cmpb cc x 0 = false → Kk g p l e R u m args below meth c Q k cells slots (pc + 3) L r s) : Kk g p l e R u m args below meth c Q k cells slots pc L (aI x :: r) s := by
  intro H locs ls hW hS hl hL hT hSc hz
  obtain ⟨hx, hT3⟩ := okT_c.mp hT
  have hy := in32_0
  have ht := tgt_ok h0
  cases cc with
  | eq => exact lv_if_eq C.1 C.2.1 hd ht (fun h => kt (by simpa [cmpb] using (i32eq hx hy).mp h) H locs ls hW hS hl hL hT3 hSc hz) (fun h => kf (by simpa [cmpb] using fun q => h ((i32eq hx hy).mpr q)) H locs ls hW hS hl hL hT3 hSc hz)
  | ne => exact lv_if_ne C.1 C.2.1 hd ht (fun h => kt (by simpa [cmpb] using fun q => h ((i32eq hx hy).mpr q)) H locs ls hW hS hl hL hT3 hSc hz) (fun h => kf (by simpa [cmpb] using (i32eq hx hy).mp h) H locs ls hW hS hl hL hT3 hSc hz)
  | lt => exact lv_if_lt C.1 C.2.1 hd ht (fun h => kt (by simpa [cmpb] using (i32lt hx hy).mp h) H locs ls hW hS hl hL hT3 hSc hz) (fun h => kf (by simpa [cmpb] using Int.not_lt.mp fun q => h ((i32lt hx hy).mpr q)) H locs ls hW hS hl hL hT3 hSc hz)
  | ge => exact lv_if_ge C.1 C.2.1 hd ht (fun h => kt (by simpa [cmpb] using (i32le hy hx).mp h) H locs ls hW hS hl hL hT3 hSc hz) (fun h => kf (by simpa [cmpb] using Int.not_le.mp fun q => h ((i32le hy hx).mpr q)) H locs ls hW hS hl hL hT3 hSc hz)
  | gt => exact lv_if_gt C.1 C.2.1 hd ht (fun h => kt (by simpa [cmpb] using (i32lt hy hx).mp h) H locs ls hW hS hl hL hT3 hSc hz) (fun h => kf (by simpa [cmpb] using Int.not_lt.mp fun q => h ((i32lt hy hx).mpr q)) H locs ls hW hS hl hL hT3 hSc hz)
  | le => exact lv_if_le C.1 C.2.1 hd ht (fun h => kt (by simpa [cmpb] using (i32le hx hy).mp h) H locs ls hW hS hl hL hT3 hSc hz) (fun h => kf (by simpa [cmpb] using Int.not_le.mp fun q => h ((i32le hx hy).mpr q)) H locs ls hW hS hl hL hT3 hSc hz)
theorem o_ifnull_s (C : Cx g p R u m args meth c k) {a : Nat} {d : Int} (hd : decode (codeK k) pc = .ok (.ifnull d, 3)) (kk : Kk g p l e R u m args below meth c Q k cells slots (pc + 3) L r s) : Kk g p l e R u m args below meth c Q k cells slots pc L (aA a :: r) s := by
  intro H locs ls hW hS hl hL hT hSc hz
  exact lv_ifnull C.1 C.2.1 hd (kk H locs ls hW hS hl hL (okT_c.mp hT).2 hSc hz)
theorem o_ifnull_n (C : Cx g p R u m args meth c k) {d : Int} (hd : decode (codeK k) pc = .ok (.ifnull d, 3)) (h0 : 0 ≤ (pc : Int) + d) (kk : Kk g p l e R u m args below meth c Q k cells slots ((pc : Int) + d).toNat L r s) : Kk g p l e R u m args below meth c Q k cells slots pc L (aN :: r) s := by
  intro H locs ls hW hS hl hL hT hSc hz
  exact lv_ifnullN C.1 C.2.1 hd (tgt_ok h0) (kk H locs ls hW hS hl hL (okT_c.mp hT).2 hSc hz)
theorem o_ifnonnull_s (C : Cx g p R u m args meth c k) {a : Nat} {d : Int} (hd : decode (codeK k) pc = .ok (.ifnonnull d, 3)) (h0 : 0 ≤ (pc : Int) + d) (kk : Kk g p l e R u m args below meth c Q k cells slots ((pc : Int) + d).toNat L r s) : Kk g p l e R u m args below meth c Q k cells slots pc L (aA a :: r) s := by
  intro H locs ls hW hS hl hL hT hSc hz
  exact lv_ifnonnull C.1 C.2.1 hd (tgt_ok h0) (kk H locs ls hW hS hl hL (okT_c.mp hT).2 hSc hz)
theorem o_ifnonnull_n (C : Cx g p R u m args meth c k) {d : Int} (hd : decode (codeK k) pc = .ok (.ifnonnull d, 3)) (kk : Kk g p l e R u m args below meth c Q k cells slots (pc + 3) L r s) : Kk g p l e R u m args below meth c Q k cells slots pc L (aN :: r) s := by
  intro H locs ls hW hS hl hL hT hSc hz
  exact lv_ifnonnullN C.1 C.2.1 hd (kk H locs ls hW hS hl hL (okT_c.mp hT).2 hSc hz)
theorem o_tabOut (C : Cx g p R u m args meth c k) {df lo hi x : Int} {os : Array Int} {len : Nat} (hd : decode (codeK k) pc = .ok (.tableswitch df lo hi os, len)) (h : x < lo ∨ hi < x) (h0 : 0 ≤ (pc : Int) + df) (kk : Kk g p l e R u m args below meth c Q k cells slots ((pc : Int) + df).toNat L r s) : Kk g p l e R u m args below meth c Q k cells slots pc L (aI x :: r) s := by
  intro H locs ls hW hS hl hL hT hSc hz
  exact lv_tableOut C.1 C.2.1 hd (by rw [i32 (okT_c.mp hT).1]; exact h) (tgt_ok h0) (kk H locs ls hW hS hl hL (okT_c.mp hT).2 hSc hz)
theorem o_tabIn (C : Cx g p R u m args meth c k) {df lo hi x o : Int} {os : Array Int} {len : Nat} (hd : decode (codeK k) pc = .ok (.tableswitch df lo hi os, len)) (h1 : ¬ x < lo) (h2 : ¬ hi < x) (ho : os[(x - lo).toNat]? = some o) (h0 : 0 ≤ (pc : Int) + o) (kk : Kk g p l e R u m args below meth c Q k cells slots ((pc : Int) + o).toNat L r s) : Kk g p l e R u m args below meth c Q k cells slots pc L (aI x :: r) s := by
  intro H locs ls hW hS hl hL hT hSc hz
  have e1 : (Int32.ofInt x).toInt = x := i32 (okT_c.mp hT).1
  exact lv_tableIn C.1 C.2.1 hd (by rw [e1]; exact h1) (by rw [e1]; exact h2) (by rw [e1]; exact ho) (tgt_ok h0) (kk H locs ls hW hS hl hL (okT_c.mp hT).2 hSc hz)
theorem o_look (C : Cx g p R u m args meth c k) {df x : Int} {ps : Array (Int × Int)} {len : Nat} (hd : decode (codeK k) pc = .ok (.lookupswitch df ps, len)) (hp : (ps.toList.zip (ps.toList.drop 1)).all (fun q => decide (q.1.1 < q.2.1)) = true) (h0 : 0 ≤ (pc : Int) + Op.lookupswitch.offset ps.toList df x) (kk : Kk g p l e R u m args below meth c Q k cells slots ((pc : Int) + Op.lookupswitch.offset ps.toList df x).toNat L r s) : Kk g p l e R u m args below meth c Q k cells slots pc L (aI x :: r) s := by
  intro H locs ls hW hS hl hL hT hSc hz
  exact lv_lookup C.1 C.2.1 hd hp (by rw [i32 (okT_c.mp hT).1]) (tgt_ok h0) (kk H locs ls hW hS hl hL (okT_c.mp hT).2 hSc hz)
theorem fv_get {ci a j : Nat} (hj : j < (clG ci).2.2) : ((List.range (clG ci).2.2).map (fv g s a ci))[j]? = some (fv g s a ci j) := by simp [hj]
theorem o_geti (C : Cx g p R u m args meth c k) {i ci j a : Nat} (hd : decode (codeK k) pc = .ok (.getfield i, 3)) (hf : fl k i = some (ci, j)) (ha : onA a s 0 ci = true) (ht : Nat.beq (ft ci j) 2 = false) (kk : Kk g p l e R u m args below meth c Q k cells slots (pc + 3) L (aI (s.1 a j) :: r) s) : Kk g p l e R u m args below meth c Q k cells slots pc L (aA a :: r) s := by
  intro H locs ls hW hS hl hL hT hSc hz
  obtain ⟨h1, h2, h3, h4, h5⟩ := fl_ok hf
  obtain ⟨c1, c2, c3, c4, -⟩ := cls_ok ci h4
  obtain ⟨a1, a2, a3⟩ := onA_ok ha
  have he := ws_get (g := g) (s := s) a2 a3
  rw [cel_o a1] at he
  have hv : fv g s a ci j = .int (Int32.ofInt (s.1 a j)) := by unfold fv; rw [ht]; rfl
  exact va_get C.1 C.2.1 (own := cnm (own k)) (ref := (clG ci).1) (C := (clG ci).1) (T := (clG ci).2.1) (N := (clG ci).2.2) C.2.2.2.2.1 c4 C.2.2.2.1 C.2.2.2.2.2.2.2.1 hW.1 (a - 1) he c1 j h2 (C.2.2.2.2.1 _ h1) (fun x hx => by rw [h3] at hx; exact hx) ((fv_get h2).trans (by rw [hv]; rfl)) hd (kk H locs ls hW hS hl hL (okT_c.mpr ⟨hW.2.2.1 a j (kd_ne a1 (by decide)), (okT_c.mp hT).2⟩) hSc hz)
theorem o_getr (C : Cx g p R u m args meth c k) {i ci j a : Nat} (hd : decode (codeK k) pc = .ok (.getfield i, 3)) (hf : fl k i = some (ci, j)) (ha : onA a s 0 ci = true) (ht : Nat.beq (ft ci j) 2 = true) (hm : hasM s a j = true) (kk : Kk g p l e R u m args below meth c Q k cells slots (pc + 3) L (aA (a + ofs ci j) :: r) s) : Kk g p l e R u m args below meth c Q k cells slots pc L (aA a :: r) s := by
  intro H locs ls hW hS hl hL hT hSc hz
  obtain ⟨h1, h2, h3, h4, h5⟩ := fl_ok hf
  obtain ⟨c1, c2, c3, c4, -⟩ := cls_ok ci h4
  obtain ⟨a1, a2, a3⟩ := onA_ok ha
  have he := ws_get (g := g) (s := s) a2 a3
  rw [cel_o a1] at he
  have hv : fv g s a ci j = .ref (ad g (a + ofs ci j)) := by unfold fv; rw [ht, hm]; rfl
  exact va_get C.1 C.2.1 (own := cnm (own k)) (ref := (clG ci).1) (C := (clG ci).1) (T := (clG ci).2.1) (N := (clG ci).2.2) C.2.2.2.2.1 c4 C.2.2.2.1 C.2.2.2.2.2.2.2.1 hW.1 (a - 1) he c1 j h2 (C.2.2.2.2.1 _ h1) (fun x hx => by rw [h3] at hx; exact hx) ((fv_get h2).trans (by rw [hv]; rfl)) hd (kk H locs ls hW hS hl hL (okT_c.mpr ⟨trivial, (okT_c.mp hT).2⟩) hSc hz)
theorem sc_up {a j : Nat} {x : Int} (h : Sc g k s u) (ha : 1 ≤ a) : Sc g k (sM s (up2 s.1 a j x)) u := by
  intro hk
  have h1 := h hk
  have e1 : (fun j' => Int32.ofInt ((sM s (up2 s.1 a j x)).1 0 j')) = fun j' => Int32.ofInt (s.1 0 j') := by
    funext j'
    show Int32.ofInt (up2 s.1 a j x 0 j') = _
    rw [up2_n _ _ _ _ (by omega)]
  rw [e1]
  exact h1
theorem map_set_fv {s' : Sx} {a ci j N : Nat} (ho : ∀ j', j' ≠ j → fv g s' a ci j' = fv g s a ci j') : ((List.range N).map (fv g s a ci)).set j (fv g s' a ci j) = (List.range N).map (fv g s' a ci) := by
  apply List.ext_getElem?
  intro i
  rw [List.getElem?_set]
  by_cases h : j = i
  · subst h
    rw [if_pos rfl]
    rcases Nat.lt_or_ge j N with q | q
    · rw [if_pos (by simpa using q)]; simp [q]
    · rw [if_neg (by simpa using q)]; simp [q]
  · rw [if_neg h]
    rcases Nat.lt_or_ge i N with q | q
    · simp [q, ho i (fun e => h e.symm)]
    · simp [q]
theorem fv_up {a ci j j' : Nat} {x : Int} (h : j' ≠ j) : fv g (sM s (up2 s.1 a j x)) a ci j' = fv g s a ci j' := by
  show cond (Nat.beq (ft ci j') 2) (cond (hasM s a j') _ _) (Value.int (Int32.ofInt (up2 s.1 a j x a j'))) = _
  rw [up2_r, if_neg h]
  rfl
theorem cel_up {a b j : Nat} {x : Int} (h : b ≠ a) : cel g (sM s (up2 s.1 a j x)) b = cel g s b := cel_congr (fun i => up2_n _ _ _ _ h) (fun _ => rfl)
theorem cel_sK {a b j : Nat} (h : b ≠ a) : cel g (sK s a j) b = cel g s b := cel_congr (fun _ => rfl) (fun i => by
  rw [hasM_sK, show Nat.beq a b = false from beqN (fun e => h e.symm)]; rfl)
theorem o_puti (C : Cx g p R u m args meth c k) {i ci j a : Nat} {x : Int} (hd : decode (codeK k) pc = .ok (.putfield i, 3)) (hf : fl k i = some (ci, j)) (ha : onA a s 0 ci = true) (ht : ft ci j = 0 ∨ (ft ci j = 1 ∧ (x = 0 ∨ x = 1))) (kk : Kk g p l e R u m args below meth c Q k cells slots (pc + 3) L r (sM s (up2 s.1 a j x))) : Kk g p l e R u m args below meth c Q k cells slots pc L (aI x :: aA a :: r) s := by
  intro H locs ls hW hS hl hL hT hSc hz
  obtain ⟨h1, h2, h3, h4, h5⟩ := fl_ok hf
  obtain ⟨c1, c2, c3, c4, -, -, c7, -⟩ := cls_ok ci h4
  obtain ⟨a1, a2, a3⟩ := onA_ok ha
  obtain ⟨hx, hT2⟩ := okT_c.mp hT
  have he := ws_get (g := g) (s := s) a2 a3
  rw [cel_o a1] at he
  have hft : Nat.beq (ft ci j) 2 = false := by
    rcases ht with q | ⟨q, -⟩ <;> rw [q] <;> rfl
  have hty : narrow (tyT ci j) (.int (Int32.ofInt x)) = .int (Int32.ofInt x) ∧ fits (tyT ci j) (.int (Int32.ofInt x)) = true := by
    have h7 := c7 j h2
    unfold tyB at h7
    rcases ht with q | ⟨q, q2⟩
    · rw [q] at h7
      cases e : tyT ci j <;> rw [e] at h7 <;> first | exact ⟨rfl, rfl⟩ | cases h7
    · rw [q] at h7
      cases e : tyT ci j <;> rw [e] at h7 <;> first | (rcases q2 with rfl | rfl <;> exact ⟨by decide, by decide⟩) | cases h7
  refine va_put C.1 C.2.1 (own := cnm (own k)) (ref := (clG ci).1) (C := (clG ci).1) (T := (clG ci).2.1) (N := (clG ci).2.2) C.2.2.2.2.1 c4 (tyT ci) c2 c3 C.2.2.2.1 C.2.2.2.2.2.2.2.1 hW.1 (ws_D g s) hS (a - 1) he c1 j h2 (C.2.2.2.2.1 _ h1) (fun x hx => by rw [h3] at hx; exact hx) (by rw [h5, hft]) (c2 j h2) hty.1 hty.2 (by simpa using h2) hd fun H1 locs1 hP1 hD1 hS1 => ?_
  refine kk H1 locs1 ls (Wd_set (s := s) (a := a) rfl a2 a3 (fun b hb => cel_up hb) ?_ (okS_up hW.2 a3 (fun q => by rw [a1] at q; cases q) (fun _ => hx)) hP1) hS1 hl hL (okT_c.mp hT2).2 (sc_up hSc a2) hz
  rw [cel_o a1, ← map_set_fv (s := s) (j := j) (fun j' hj => fv_up hj)]
  have hv : fv g (sM s (up2 s.1 a j x)) a ci j = .int (Int32.ofInt x) := by
    unfold fv
    rw [hft]
    show Value.int (Int32.ofInt (up2 s.1 a j x a j)) = _
    rw [up2_s]
  rw [hv]
  rfl
theorem o_putr (C : Cx g p R u m args meth c k) {i ci j a v : Nat} (hd : decode (codeK k) pc = .ok (.putfield i, 3)) (hf : fl k i = some (ci, j)) (ha : onA a s 0 ci = true) (ht : Nat.beq (ft ci j) 2 = true) (hv : v = a + ofs ci j) (ho : own k = ci) (hh : how k = 2) (kk : Kk g p l e R u m args below meth c Q k cells slots (pc + 3) L r (sK s a j)) : Kk g p l e R u m args below meth c Q k cells slots pc L (aA v :: aA a :: r) s := by
  subst hv
  intro H locs ls hW hS hl hL hT hSc hz
  obtain ⟨h1, h2, h3, h4, h5⟩ := fl_ok hf
  obtain ⟨c1, c2, c3, c4, -, -, c7, -⟩ := cls_ok ci h4
  obtain ⟨a1, a2, a3⟩ := onA_ok ha
  obtain ⟨hx, hT2⟩ := okT_c.mp hT
  have he := ws_get (g := g) (s := s) a2 a3
  rw [cel_o a1] at he
  have hty : narrow (tyT ci j) (.ref (ad g (a + ofs ci j))) = .ref (ad g (a + ofs ci j)) ∧ fits (tyT ci j) (.ref (ad g (a + ofs ci j))) = true := by
    have h7 := c7 j h2
    unfold tyB at h7
    rw [Nat.eq_of_beq_eq_true ht] at h7
    cases e : tyT ci j <;> rw [e] at h7 <;> first | exact ⟨rfl, rfl⟩ | cases h7
  have hcn : (clG ci).1 = cnm ci := clG_cnm ci h4
  refine va_putF C.1 C.2.1 (own := cnm (own k)) (ref := (clG ci).1) (C := (clG ci).1) (T := (clG ci).2.1) (N := (clG ci).2.2) C.2.2.2.2.1 c4 (tyT ci) c2 c3 C.2.2.2.1 C.2.2.2.2.2.2.2.1 hW.1 (ws_D g s) hS (a - 1) he c1 j h2 (C.2.2.2.2.1 _ h1) (fun x hx => by rw [h3] at hx; exact hx) (by rw [h5, ht]) (C.2.2.2.2.2.2.2.2.2.2.1 hh) (by rw [h3, ho, hcn]) (c2 j h2) hty.1 hty.2 (by simpa using h2) hd fun H1 locs1 hP1 hD1 hS1 => ?_
  have hok : okS (sK s a j) := ⟨hW.2.1, hW.2.2.1, hW.2.2.2.1, fun q hq => by
    rcases List.mem_cons.mp hq with rfl | h
    · exact a3
    · exact hW.2.2.2.2.1 q h, hW.2.2.2.2.2⟩
  refine kk H1 locs1 ls (Wd_set (s := s) (a := a) rfl a2 a3 (fun b hb => cel_sK hb) ?_ hok hP1) hS1 hl hL (okT_c.mp hT2).2 hSc hz
  have ho : ∀ j', j' ≠ j → fv g (sK s a j) a ci j' = fv g s a ci j' := fun j' hj => by
    unfold fv
    rw [hasM_sK, show Nat.beq j j' = false from beqN (fun e => hj e.symm)]
    simp only [Bool.and_false, Bool.false_or]
    rfl
  rw [cel_o a1, ← map_set_fv (s := s) (j := j) ho]
  have hv : fv g (sK s a j) a ci j = .ref (ad g (a + ofs ci j)) := by
    unfold fv
    rw [ht, hasM_sK, show Nat.beq a a = true from Nat.beq_refl a, show Nat.beq j j = true from Nat.beq_refl j]
    rfl
  rw [hv]
  rfl
end ONE
