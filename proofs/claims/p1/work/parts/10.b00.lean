set_option maxRecDepth 100000 in
set_option maxHeartbeats 40000000 in
theorem pc_0_0 (xs : Nat → Int) {z a2 a3 a4 a5 : Int} (hz : b32 (fun a b => a &&& b) z 31 = 0) (h0 : xs 0 = z) (h1 : xs 1 = 0) (h2 : xs 2 = a2) (h3 : xs 3 = a3) (h4 : xs 4 = a4) (h5 : xs 5 = a5) : E 0 18 LL [] (s0 xs 6) PQ := by
  refine E_st rfl rfl rfl ?_
  refine E_st rfl rfl rfl ?_
  refine E_st rfl rfl rfl ?_
  refine E_st rfl rfl rfl ?_
  refine E_st rfl rfl rfl ?_
  refine E_st rfl rfl rfl ?_
  refine E_st rfl rfl rfl ?_
  refine E_st rfl rfl rfl ?_
  refine E_scr rfl rfl h0 ?_
  refine E_st rfl rfl rfl ?_
  refine E_st rfl rfl rfl ?_
  refine E_val hz ?_
  refine E_st rfl rfl rfl ?_
  refine E_st rfl rfl rfl ?_
  refine E_st rfl rfl rfl ?_
  refine E_st rfl rfl rfl ?_
  refine E_st rfl rfl rfl ?_
  refine E_st rfl rfl rfl ?_
  refine E_scr rfl rfl h1 ?_
  refine E_st rfl rfl rfl ?_
  refine E_st rfl rfl rfl ?_
  refine E_st rfl rfl rfl ?_
  refine E_st rfl rfl rfl ?_
  refine E_scr rfl rfl h2 ?_
  refine E_st rfl rfl rfl ?_
  refine E_st rfl rfl rfl ?_
  refine E_st rfl rfl rfl ?_
  refine E_st rfl rfl rfl ?_
  refine E_scr rfl rfl h3 ?_
  refine E_st rfl rfl rfl ?_
  refine E_st rfl rfl rfl ?_
  refine E_st rfl rfl rfl ?_
  refine E_st rfl rfl rfl ?_
  refine E_scr rfl rfl h4 ?_
  refine E_call rfl rfl ?_
  refine E_st rfl rfl rfl ?_
  refine E_st rfl rfl rfl ?_
  refine E_call rfl rfl ?_
  refine E_st rfl rfl rfl ?_
  refine E_st rfl rfl rfl ?_
  refine E_st rfl rfl rfl ?_
  refine E_st rfl rfl rfl ?_
  refine E_st rfl rfl rfl ?_
  refine E_st rfl rfl rfl ?_
  refine E_st rfl rfl rfl ?_
  refine E_st rfl rfl rfl ?_
  refine E_st rfl rfl rfl ?_
  refine E_st rfl rfl rfl ?_
  refine E_ret rfl rfl ?_
  refine E_st rfl rfl rfl ?_
  refine E_st rfl rfl rfl ?_
  refine E_st rfl rfl rfl ?_
  refine E_st rfl rfl rfl ?_
  refine E_if_lt rfl (by decide) (fun _ => ?_) (fun _ => ?_)
  · refine E_st rfl rfl rfl ?_
    refine E_ret rfl rfl ?_
    refine E_st rfl rfl rfl ?_
    refine E_st rfl rfl rfl ?_
    refine E_st rfl rfl rfl ?_
    refine E_st rfl rfl rfl ?_
    refine E_st rfl rfl rfl ?_
    refine E_scr rfl rfl h1 ?_
    refine E_st rfl rfl rfl ?_
    refine E_st rfl rfl rfl ?_
    refine E_st rfl rfl rfl ?_
    refine E_st rfl rfl rfl ?_
    refine E_scr rfl rfl h2 ?_
    refine E_st rfl rfl rfl ?_
    refine E_st rfl rfl rfl ?_
    refine E_st rfl rfl rfl ?_
    refine E_st rfl rfl rfl ?_
    refine E_scr rfl rfl h3 ?_
    refine E_st rfl rfl rfl ?_
    refine E_st rfl rfl rfl ?_
    refine E_st rfl rfl rfl ?_
    refine E_st rfl rfl rfl ?_
    refine E_scr rfl rfl h4 ?_
    refine E_call rfl rfl ?_
    refine E_st rfl rfl rfl ?_
    refine E_call rfl rfl ?_
    refine E_st rfl rfl rfl ?_
    refine E_st rfl rfl rfl ?_
    refine E_st rfl rfl rfl ?_
    refine E_call rfl rfl ?_
    refine E_st rfl rfl rfl ?_
    refine E_st rfl rfl rfl ?_
    refine E_st rfl rfl rfl ?_
    refine E_st rfl rfl rfl ?_
    refine E_st rfl rfl rfl ?_
    refine E_st rfl rfl rfl ?_
    refine E_st rfl rfl rfl ?_
    refine E_st rfl rfl rfl ?_
    refine E_ret rfl rfl ?_
    refine E_ret rfl rfl ?_
    refine E_st rfl rfl rfl ?_
    refine E_st rfl rfl rfl ?_
    refine E_st rfl rfl rfl ?_
    refine E_st rfl rfl rfl ?_
    refine E_call rfl rfl ?_
    refine E_st rfl rfl rfl ?_
    refine E_st rfl rfl rfl ?_
    refine E_icmp_lt (y := 0) rfl (by decide) (fun _ => ?_) (fun q => absurd q (by omega))
    refine E_st rfl rfl rfl ?_
    refine E_ret rfl rfl ?_
    refine E_st rfl rfl rfl ?_
    refine E_st rfl rfl rfl ?_
    refine E_ret rfl rfl ?_
    refine E_st rfl rfl rfl ?_
    refine E_st rfl rfl rfl ?_
    refine E_st rfl rfl rfl ?_
    refine E_st rfl rfl rfl ?_
    refine E_st rfl rfl rfl ?_
    refine E_st rfl rfl rfl ?_
    refine E_st rfl rfl rfl ?_
    refine E_st rfl rfl rfl ?_
    refine E_st rfl rfl rfl ?_
    refine E_st rfl rfl rfl ?_
    exact E_ret rfl rfl ⟨rfl, rfl⟩
  · refine E_st rfl rfl rfl ?_
    refine E_st rfl rfl rfl ?_
    refine E_icmp_ge (y := 12) rfl (by decide) (fun _ => ?_) (fun _ => ?_)
    · refine E_st rfl rfl rfl ?_
      refine E_ret rfl rfl ?_
      refine E_st rfl rfl rfl ?_
      refine E_st rfl rfl rfl ?_
      refine E_st rfl rfl rfl ?_
      refine E_st rfl rfl rfl ?_
      refine E_st rfl rfl rfl ?_
      refine E_scr rfl rfl h1 ?_
      refine E_st rfl rfl rfl ?_
      refine E_st rfl rfl rfl ?_
      refine E_st rfl rfl rfl ?_
      refine E_st rfl rfl rfl ?_
      refine E_scr rfl rfl h2 ?_
      refine E_st rfl rfl rfl ?_
      refine E_st rfl rfl rfl ?_
      refine E_st rfl rfl rfl ?_
      refine E_st rfl rfl rfl ?_
      refine E_scr rfl rfl h3 ?_
      refine E_st rfl rfl rfl ?_
      refine E_st rfl rfl rfl ?_
      refine E_st rfl rfl rfl ?_
      refine E_st rfl rfl rfl ?_
      refine E_scr rfl rfl h4 ?_
      refine E_call rfl rfl ?_
      refine E_st rfl rfl rfl ?_
      refine E_call rfl rfl ?_
      refine E_st rfl rfl rfl ?_
      refine E_st rfl rfl rfl ?_
      refine E_st rfl rfl rfl ?_
      refine E_call rfl rfl ?_
      refine E_st rfl rfl rfl ?_
      refine E_st rfl rfl rfl ?_
      refine E_st rfl rfl rfl ?_
      refine E_st rfl rfl rfl ?_
      refine E_st rfl rfl rfl ?_
      refine E_st rfl rfl rfl ?_
      refine E_st rfl rfl rfl ?_
      refine E_st rfl rfl rfl ?_
      refine E_ret rfl rfl ?_
      refine E_ret rfl rfl ?_
      refine E_st rfl rfl rfl ?_
      refine E_st rfl rfl rfl ?_
      refine E_st rfl rfl rfl ?_
      refine E_st rfl rfl rfl ?_
      refine E_call rfl rfl ?_
      refine E_st rfl rfl rfl ?_
      refine E_st rfl rfl rfl ?_
      refine E_icmp_lt (y := 0) rfl (by decide) (fun q => absurd q (by omega)) (fun _ => ?_)
      refine E_st rfl rfl rfl ?_
      refine E_st rfl rfl rfl ?_
      refine E_icmp_gt (y := 11) rfl (by decide) (fun _ => ?_) (fun q => absurd q (by omega))
      refine E_st rfl rfl rfl ?_
      refine E_ret rfl rfl ?_
      refine E_st rfl rfl rfl ?_
      refine E_st rfl rfl rfl ?_
      refine E_ret rfl rfl ?_
      refine E_st rfl rfl rfl ?_
      refine E_st rfl rfl rfl ?_
      refine E_st rfl rfl rfl ?_
      refine E_st rfl rfl rfl ?_
      refine E_st rfl rfl rfl ?_
      refine E_st rfl rfl rfl ?_
      refine E_st rfl rfl rfl ?_
      refine E_st rfl rfl rfl ?_
      refine E_st rfl rfl rfl ?_
      refine E_st rfl rfl rfl ?_
      exact E_ret rfl rfl ⟨rfl, rfl⟩
    · refine E_st rfl rfl rfl ?_
      refine E_st rfl rfl rfl ?_
      refine E_call rfl rfl ?_
      refine E_st rfl rfl rfl ?_
      refine E_if_lt rfl (by decide) (fun _ => ?_) (fun _ => ?_)
      · refine E_st rfl rfl rfl ?_
        refine E_ret rfl rfl ?_
        refine E_st rfl rfl rfl ?_
        refine E_st rfl rfl rfl ?_
        refine E_ret rfl rfl ?_
        refine E_st rfl rfl rfl ?_
        refine E_st rfl rfl rfl ?_
        refine E_st rfl rfl rfl ?_
        refine E_st rfl rfl rfl ?_
        refine E_st rfl rfl rfl ?_
        refine E_scr rfl rfl h1 ?_
        refine E_st rfl rfl rfl ?_
        refine E_st rfl rfl rfl ?_
        refine E_st rfl rfl rfl ?_
        refine E_st rfl rfl rfl ?_
        refine E_scr rfl rfl h2 ?_
        refine E_st rfl rfl rfl ?_
        refine E_st rfl rfl rfl ?_
        refine E_st rfl rfl rfl ?_
        refine E_st rfl rfl rfl ?_
        refine E_scr rfl rfl h3 ?_
        refine E_st rfl rfl rfl ?_
        refine E_st rfl rfl rfl ?_
        refine E_st rfl rfl rfl ?_
        refine E_st rfl rfl rfl ?_
        refine E_scr rfl rfl h4 ?_
        refine E_call rfl rfl ?_
        refine E_st rfl rfl rfl ?_
        refine E_call rfl rfl ?_
        refine E_st rfl rfl rfl ?_
        refine E_st rfl rfl rfl ?_
        refine E_st rfl rfl rfl ?_
        refine E_call rfl rfl ?_
        refine E_st rfl rfl rfl ?_
        refine E_st rfl rfl rfl ?_
        refine E_st rfl rfl rfl ?_
        refine E_st rfl rfl rfl ?_
        refine E_st rfl rfl rfl ?_
        refine E_st rfl rfl rfl ?_
        refine E_st rfl rfl rfl ?_
        refine E_st rfl rfl rfl ?_
        refine E_ret rfl rfl ?_
        refine E_ret rfl rfl ?_
        refine E_st rfl rfl rfl ?_
        refine E_st rfl rfl rfl ?_
        refine E_st rfl rfl rfl ?_
        refine E_st rfl rfl rfl ?_
        refine E_call rfl rfl ?_
        refine E_st rfl rfl rfl ?_
        refine E_st rfl rfl rfl ?_
        refine E_icmp_lt (y := 0) rfl (by decide) (fun q => absurd q (by omega)) (fun _ => ?_)
        refine E_st rfl rfl rfl ?_
        refine E_st rfl rfl rfl ?_
        refine E_icmp_gt (y := 11) rfl (by decide) (fun q => absurd q (by omega)) (fun _ => ?_)
        refine E_st rfl rfl rfl ?_
        refine E_st rfl rfl rfl ?_
        refine E_ret rfl rfl ?_
        refine E_st rfl rfl rfl ?_
        refine E_st rfl rfl rfl ?_
        refine E_st rfl rfl rfl ?_
        refine E_call rfl rfl ?_
        refine E_st rfl rfl rfl ?_
        refine E_st rfl rfl rfl ?_
        refine E_st rfl rfl rfl ?_
        refine E_call rfl rfl ?_
        refine E_st rfl rfl rfl ?_
        refine E_st rfl rfl rfl ?_
        refine E_icmp_lt (y := 0) rfl (by decide) (fun _ => ?_) (fun q => absurd q (by omega))
        refine E_st rfl rfl rfl ?_
        refine E_ret rfl rfl ?_
        refine E_st rfl rfl rfl ?_
        refine E_st rfl rfl rfl ?_
        refine E_ret rfl rfl ?_
        refine E_st rfl rfl rfl ?_
        refine E_st rfl rfl rfl ?_
        refine E_ret rfl rfl ?_
        refine E_st rfl rfl rfl ?_
        refine E_st rfl rfl rfl ?_
        refine E_st rfl rfl rfl ?_
        refine E_st rfl rfl rfl ?_
        refine E_st rfl rfl rfl ?_
        refine E_st rfl rfl rfl ?_
        refine E_st rfl rfl rfl ?_
        refine E_st rfl rfl rfl ?_
        refine E_st rfl rfl rfl ?_
        refine E_st rfl rfl rfl ?_
        exact E_ret rfl rfl ⟨rfl, rfl⟩
      · refine E_st rfl rfl rfl ?_
        refine E_st rfl rfl rfl ?_
        refine E_icmp_ge (y := 24) rfl (by decide) (fun _ => ?_) (fun _ => ?_)
        · refine E_st rfl rfl rfl ?_
          refine E_ret rfl rfl ?_
          refine E_st rfl rfl rfl ?_
          refine E_st rfl rfl rfl ?_
          refine E_ret rfl rfl ?_
          refine E_st rfl rfl rfl ?_
          refine E_st rfl rfl rfl ?_
          refine E_st rfl rfl rfl ?_
          refine E_st rfl rfl rfl ?_
          refine E_st rfl rfl rfl ?_
          refine E_scr rfl rfl h1 ?_
          refine E_st rfl rfl rfl ?_
          refine E_st rfl rfl rfl ?_
          refine E_st rfl rfl rfl ?_
          refine E_st rfl rfl rfl ?_
          refine E_scr rfl rfl h2 ?_
          refine E_st rfl rfl rfl ?_
          refine E_st rfl rfl rfl ?_
          refine E_st rfl rfl rfl ?_
          refine E_st rfl rfl rfl ?_
          refine E_scr rfl rfl h3 ?_
          refine E_st rfl rfl rfl ?_
          refine E_st rfl rfl rfl ?_
          refine E_st rfl rfl rfl ?_
          refine E_st rfl rfl rfl ?_
          refine E_scr rfl rfl h4 ?_
          refine E_call rfl rfl ?_
          refine E_st rfl rfl rfl ?_
          refine E_call rfl rfl ?_
          refine E_st rfl rfl rfl ?_
          refine E_st rfl rfl rfl ?_
          refine E_st rfl rfl rfl ?_
          refine E_call rfl rfl ?_
          refine E_st rfl rfl rfl ?_
          refine E_st rfl rfl rfl ?_
          refine E_st rfl rfl rfl ?_
          refine E_st rfl rfl rfl ?_
          refine E_st rfl rfl rfl ?_
          refine E_st rfl rfl rfl ?_
          refine E_st rfl rfl rfl ?_
          refine E_st rfl rfl rfl ?_
          refine E_ret rfl rfl ?_
          refine E_ret rfl rfl ?_
          refine E_st rfl rfl rfl ?_
          refine E_st rfl rfl rfl ?_
          refine E_st rfl rfl rfl ?_
          refine E_st rfl rfl rfl ?_
          refine E_call rfl rfl ?_
          refine E_st rfl rfl rfl ?_
          refine E_st rfl rfl rfl ?_
          refine E_icmp_lt (y := 0) rfl (by decide) (fun q => absurd q (by omega)) (fun _ => ?_)
          refine E_st rfl rfl rfl ?_
          refine E_st rfl rfl rfl ?_
          refine E_icmp_gt (y := 11) rfl (by decide) (fun q => absurd q (by omega)) (fun _ => ?_)
          refine E_st rfl rfl rfl ?_
          refine E_st rfl rfl rfl ?_
          refine E_ret rfl rfl ?_
          refine E_st rfl rfl rfl ?_
          refine E_st rfl rfl rfl ?_
          refine E_st rfl rfl rfl ?_
          refine E_call rfl rfl ?_
          refine E_st rfl rfl rfl ?_
          refine E_st rfl rfl rfl ?_
          refine E_st rfl rfl rfl ?_
          refine E_call rfl rfl ?_
          refine E_st rfl rfl rfl ?_
          refine E_st rfl rfl rfl ?_
          refine E_icmp_lt (y := 0) rfl (by decide) (fun q => absurd q (by omega)) (fun _ => ?_)
          refine E_st rfl rfl rfl ?_
          refine E_st rfl rfl rfl ?_
          refine E_icmp_gt (y := 23) rfl (by decide) (fun _ => ?_) (fun q => absurd q (by omega))
          refine E_st rfl rfl rfl ?_
          refine E_ret rfl rfl ?_
          refine E_st rfl rfl rfl ?_
          refine E_st rfl rfl rfl ?_
          refine E_ret rfl rfl ?_
          refine E_st rfl rfl rfl ?_
          refine E_st rfl rfl rfl ?_
          refine E_ret rfl rfl ?_
          refine E_st rfl rfl rfl ?_
          refine E_st rfl rfl rfl ?_
          refine E_st rfl rfl rfl ?_
          refine E_st rfl rfl rfl ?_
          refine E_st rfl rfl rfl ?_
          refine E_st rfl rfl rfl ?_
          refine E_st rfl rfl rfl ?_
          refine E_st rfl rfl rfl ?_
          refine E_st rfl rfl rfl ?_
          refine E_st rfl rfl rfl ?_
          exact E_ret rfl rfl ⟨rfl, rfl⟩
        · refine E_st rfl rfl rfl ?_
          refine E_st rfl rfl rfl ?_
          refine E_icmp_lt (y := 10) rfl (by decide) (fun _ => ?_) (fun _ => ?_)
          · refine E_st rfl rfl rfl ?_
            refine E_ret rfl rfl ?_
            refine E_st rfl rfl rfl ?_
            refine E_st rfl rfl rfl ?_
            refine E_ret rfl rfl ?_
            refine E_st rfl rfl rfl ?_
            refine E_st rfl rfl rfl ?_
            refine E_st rfl rfl rfl ?_
            refine E_st rfl rfl rfl ?_
            refine E_st rfl rfl rfl ?_
            refine E_scr rfl rfl h1 ?_
            refine E_st rfl rfl rfl ?_
            refine E_st rfl rfl rfl ?_
            refine E_st rfl rfl rfl ?_
            refine E_st rfl rfl rfl ?_
            refine E_scr rfl rfl h2 ?_
            refine E_st rfl rfl rfl ?_
            refine E_st rfl rfl rfl ?_
            refine E_st rfl rfl rfl ?_
            refine E_st rfl rfl rfl ?_
            refine E_scr rfl rfl h3 ?_
            refine E_st rfl rfl rfl ?_
            refine E_st rfl rfl rfl ?_
            refine E_st rfl rfl rfl ?_
            refine E_st rfl rfl rfl ?_
            refine E_scr rfl rfl h4 ?_
            refine E_call rfl rfl ?_
            refine E_st rfl rfl rfl ?_
            refine E_call rfl rfl ?_
            refine E_st rfl rfl rfl ?_
            refine E_st rfl rfl rfl ?_
            refine E_st rfl rfl rfl ?_
            refine E_call rfl rfl ?_
            refine E_st rfl rfl rfl ?_
            refine E_st rfl rfl rfl ?_
            refine E_st rfl rfl rfl ?_
            refine E_st rfl rfl rfl ?_
            refine E_st rfl rfl rfl ?_
            refine E_st rfl rfl rfl ?_
            refine E_st rfl rfl rfl ?_
            refine E_st rfl rfl rfl ?_
            refine E_ret rfl rfl ?_
            refine E_ret rfl rfl ?_
            refine E_st rfl rfl rfl ?_
            refine E_st rfl rfl rfl ?_
            refine E_st rfl rfl rfl ?_
            refine E_st rfl rfl rfl ?_
            refine E_call rfl rfl ?_
            refine E_st rfl rfl rfl ?_
            refine E_st rfl rfl rfl ?_
            refine E_icmp_lt (y := 0) rfl (by decide) (fun q => absurd q (by omega)) (fun _ => ?_)
            refine E_st rfl rfl rfl ?_
            refine E_st rfl rfl rfl ?_
            refine E_icmp_gt (y := 11) rfl (by decide) (fun q => absurd q (by omega)) (fun _ => ?_)
            refine E_st rfl rfl rfl ?_
            refine E_st rfl rfl rfl ?_
            refine E_ret rfl rfl ?_
            refine E_st rfl rfl rfl ?_
            refine E_st rfl rfl rfl ?_
            refine E_st rfl rfl rfl ?_
            refine E_call rfl rfl ?_
            refine E_st rfl rfl rfl ?_
            refine E_st rfl rfl rfl ?_
            refine E_st rfl rfl rfl ?_
            refine E_call rfl rfl ?_
            refine E_st rfl rfl rfl ?_
            refine E_st rfl rfl rfl ?_
            refine E_icmp_lt (y := 0) rfl (by decide) (fun q => absurd q (by omega)) (fun _ => ?_)
            refine E_st rfl rfl rfl ?_
            refine E_st rfl rfl rfl ?_
            refine E_icmp_gt (y := 23) rfl (by decide) (fun q => absurd q (by omega)) (fun _ => ?_)
            refine E_st rfl rfl rfl ?_
            refine E_st rfl rfl rfl ?_
            refine E_ret rfl rfl ?_
            refine E_st rfl rfl rfl ?_
            refine E_st rfl rfl rfl ?_
            refine E_st rfl rfl rfl ?_
            refine E_st rfl rfl rfl ?_
            refine E_call rfl rfl ?_
            refine E_st rfl rfl rfl ?_
            refine E_st rfl rfl rfl ?_
            refine E_icmp_lt (y := 10) rfl (by decide) (fun _ => ?_) (fun q => absurd q (by omega))
            refine E_st rfl rfl rfl ?_
            refine E_ret rfl rfl ?_
            refine E_st rfl rfl rfl ?_
            refine E_st rfl rfl rfl ?_
            refine E_ret rfl rfl ?_
            refine E_st rfl rfl rfl ?_
            refine E_st rfl rfl rfl ?_
            refine E_ret rfl rfl ?_
            refine E_st rfl rfl rfl ?_
            refine E_st rfl rfl rfl ?_
            refine E_st rfl rfl rfl ?_
            refine E_st rfl rfl rfl ?_
            refine E_st rfl rfl rfl ?_
            refine E_st rfl rfl rfl ?_
            refine E_st rfl rfl rfl ?_
            refine E_st rfl rfl rfl ?_
            refine E_st rfl rfl rfl ?_
            refine E_st rfl rfl rfl ?_
            exact E_ret rfl rfl ⟨rfl, rfl⟩
          · refine E_st rfl rfl rfl ?_
            refine E_st rfl rfl rfl ?_
            refine E_icmp_gt (y := 600) rfl (by decide) (fun _ => ?_) (fun _ => ?_)
            · refine E_st rfl rfl rfl ?_
              refine E_ret rfl rfl ?_
              refine E_st rfl rfl rfl ?_
              refine E_st rfl rfl rfl ?_
              refine E_ret rfl rfl ?_
              refine E_st rfl rfl rfl ?_
              refine E_st rfl rfl rfl ?_
              refine E_st rfl rfl rfl ?_
              refine E_st rfl rfl rfl ?_
              refine E_st rfl rfl rfl ?_
              refine E_scr rfl rfl h1 ?_
              refine E_st rfl rfl rfl ?_
              refine E_st rfl rfl rfl ?_
              refine E_st rfl rfl rfl ?_
              refine E_st rfl rfl rfl ?_
              refine E_scr rfl rfl h2 ?_
              refine E_st rfl rfl rfl ?_
              refine E_st rfl rfl rfl ?_
              refine E_st rfl rfl rfl ?_
              refine E_st rfl rfl rfl ?_
              refine E_scr rfl rfl h3 ?_
              refine E_st rfl rfl rfl ?_
              refine E_st rfl rfl rfl ?_
              refine E_st rfl rfl rfl ?_
              refine E_st rfl rfl rfl ?_
              refine E_scr rfl rfl h4 ?_
              refine E_call rfl rfl ?_
              refine E_st rfl rfl rfl ?_
              refine E_call rfl rfl ?_
              refine E_st rfl rfl rfl ?_
              refine E_st rfl rfl rfl ?_
              refine E_st rfl rfl rfl ?_
              refine E_call rfl rfl ?_
              refine E_st rfl rfl rfl ?_
              refine E_st rfl rfl rfl ?_
              refine E_st rfl rfl rfl ?_
              refine E_st rfl rfl rfl ?_
              refine E_st rfl rfl rfl ?_
              refine E_st rfl rfl rfl ?_
              refine E_st rfl rfl rfl ?_
              refine E_st rfl rfl rfl ?_
              refine E_ret rfl rfl ?_
              refine E_ret rfl rfl ?_
              refine E_st rfl rfl rfl ?_
              refine E_st rfl rfl rfl ?_
              refine E_st rfl rfl rfl ?_
              refine E_st rfl rfl rfl ?_
              refine E_call rfl rfl ?_
              refine E_st rfl rfl rfl ?_
              refine E_st rfl rfl rfl ?_
              refine E_icmp_lt (y := 0) rfl (by decide) (fun q => absurd q (by omega)) (fun _ => ?_)
              refine E_st rfl rfl rfl ?_
              refine E_st rfl rfl rfl ?_
              refine E_icmp_gt (y := 11) rfl (by decide) (fun q => absurd q (by omega)) (fun _ => ?_)
              refine E_st rfl rfl rfl ?_
              refine E_st rfl rfl rfl ?_
              refine E_ret rfl rfl ?_
              refine E_st rfl rfl rfl ?_
              refine E_st rfl rfl rfl ?_
              refine E_st rfl rfl rfl ?_
              refine E_call rfl rfl ?_
              refine E_st rfl rfl rfl ?_
              refine E_st rfl rfl rfl ?_
              refine E_st rfl rfl rfl ?_
              refine E_call rfl rfl ?_
              refine E_st rfl rfl rfl ?_
              refine E_st rfl rfl rfl ?_
              refine E_icmp_lt (y := 0) rfl (by decide) (fun q => absurd q (by omega)) (fun _ => ?_)
              refine E_st rfl rfl rfl ?_
              refine E_st rfl rfl rfl ?_
              refine E_icmp_gt (y := 23) rfl (by decide) (fun q => absurd q (by omega)) (fun _ => ?_)
              refine E_st rfl rfl rfl ?_
              refine E_st rfl rfl rfl ?_
              refine E_ret rfl rfl ?_
              refine E_st rfl rfl rfl ?_
              refine E_st rfl rfl rfl ?_
              refine E_st rfl rfl rfl ?_
              refine E_st rfl rfl rfl ?_
              refine E_call rfl rfl ?_
              refine E_st rfl rfl rfl ?_
              refine E_st rfl rfl rfl ?_
              refine E_icmp_lt (y := 10) rfl (by decide) (fun q => absurd q (by omega)) (fun _ => ?_)
              refine E_st rfl rfl rfl ?_
              refine E_st rfl rfl rfl ?_
              refine E_icmp_gt (y := 600) rfl (by decide) (fun _ => ?_) (fun q => absurd q (by omega))
              refine E_st rfl rfl rfl ?_
              refine E_ret rfl rfl ?_
              refine E_st rfl rfl rfl ?_
              refine E_st rfl rfl rfl ?_
              refine E_ret rfl rfl ?_
              refine E_st rfl rfl rfl ?_
              refine E_st rfl rfl rfl ?_
              refine E_ret rfl rfl ?_
              refine E_st rfl rfl rfl ?_
              refine E_st rfl rfl rfl ?_
              refine E_st rfl rfl rfl ?_
              refine E_st rfl rfl rfl ?_
              refine E_st rfl rfl rfl ?_
              refine E_st rfl rfl rfl ?_
              refine E_st rfl rfl rfl ?_
              refine E_st rfl rfl rfl ?_
              refine E_st rfl rfl rfl ?_
              refine E_st rfl rfl rfl ?_
              exact E_ret rfl rfl ⟨rfl, rfl⟩
            · refine E_st rfl rfl rfl ?_
              refine E_st rfl rfl rfl ?_
              refine E_ret rfl rfl ?_
              refine E_st rfl rfl rfl ?_
              refine E_st rfl rfl rfl ?_
              refine E_st rfl rfl rfl ?_
              refine E_st rfl rfl rfl ?_
              refine E_st rfl rfl rfl ?_
              refine E_st rfl rfl rfl ?_
              refine E_call rfl rfl ?_
              refine E_st rfl rfl rfl ?_
              refine E_st rfl rfl rfl ?_
              refine E_st rfl rfl rfl ?_
              refine E_st rfl rfl rfl ?_
              refine E_st rfl rfl rfl ?_
              refine E_st rfl rfl rfl ?_
              refine E_st rfl rfl rfl ?_
              refine E_st rfl rfl rfl ?_
              refine E_st rfl rfl rfl ?_
              refine E_st rfl rfl rfl ?_
              refine E_st rfl rfl rfl ?_
              refine E_st rfl rfl rfl ?_
              refine E_st rfl rfl rfl ?_
              refine E_st rfl rfl rfl ?_
              refine E_st rfl rfl rfl ?_
              refine E_st rfl rfl rfl ?_
              refine E_st rfl rfl rfl ?_
              refine E_st rfl rfl rfl ?_
              refine E_st rfl rfl rfl ?_
              refine E_st rfl rfl rfl ?_
              refine E_st rfl rfl rfl ?_
              refine E_st rfl rfl rfl ?_
              refine E_st rfl rfl rfl ?_
              refine E_st rfl rfl rfl ?_
              refine E_st rfl rfl rfl ?_
              refine E_st rfl rfl rfl ?_
              refine E_st rfl rfl rfl ?_
              refine E_st rfl rfl rfl ?_
              refine E_st rfl rfl rfl ?_
              refine E_st rfl rfl rfl ?_
              refine E_st rfl rfl rfl ?_
              refine E_st rfl rfl rfl ?_
              refine E_st rfl rfl rfl ?_
              refine E_st rfl rfl rfl ?_
              refine E_st rfl rfl rfl ?_
              refine E_st rfl rfl rfl ?_
              refine E_st rfl rfl rfl ?_
              refine E_st rfl rfl rfl ?_
              refine E_st rfl rfl rfl ?_
              refine E_st rfl rfl rfl ?_
              refine E_st rfl rfl rfl ?_
              refine E_st rfl rfl rfl ?_
              refine E_st rfl rfl rfl ?_
              refine E_st rfl rfl rfl ?_
              refine E_st rfl rfl rfl ?_
              refine E_st rfl rfl rfl ?_
              refine E_st rfl rfl rfl ?_
              refine E_st rfl rfl rfl ?_
              refine E_st rfl rfl rfl ?_
              refine E_st rfl rfl rfl ?_
              refine E_st rfl rfl rfl ?_
              refine E_call rfl rfl ?_
              refine E_st rfl rfl rfl ?_
              refine E_st rfl rfl rfl ?_
              refine E_st rfl rfl rfl ?_
              refine E_st rfl rfl rfl ?_
              refine E_st rfl rfl rfl ?_
              refine E_st rfl rfl rfl ?_
              refine E_ret rfl rfl ?_
              refine E_st rfl rfl rfl ?_
              refine E_ret rfl rfl ?_
              refine E_ret rfl rfl ?_
              refine E_st rfl rfl rfl ?_
              refine E_st rfl rfl rfl ?_
              refine E_st rfl rfl rfl ?_
              refine E_st rfl rfl rfl ?_
              refine E_st rfl rfl rfl ?_
              refine E_scr rfl rfl h1 ?_
              refine E_st rfl rfl rfl ?_
              refine E_st rfl rfl rfl ?_
              refine E_st rfl rfl rfl ?_
              refine E_st rfl rfl rfl ?_
              refine E_scr rfl rfl h2 ?_
              refine E_st rfl rfl rfl ?_
              refine E_st rfl rfl rfl ?_
              refine E_st rfl rfl rfl ?_
              refine E_st rfl rfl rfl ?_
              refine E_scr rfl rfl h3 ?_
              refine E_st rfl rfl rfl ?_
              refine E_st rfl rfl rfl ?_
              refine E_st rfl rfl rfl ?_
              refine E_st rfl rfl rfl ?_
              refine E_scr rfl rfl h4 ?_
              refine E_call rfl rfl ?_
              refine E_st rfl rfl rfl ?_
              refine E_call rfl rfl ?_
              refine E_st rfl rfl rfl ?_
              refine E_st rfl rfl rfl ?_
              refine E_st rfl rfl rfl ?_
              refine E_call rfl rfl ?_
              refine E_st rfl rfl rfl ?_
              refine E_st rfl rfl rfl ?_
              refine E_st rfl rfl rfl ?_
              refine E_st rfl rfl rfl ?_
              refine E_st rfl rfl rfl ?_
              refine E_st rfl rfl rfl ?_
              refine E_st rfl rfl rfl ?_
              refine E_st rfl rfl rfl ?_
              refine E_ret rfl rfl ?_
              refine E_ret rfl rfl ?_
              refine E_st rfl rfl rfl ?_
              refine E_st rfl rfl rfl ?_
              refine E_st rfl rfl rfl ?_
              refine E_st rfl rfl rfl ?_
              refine E_call rfl rfl ?_
              refine E_st rfl rfl rfl ?_
              refine E_st rfl rfl rfl ?_
              refine E_icmp_lt (y := 0) rfl (by decide) (fun q => absurd q (by omega)) (fun _ => ?_)
              refine E_st rfl rfl rfl ?_
              refine E_st rfl rfl rfl ?_
              refine E_icmp_gt (y := 11) rfl (by decide) (fun q => absurd q (by omega)) (fun _ => ?_)
              refine E_st rfl rfl rfl ?_
              refine E_st rfl rfl rfl ?_
              refine E_ret rfl rfl ?_
              refine E_st rfl rfl rfl ?_
              refine E_st rfl rfl rfl ?_
              refine E_st rfl rfl rfl ?_
              refine E_call rfl rfl ?_
              refine E_st rfl rfl rfl ?_
              refine E_st rfl rfl rfl ?_
              refine E_st rfl rfl rfl ?_
              refine E_call rfl rfl ?_
              refine E_st rfl rfl rfl ?_
              refine E_st rfl rfl rfl ?_
              refine E_icmp_lt (y := 0) rfl (by decide) (fun q => absurd q (by omega)) (fun _ => ?_)
              refine E_st rfl rfl rfl ?_
              refine E_st rfl rfl rfl ?_
              refine E_icmp_gt (y := 23) rfl (by decide) (fun q => absurd q (by omega)) (fun _ => ?_)
              refine E_st rfl rfl rfl ?_
              refine E_st rfl rfl rfl ?_
              refine E_ret rfl rfl ?_
              refine E_st rfl rfl rfl ?_
              refine E_st rfl rfl rfl ?_
              refine E_st rfl rfl rfl ?_
              refine E_st rfl rfl rfl ?_
              refine E_call rfl rfl ?_
              refine E_st rfl rfl rfl ?_
              refine E_st rfl rfl rfl ?_
              refine E_icmp_lt (y := 10) rfl (by decide) (fun q => absurd q (by omega)) (fun _ => ?_)
              refine E_st rfl rfl rfl ?_
              refine E_st rfl rfl rfl ?_
              refine E_icmp_gt (y := 600) rfl (by decide) (fun q => absurd q (by omega)) (fun _ => ?_)
              refine E_st rfl rfl rfl ?_
              refine E_st rfl rfl rfl ?_
              refine E_ret rfl rfl ?_
              refine E_st rfl rfl rfl ?_
              refine E_st rfl rfl rfl ?_
              refine E_st rfl rfl rfl ?_
              refine E_ret rfl rfl ?_
              refine E_st rfl rfl rfl ?_
              refine E_st rfl rfl rfl ?_
              refine E_st rfl rfl rfl ?_
              refine E_st rfl rfl rfl ?_
              refine E_st rfl rfl rfl ?_
              refine E_st rfl rfl rfl ?_
              refine E_st rfl rfl rfl ?_
              refine E_st rfl rfl rfl ?_
              refine E_st rfl rfl rfl ?_
              refine E_st rfl rfl rfl ?_
              refine E_st rfl rfl rfl ?_
              refine E_st rfl rfl rfl ?_
              refine E_st rfl rfl rfl ?_
              refine E_call rfl rfl ?_
              refine E_st rfl rfl rfl ?_
              refine E_st rfl rfl rfl ?_
              refine E_st rfl rfl rfl ?_
              refine E_st rfl rfl rfl ?_
              refine E_st rfl rfl rfl ?_
              refine E_st rfl rfl rfl ?_
              refine E_st rfl rfl rfl ?_
              refine E_st rfl rfl rfl ?_
              refine E_st rfl rfl rfl ?_
              refine E_st rfl rfl rfl ?_
              refine E_st rfl rfl rfl ?_
              refine E_st rfl rfl rfl ?_
              refine E_st rfl rfl rfl ?_
              refine E_st rfl rfl rfl ?_
              refine E_st rfl rfl rfl ?_
              refine E_st rfl rfl rfl ?_
              refine E_st rfl rfl rfl ?_
              refine E_st rfl rfl rfl ?_
              refine E_st rfl rfl rfl ?_
              refine E_st rfl rfl rfl ?_
              refine E_st rfl rfl rfl ?_
              refine E_st rfl rfl rfl ?_
              refine E_st rfl rfl rfl ?_
              refine E_st rfl rfl rfl ?_
              refine E_st rfl rfl rfl ?_
              refine E_st rfl rfl rfl ?_
              refine E_st rfl rfl rfl ?_
              refine E_st rfl rfl rfl ?_
              refine E_st rfl rfl rfl ?_
              refine E_st rfl rfl rfl ?_
              refine E_st rfl rfl rfl ?_
              refine E_st rfl rfl rfl ?_
              refine E_st rfl rfl rfl ?_
              refine E_st rfl rfl rfl ?_
              refine E_st rfl rfl rfl ?_
              refine E_st rfl rfl rfl ?_
              refine E_st rfl rfl rfl ?_
              refine E_st rfl rfl rfl ?_
              refine E_st rfl rfl rfl ?_
              refine E_st rfl rfl rfl ?_
              refine E_st rfl rfl rfl ?_
              refine E_st rfl rfl rfl ?_
              refine E_st rfl rfl rfl ?_
              refine E_st rfl rfl rfl ?_
              refine E_st rfl rfl rfl ?_
              refine E_st rfl rfl rfl ?_
              refine E_st rfl rfl rfl ?_
              refine E_st rfl rfl rfl ?_
              refine E_st rfl rfl rfl ?_
              refine E_call rfl rfl ?_
              refine E_st rfl rfl rfl ?_
              refine E_st rfl rfl rfl ?_
              refine E_st rfl rfl rfl ?_
              refine E_st rfl rfl rfl ?_
              refine E_st rfl rfl rfl ?_
              refine E_ret rfl rfl ?_
              refine E_st rfl rfl rfl ?_
              refine E_st rfl rfl rfl ?_
              refine E_st rfl rfl rfl ?_
              refine E_st rfl rfl rfl ?_
              refine E_st rfl rfl rfl ?_
              refine E_st rfl rfl rfl ?_
              refine E_ret rfl rfl ?_
              refine E_ret rfl rfl ?_
              refine E_st rfl rfl rfl ?_
              refine E_st rfl rfl rfl ?_
              refine E_st rfl rfl rfl ?_
              refine E_st rfl rfl rfl ?_
              refine E_st rfl rfl rfl ?_
              refine E_st rfl rfl rfl ?_
              refine E_st rfl rfl rfl ?_
              refine E_st rfl rfl rfl ?_
              refine E_st rfl rfl rfl ?_
              refine E_st rfl rfl rfl ?_
              exact E_ret rfl rfl ⟨rfl, rfl⟩
set_option maxRecDepth 100000 in
set_option maxHeartbeats 40000000 in
theorem pc_0_1 (xs : Nat → Int) {z a2 a3 a4 a5 : Int} (hz : b32 (fun a b => a &&& b) z 31 = 0) (h0 : xs 0 = z) (h1 : xs 1 = 1) (h2 : xs 2 = a2) (h3 : xs 3 = a3) (h4 : xs 4 = a4) (h5 : xs 5 = a5) : E 0 18 LL [] (s0 xs 6) PQ := by
  refine E_st rfl rfl rfl ?_
  refine E_st rfl rfl rfl ?_
  refine E_st rfl rfl rfl ?_
  refine E_st rfl rfl rfl ?_
  refine E_st rfl rfl rfl ?_
  refine E_st rfl rfl rfl ?_
  refine E_st rfl rfl rfl ?_
  refine E_st rfl rfl rfl ?_
  refine E_scr rfl rfl h0 ?_
  refine E_st rfl rfl rfl ?_
  refine E_st rfl rfl rfl ?_
  refine E_val hz ?_
  refine E_st rfl rfl rfl ?_
  refine E_st rfl rfl rfl ?_
  refine E_st rfl rfl rfl ?_
  refine E_st rfl rfl rfl ?_
  refine E_st rfl rfl rfl ?_
  refine E_st rfl rfl rfl ?_
  refine E_scr rfl rfl h1 ?_
  refine E_st rfl rfl rfl ?_
  refine E_st rfl rfl rfl ?_
  refine E_st rfl rfl rfl ?_
  refine E_st rfl rfl rfl ?_
  refine E_scr rfl rfl h2 ?_
  refine E_st rfl rfl rfl ?_
  refine E_st rfl rfl rfl ?_
  refine E_st rfl rfl rfl ?_
  refine E_st rfl rfl rfl ?_
  refine E_scr rfl rfl h3 ?_
  refine E_st rfl rfl rfl ?_
  refine E_st rfl rfl rfl ?_
  refine E_st rfl rfl rfl ?_
  refine E_st rfl rfl rfl ?_
  refine E_scr rfl rfl h4 ?_
  refine E_call rfl rfl ?_
  refine E_st rfl rfl rfl ?_
  refine E_st rfl rfl rfl ?_
  refine E_call rfl rfl ?_
  refine E_st rfl rfl rfl ?_
  refine E_st rfl rfl rfl ?_
  refine E_st rfl rfl rfl ?_
  refine E_st rfl rfl rfl ?_
  refine E_st rfl rfl rfl ?_
  refine E_st rfl rfl rfl ?_
  refine E_st rfl rfl rfl ?_
  refine E_st rfl rfl rfl ?_
  refine E_st rfl rfl rfl ?_
  refine E_st rfl rfl rfl ?_
  refine E_ret rfl rfl ?_
  refine E_st rfl rfl rfl ?_
  refine E_st rfl rfl rfl ?_
  refine E_st rfl rfl rfl ?_
  refine E_st rfl rfl rfl ?_
  refine E_if_lt rfl (by decide) (fun _ => ?_) (fun _ => ?_)
  · refine E_st rfl rfl rfl ?_
    refine E_ret rfl rfl ?_
    refine E_st rfl rfl rfl ?_
    refine E_st rfl rfl rfl ?_
    refine E_st rfl rfl rfl ?_
    refine E_st rfl rfl rfl ?_
    refine E_st rfl rfl rfl ?_
    refine E_scr rfl rfl h1 ?_
    refine E_st rfl rfl rfl ?_
    refine E_st rfl rfl rfl ?_
    refine E_st rfl rfl rfl ?_
    refine E_st rfl rfl rfl ?_
    refine E_scr rfl rfl h2 ?_
    refine E_st rfl rfl rfl ?_
    refine E_st rfl rfl rfl ?_
    refine E_st rfl rfl rfl ?_
    refine E_st rfl rfl rfl ?_
    refine E_scr rfl rfl h3 ?_
    refine E_st rfl rfl rfl ?_
    refine E_st rfl rfl rfl ?_
    refine E_st rfl rfl rfl ?_
    refine E_st rfl rfl rfl ?_
    refine E_scr rfl rfl h4 ?_
    refine E_call rfl rfl ?_
    refine E_st rfl rfl rfl ?_
    refine E_call rfl rfl ?_
    refine E_st rfl rfl rfl ?_
    refine E_st rfl rfl rfl ?_
    refine E_st rfl rfl rfl ?_
    refine E_call rfl rfl ?_
    refine E_st rfl rfl rfl ?_
    refine E_st rfl rfl rfl ?_
    refine E_st rfl rfl rfl ?_
    refine E_st rfl rfl rfl ?_
    refine E_st rfl rfl rfl ?_
    refine E_st rfl rfl rfl ?_
    refine E_st rfl rfl rfl ?_
    refine E_st rfl rfl rfl ?_
    refine E_ret rfl rfl ?_
    refine E_ret rfl rfl ?_
    refine E_st rfl rfl rfl ?_
    refine E_st rfl rfl rfl ?_
    refine E_st rfl rfl rfl ?_
    refine E_st rfl rfl rfl ?_
    refine E_call rfl rfl ?_
    refine E_st rfl rfl rfl ?_
    refine E_st rfl rfl rfl ?_
    refine E_icmp_lt (y := 0) rfl (by decide) (fun _ => ?_) (fun q => absurd q (by omega))
    refine E_st rfl rfl rfl ?_
    refine E_ret rfl rfl ?_
    refine E_st rfl rfl rfl ?_
    refine E_st rfl rfl rfl ?_
    refine E_ret rfl rfl ?_
    refine E_st rfl rfl rfl ?_
    refine E_st rfl rfl rfl ?_
    refine E_st rfl rfl rfl ?_
    refine E_st rfl rfl rfl ?_
    refine E_st rfl rfl rfl ?_
    refine E_st rfl rfl rfl ?_
    refine E_st rfl rfl rfl ?_
    refine E_st rfl rfl rfl ?_
    refine E_st rfl rfl rfl ?_
    refine E_st rfl rfl rfl ?_
    exact E_ret rfl rfl ⟨rfl, rfl⟩
  · refine E_st rfl rfl rfl ?_
    refine E_st rfl rfl rfl ?_
    refine E_icmp_ge (y := 12) rfl (by decide) (fun _ => ?_) (fun _ => ?_)
    · refine E_st rfl rfl rfl ?_
      refine E_ret rfl rfl ?_
      refine E_st rfl rfl rfl ?_
      refine E_st rfl rfl rfl ?_
      refine E_st rfl rfl rfl ?_
      refine E_st rfl rfl rfl ?_
      refine E_st rfl rfl rfl ?_
      refine E_scr rfl rfl h1 ?_
      refine E_st rfl rfl rfl ?_
      refine E_st rfl rfl rfl ?_
      refine E_st rfl rfl rfl ?_
      refine E_st rfl rfl rfl ?_
      refine E_scr rfl rfl h2 ?_
      refine E_st rfl rfl rfl ?_
      refine E_st rfl rfl rfl ?_
      refine E_st rfl rfl rfl ?_
      refine E_st rfl rfl rfl ?_
      refine E_scr rfl rfl h3 ?_
      refine E_st rfl rfl rfl ?_
      refine E_st rfl rfl rfl ?_
      refine E_st rfl rfl rfl ?_
      refine E_st rfl rfl rfl ?_
      refine E_scr rfl rfl h4 ?_
      refine E_call rfl rfl ?_
      refine E_st rfl rfl rfl ?_
      refine E_call rfl rfl ?_
      refine E_st rfl rfl rfl ?_
      refine E_st rfl rfl rfl ?_
      refine E_st rfl rfl rfl ?_
      refine E_call rfl rfl ?_
      refine E_st rfl rfl rfl ?_
      refine E_st rfl rfl rfl ?_
      refine E_st rfl rfl rfl ?_
      refine E_st rfl rfl rfl ?_
      refine E_st rfl rfl rfl ?_
      refine E_st rfl rfl rfl ?_
      refine E_st rfl rfl rfl ?_
      refine E_st rfl rfl rfl ?_
      refine E_ret rfl rfl ?_
      refine E_ret rfl rfl ?_
      refine E_st rfl rfl rfl ?_
      refine E_st rfl rfl rfl ?_
      refine E_st rfl rfl rfl ?_
      refine E_st rfl rfl rfl ?_
      refine E_call rfl rfl ?_
      refine E_st rfl rfl rfl ?_
      refine E_st rfl rfl rfl ?_
      refine E_icmp_lt (y := 0) rfl (by decide) (fun q => absurd q (by omega)) (fun _ => ?_)
      refine E_st rfl rfl rfl ?_
      refine E_st rfl rfl rfl ?_
      refine E_icmp_gt (y := 11) rfl (by decide) (fun _ => ?_) (fun q => absurd q (by omega))
      refine E_st rfl rfl rfl ?_
      refine E_ret rfl rfl ?_
      refine E_st rfl rfl rfl ?_
      refine E_st rfl rfl rfl ?_
      refine E_ret rfl rfl ?_
      refine E_st rfl rfl rfl ?_
      refine E_st rfl rfl rfl ?_
      refine E_st rfl rfl rfl ?_
      refine E_st rfl rfl rfl ?_
      refine E_st rfl rfl rfl ?_
      refine E_st rfl rfl rfl ?_
      refine E_st rfl rfl rfl ?_
      refine E_st rfl rfl rfl ?_
      refine E_st rfl rfl rfl ?_
      refine E_st rfl rfl rfl ?_
      exact E_ret rfl rfl ⟨rfl, rfl⟩
    · refine E_st rfl rfl rfl ?_
      refine E_st rfl rfl rfl ?_
      refine E_call rfl rfl ?_
      refine E_st rfl rfl rfl ?_
      refine E_if_lt rfl (by decide) (fun _ => ?_) (fun _ => ?_)
      · refine E_st rfl rfl rfl ?_
        refine E_ret rfl rfl ?_
        refine E_st rfl rfl rfl ?_
        refine E_st rfl rfl rfl ?_
        refine E_ret rfl rfl ?_
        refine E_st rfl rfl rfl ?_
        refine E_st rfl rfl rfl ?_
        refine E_st rfl rfl rfl ?_
        refine E_st rfl rfl rfl ?_
        refine E_st rfl rfl rfl ?_
        refine E_scr rfl rfl h1 ?_
        refine E_st rfl rfl rfl ?_
        refine E_st rfl rfl rfl ?_
        refine E_st rfl rfl rfl ?_
        refine E_st rfl rfl rfl ?_
        refine E_scr rfl rfl h2 ?_
        refine E_st rfl rfl rfl ?_
        refine E_st rfl rfl rfl ?_
        refine E_st rfl rfl rfl ?_
        refine E_st rfl rfl rfl ?_
        refine E_scr rfl rfl h3 ?_
        refine E_st rfl rfl rfl ?_
        refine E_st rfl rfl rfl ?_
        refine E_st rfl rfl rfl ?_
        refine E_st rfl rfl rfl ?_
        refine E_scr rfl rfl h4 ?_
        refine E_call rfl rfl ?_
        refine E_st rfl rfl rfl ?_
        refine E_call rfl rfl ?_
        refine E_st rfl rfl rfl ?_
        refine E_st rfl rfl rfl ?_
        refine E_st rfl rfl rfl ?_
        refine E_call rfl rfl ?_
        refine E_st rfl rfl rfl ?_
        refine E_st rfl rfl rfl ?_
        refine E_st rfl rfl rfl ?_
        refine E_st rfl rfl rfl ?_
        refine E_st rfl rfl rfl ?_
        refine E_st rfl rfl rfl ?_
        refine E_st rfl rfl rfl ?_
        refine E_st rfl rfl rfl ?_
        refine E_ret rfl rfl ?_
        refine E_ret rfl rfl ?_
        refine E_st rfl rfl rfl ?_
        refine E_st rfl rfl rfl ?_
        refine E_st rfl rfl rfl ?_
        refine E_st rfl rfl rfl ?_
        refine E_call rfl rfl ?_
        refine E_st rfl rfl rfl ?_
        refine E_st rfl rfl rfl ?_
        refine E_icmp_lt (y := 0) rfl (by decide) (fun q => absurd q (by omega)) (fun _ => ?_)
        refine E_st rfl rfl rfl ?_
        refine E_st rfl rfl rfl ?_
        refine E_icmp_gt (y := 11) rfl (by decide) (fun q => absurd q (by omega)) (fun _ => ?_)
        refine E_st rfl rfl rfl ?_
        refine E_st rfl rfl rfl ?_
        refine E_ret rfl rfl ?_
        refine E_st rfl rfl rfl ?_
        refine E_st rfl rfl rfl ?_
        refine E_st rfl rfl rfl ?_
        refine E_call rfl rfl ?_
        refine E_st rfl rfl rfl ?_
        refine E_st rfl rfl rfl ?_
        refine E_st rfl rfl rfl ?_
        refine E_call rfl rfl ?_
        refine E_st rfl rfl rfl ?_
        refine E_st rfl rfl rfl ?_
        refine E_icmp_lt (y := 0) rfl (by decide) (fun _ => ?_) (fun q => absurd q (by omega))
        refine E_st rfl rfl rfl ?_
        refine E_ret rfl rfl ?_
        refine E_st rfl rfl rfl ?_
        refine E_st rfl rfl rfl ?_
        refine E_ret rfl rfl ?_
        refine E_st rfl rfl rfl ?_
        refine E_st rfl rfl rfl ?_
        refine E_ret rfl rfl ?_
        refine E_st rfl rfl rfl ?_
        refine E_st rfl rfl rfl ?_
        refine E_st rfl rfl rfl ?_
        refine E_st rfl rfl rfl ?_
        refine E_st rfl rfl rfl ?_
        refine E_st rfl rfl rfl ?_
        refine E_st rfl rfl rfl ?_
        refine E_st rfl rfl rfl ?_
        refine E_st rfl rfl rfl ?_
        refine E_st rfl rfl rfl ?_
        exact E_ret rfl rfl ⟨rfl, rfl⟩
      · refine E_st rfl rfl rfl ?_
        refine E_st rfl rfl rfl ?_
        refine E_icmp_ge (y := 24) rfl (by decide) (fun _ => ?_) (fun _ => ?_)
        · refine E_st rfl rfl rfl ?_
          refine E_ret rfl rfl ?_
          refine E_st rfl rfl rfl ?_
          refine E_st rfl rfl rfl ?_
          refine E_ret rfl rfl ?_
          refine E_st rfl rfl rfl ?_
          refine E_st rfl rfl rfl ?_
          refine E_st rfl rfl rfl ?_
          refine E_st rfl rfl rfl ?_
          refine E_st rfl rfl rfl ?_
          refine E_scr rfl rfl h1 ?_
          refine E_st rfl rfl rfl ?_
          refine E_st rfl rfl rfl ?_
          refine E_st rfl rfl rfl ?_
          refine E_st rfl rfl rfl ?_
          refine E_scr rfl rfl h2 ?_
          refine E_st rfl rfl rfl ?_
          refine E_st rfl rfl rfl ?_
          refine E_st rfl rfl rfl ?_
          refine E_st rfl rfl rfl ?_
          refine E_scr rfl rfl h3 ?_
          refine E_st rfl rfl rfl ?_
          refine E_st rfl rfl rfl ?_
          refine E_st rfl rfl rfl ?_
          refine E_st rfl rfl rfl ?_
          refine E_scr rfl rfl h4 ?_
          refine E_call rfl rfl ?_
          refine E_st rfl rfl rfl ?_
          refine E_call rfl rfl ?_
          refine E_st rfl rfl rfl ?_
          refine E_st rfl rfl rfl ?_
          refine E_st rfl rfl rfl ?_
          refine E_call rfl rfl ?_
          refine E_st rfl rfl rfl ?_
          refine E_st rfl rfl rfl ?_
          refine E_st rfl rfl rfl ?_
          refine E_st rfl rfl rfl ?_
          refine E_st rfl rfl rfl ?_
          refine E_st rfl rfl rfl ?_
          refine E_st rfl rfl rfl ?_
          refine E_st rfl rfl rfl ?_
          refine E_ret rfl rfl ?_
          refine E_ret rfl rfl ?_
          refine E_st rfl rfl rfl ?_
          refine E_st rfl rfl rfl ?_
          refine E_st rfl rfl rfl ?_
          refine E_st rfl rfl rfl ?_
          refine E_call rfl rfl ?_
          refine E_st rfl rfl rfl ?_
          refine E_st rfl rfl rfl ?_
          refine E_icmp_lt (y := 0) rfl (by decide) (fun q => absurd q (by omega)) (fun _ => ?_)
          refine E_st rfl rfl rfl ?_
          refine E_st rfl rfl rfl ?_
          refine E_icmp_gt (y := 11) rfl (by decide) (fun q => absurd q (by omega)) (fun _ => ?_)
          refine E_st rfl rfl rfl ?_
          refine E_st rfl rfl rfl ?_
          refine E_ret rfl rfl ?_
          refine E_st rfl rfl rfl ?_
          refine E_st rfl rfl rfl ?_
          refine E_st rfl rfl rfl ?_
          refine E_call rfl rfl ?_
          refine E_st rfl rfl rfl ?_
          refine E_st rfl rfl rfl ?_
          refine E_st rfl rfl rfl ?_
          refine E_call rfl rfl ?_
          refine E_st rfl rfl rfl ?_
          refine E_st rfl rfl rfl ?_
          refine E_icmp_lt (y := 0) rfl (by decide) (fun q => absurd q (by omega)) (fun _ => ?_)
          refine E_st rfl rfl rfl ?_
          refine E_st rfl rfl rfl ?_
          refine E_icmp_gt (y := 23) rfl (by decide) (fun _ => ?_) (fun q => absurd q (by omega))
          refine E_st rfl rfl rfl ?_
          refine E_ret rfl rfl ?_
          refine E_st rfl rfl rfl ?_
          refine E_st rfl rfl rfl ?_
          refine E_ret rfl rfl ?_
          refine E_st rfl rfl rfl ?_
          refine E_st rfl rfl rfl ?_
          refine E_ret rfl rfl ?_
          refine E_st rfl rfl rfl ?_
          refine E_st rfl rfl rfl ?_
          refine E_st rfl rfl rfl ?_
          refine E_st rfl rfl rfl ?_
          refine E_st rfl rfl rfl ?_
          refine E_st rfl rfl rfl ?_
          refine E_st rfl rfl rfl ?_
          refine E_st rfl rfl rfl ?_
          refine E_st rfl rfl rfl ?_
          refine E_st rfl rfl rfl ?_
          exact E_ret rfl rfl ⟨rfl, rfl⟩
        · refine E_st rfl rfl rfl ?_
          refine E_st rfl rfl rfl ?_
          refine E_icmp_lt (y := 10) rfl (by decide) (fun _ => ?_) (fun _ => ?_)
          · refine E_st rfl rfl rfl ?_
            refine E_ret rfl rfl ?_
            refine E_st rfl rfl rfl ?_
            refine E_st rfl rfl rfl ?_
            refine E_ret rfl rfl ?_
            refine E_st rfl rfl rfl ?_
            refine E_st rfl rfl rfl ?_
            refine E_st rfl rfl rfl ?_
            refine E_st rfl rfl rfl ?_
            refine E_st rfl rfl rfl ?_
            refine E_scr rfl rfl h1 ?_
            refine E_st rfl rfl rfl ?_
            refine E_st rfl rfl rfl ?_
            refine E_st rfl rfl rfl ?_
            refine E_st rfl rfl rfl ?_
            refine E_scr rfl rfl h2 ?_
            refine E_st rfl rfl rfl ?_
            refine E_st rfl rfl rfl ?_
            refine E_st rfl rfl rfl ?_
            refine E_st rfl rfl rfl ?_
            refine E_scr rfl rfl h3 ?_
            refine E_st rfl rfl rfl ?_
            refine E_st rfl rfl rfl ?_
            refine E_st rfl rfl rfl ?_
            refine E_st rfl rfl rfl ?_
            refine E_scr rfl rfl h4 ?_
            refine E_call rfl rfl ?_
            refine E_st rfl rfl rfl ?_
            refine E_call rfl rfl ?_
            refine E_st rfl rfl rfl ?_
            refine E_st rfl rfl rfl ?_
            refine E_st rfl rfl rfl ?_
            refine E_call rfl rfl ?_
            refine E_st rfl rfl rfl ?_
            refine E_st rfl rfl rfl ?_
            refine E_st rfl rfl rfl ?_
            refine E_st rfl rfl rfl ?_
            refine E_st rfl rfl rfl ?_
            refine E_st rfl rfl rfl ?_
            refine E_st rfl rfl rfl ?_
            refine E_st rfl rfl rfl ?_
            refine E_ret rfl rfl ?_
            refine E_ret rfl rfl ?_
            refine E_st rfl rfl rfl ?_
            refine E_st rfl rfl rfl ?_
            refine E_st rfl rfl rfl ?_
            refine E_st rfl rfl rfl ?_
            refine E_call rfl rfl ?_
            refine E_st rfl rfl rfl ?_
            refine E_st rfl rfl rfl ?_
            refine E_icmp_lt (y := 0) rfl (by decide) (fun q => absurd q (by omega)) (fun _ => ?_)
            refine E_st rfl rfl rfl ?_
            refine E_st rfl rfl rfl ?_
            refine E_icmp_gt (y := 11) rfl (by decide) (fun q => absurd q (by omega)) (fun _ => ?_)
            refine E_st rfl rfl rfl ?_
            refine E_st rfl rfl rfl ?_
            refine E_ret rfl rfl ?_
            refine E_st rfl rfl rfl ?_
            refine E_st rfl rfl rfl ?_
            refine E_st rfl rfl rfl ?_
            refine E_call rfl rfl ?_
            refine E_st rfl rfl rfl ?_
            refine E_st rfl rfl rfl ?_
            refine E_st rfl rfl rfl ?_
            refine E_call rfl rfl ?_
            refine E_st rfl rfl rfl ?_
            refine E_st rfl rfl rfl ?_
            refine E_icmp_lt (y := 0) rfl (by decide) (fun q => absurd q (by omega)) (fun _ => ?_)
            refine E_st rfl rfl rfl ?_
            refine E_st rfl rfl rfl ?_
            refine E_icmp_gt (y := 23) rfl (by decide) (fun q => absurd q (by omega)) (fun _ => ?_)
            refine E_st rfl rfl rfl ?_
            refine E_st rfl rfl rfl ?_
            refine E_ret rfl rfl ?_
            refine E_st rfl rfl rfl ?_
            refine E_st rfl rfl rfl ?_
            refine E_st rfl rfl rfl ?_
            refine E_st rfl rfl rfl ?_
            refine E_call rfl rfl ?_
            refine E_st rfl rfl rfl ?_
            refine E_st rfl rfl rfl ?_
            refine E_icmp_lt (y := 10) rfl (by decide) (fun _ => ?_) (fun q => absurd q (by omega))
            refine E_st rfl rfl rfl ?_
            refine E_ret rfl rfl ?_
            refine E_st rfl rfl rfl ?_
            refine E_st rfl rfl rfl ?_
            refine E_ret rfl rfl ?_
            refine E_st rfl rfl rfl ?_
            refine E_st rfl rfl rfl ?_
            refine E_ret rfl rfl ?_
            refine E_st rfl rfl rfl ?_
            refine E_st rfl rfl rfl ?_
            refine E_st rfl rfl rfl ?_
            refine E_st rfl rfl rfl ?_
            refine E_st rfl rfl rfl ?_
            refine E_st rfl rfl rfl ?_
            refine E_st rfl rfl rfl ?_
            refine E_st rfl rfl rfl ?_
            refine E_st rfl rfl rfl ?_
            refine E_st rfl rfl rfl ?_
            exact E_ret rfl rfl ⟨rfl, rfl⟩
          · refine E_st rfl rfl rfl ?_
            refine E_st rfl rfl rfl ?_
            refine E_icmp_gt (y := 600) rfl (by decide) (fun _ => ?_) (fun _ => ?_)
            · refine E_st rfl rfl rfl ?_
              refine E_ret rfl rfl ?_
              refine E_st rfl rfl rfl ?_
              refine E_st rfl rfl rfl ?_
              refine E_ret rfl rfl ?_
              refine E_st rfl rfl rfl ?_
              refine E_st rfl rfl rfl ?_
              refine E_st rfl rfl rfl ?_
              refine E_st rfl rfl rfl ?_
              refine E_st rfl rfl rfl ?_
              refine E_scr rfl rfl h1 ?_
              refine E_st rfl rfl rfl ?_
              refine E_st rfl rfl rfl ?_
              refine E_st rfl rfl rfl ?_
              refine E_st rfl rfl rfl ?_
              refine E_scr rfl rfl h2 ?_
              refine E_st rfl rfl rfl ?_
              refine E_st rfl rfl rfl ?_
              refine E_st rfl rfl rfl ?_
              refine E_st rfl rfl rfl ?_
              refine E_scr rfl rfl h3 ?_
              refine E_st rfl rfl rfl ?_
              refine E_st rfl rfl rfl ?_
              refine E_st rfl rfl rfl ?_
              refine E_st rfl rfl rfl ?_
              refine E_scr rfl rfl h4 ?_
              refine E_call rfl rfl ?_
              refine E_st rfl rfl rfl ?_
              refine E_call rfl rfl ?_
              refine E_st rfl rfl rfl ?_
              refine E_st rfl rfl rfl ?_
              refine E_st rfl rfl rfl ?_
              refine E_call rfl rfl ?_
              refine E_st rfl rfl rfl ?_
              refine E_st rfl rfl rfl ?_
              refine E_st rfl rfl rfl ?_
              refine E_st rfl rfl rfl ?_
              refine E_st rfl rfl rfl ?_
              refine E_st rfl rfl rfl ?_
              refine E_st rfl rfl rfl ?_
              refine E_st rfl rfl rfl ?_
              refine E_ret rfl rfl ?_
              refine E_ret rfl rfl ?_
              refine E_st rfl rfl rfl ?_
              refine E_st rfl rfl rfl ?_
              refine E_st rfl rfl rfl ?_
              refine E_st rfl rfl rfl ?_
              refine E_call rfl rfl ?_
              refine E_st rfl rfl rfl ?_
              refine E_st rfl rfl rfl ?_
              refine E_icmp_lt (y := 0) rfl (by decide) (fun q => absurd q (by omega)) (fun _ => ?_)
              refine E_st rfl rfl rfl ?_
              refine E_st rfl rfl rfl ?_
              refine E_icmp_gt (y := 11) rfl (by decide) (fun q => absurd q (by omega)) (fun _ => ?_)
              refine E_st rfl rfl rfl ?_
              refine E_st rfl rfl rfl ?_
              refine E_ret rfl rfl ?_
              refine E_st rfl rfl rfl ?_
              refine E_st rfl rfl rfl ?_
              refine E_st rfl rfl rfl ?_
              refine E_call rfl rfl ?_
              refine E_st rfl rfl rfl ?_
              refine E_st rfl rfl rfl ?_
              refine E_st rfl rfl rfl ?_
              refine E_call rfl rfl ?_
              refine E_st rfl rfl rfl ?_
              refine E_st rfl rfl rfl ?_
              refine E_icmp_lt (y := 0) rfl (by decide) (fun q => absurd q (by omega)) (fun _ => ?_)
              refine E_st rfl rfl rfl ?_
              refine E_st rfl rfl rfl ?_
              refine E_icmp_gt (y := 23) rfl (by decide) (fun q => absurd q (by omega)) (fun _ => ?_)
              refine E_st rfl rfl rfl ?_
              refine E_st rfl rfl rfl ?_
              refine E_ret rfl rfl ?_
              refine E_st rfl rfl rfl ?_
              refine E_st rfl rfl rfl ?_
              refine E_st rfl rfl rfl ?_
              refine E_st rfl rfl rfl ?_
              refine E_call rfl rfl ?_
              refine E_st rfl rfl rfl ?_
              refine E_st rfl rfl rfl ?_
              refine E_icmp_lt (y := 10) rfl (by decide) (fun q => absurd q (by omega)) (fun _ => ?_)
              refine E_st rfl rfl rfl ?_
              refine E_st rfl rfl rfl ?_
              refine E_icmp_gt (y := 600) rfl (by decide) (fun _ => ?_) (fun q => absurd q (by omega))
              refine E_st rfl rfl rfl ?_
              refine E_ret rfl rfl ?_
              refine E_st rfl rfl rfl ?_
              refine E_st rfl rfl rfl ?_
              refine E_ret rfl rfl ?_
              refine E_st rfl rfl rfl ?_
              refine E_st rfl rfl rfl ?_
              refine E_ret rfl rfl ?_
              refine E_st rfl rfl rfl ?_
              refine E_st rfl rfl rfl ?_
              refine E_st rfl rfl rfl ?_
              refine E_st rfl rfl rfl ?_
              refine E_st rfl rfl rfl ?_
              refine E_st rfl rfl rfl ?_
              refine E_st rfl rfl rfl ?_
              refine E_st rfl rfl rfl ?_
              refine E_st rfl rfl rfl ?_
              refine E_st rfl rfl rfl ?_
              exact E_ret rfl rfl ⟨rfl, rfl⟩
            · refine E_st rfl rfl rfl ?_
              refine E_st rfl rfl rfl ?_
              refine E_ret rfl rfl ?_
              refine E_st rfl rfl rfl ?_
              refine E_st rfl rfl rfl ?_
              refine E_st rfl rfl rfl ?_
              refine E_st rfl rfl rfl ?_
              refine E_st rfl rfl rfl ?_
              refine E_st rfl rfl rfl ?_
              refine E_call rfl rfl ?_
              refine E_st rfl rfl rfl ?_
              refine E_st rfl rfl rfl ?_
              refine E_st rfl rfl rfl ?_
              refine E_st rfl rfl rfl ?_
              refine E_st rfl rfl rfl ?_
              refine E_st rfl rfl rfl ?_
              refine E_st rfl rfl rfl ?_
              refine E_st rfl rfl rfl ?_
              refine E_st rfl rfl rfl ?_
              refine E_st rfl rfl rfl ?_
              refine E_st rfl rfl rfl ?_
              refine E_st rfl rfl rfl ?_
              refine E_st rfl rfl rfl ?_
              refine E_st rfl rfl rfl ?_
              refine E_st rfl rfl rfl ?_
              refine E_st rfl rfl rfl ?_
              refine E_st rfl rfl rfl ?_
              refine E_st rfl rfl rfl ?_
              refine E_st rfl rfl rfl ?_
              refine E_st rfl rfl rfl ?_
              refine E_st rfl rfl rfl ?_
              refine E_st rfl rfl rfl ?_
              refine E_st rfl rfl rfl ?_
              refine E_st rfl rfl rfl ?_
              refine E_st rfl rfl rfl ?_
              refine E_st rfl rfl rfl ?_
              refine E_st rfl rfl rfl ?_
              refine E_st rfl rfl rfl ?_
              refine E_st rfl rfl rfl ?_
              refine E_st rfl rfl rfl ?_
              refine E_st rfl rfl rfl ?_
              refine E_st rfl rfl rfl ?_
              refine E_st rfl rfl rfl ?_
              refine E_st rfl rfl rfl ?_
              refine E_st rfl rfl rfl ?_
              refine E_st rfl rfl rfl ?_
              refine E_st rfl rfl rfl ?_
              refine E_st rfl rfl rfl ?_
              refine E_st rfl rfl rfl ?_
              refine E_st rfl rfl rfl ?_
              refine E_st rfl rfl rfl ?_
              refine E_st rfl rfl rfl ?_
              refine E_st rfl rfl rfl ?_
              refine E_st rfl rfl rfl ?_
              refine E_st rfl rfl rfl ?_
              refine E_st rfl rfl rfl ?_
              refine E_st rfl rfl rfl ?_
              refine E_st rfl rfl rfl ?_
              refine E_st rfl rfl rfl ?_
              refine E_st rfl rfl rfl ?_
              refine E_st rfl rfl rfl ?_
              refine E_call rfl rfl ?_
              refine E_st rfl rfl rfl ?_
              refine E_st rfl rfl rfl ?_
              refine E_st rfl rfl rfl ?_
              refine E_st rfl rfl rfl ?_
              refine E_st rfl rfl rfl ?_
              refine E_st rfl rfl rfl ?_
              refine E_ret rfl rfl ?_
              refine E_st rfl rfl rfl ?_
              refine E_ret rfl rfl ?_
              refine E_ret rfl rfl ?_
              refine E_st rfl rfl rfl ?_
              refine E_st rfl rfl rfl ?_
              refine E_st rfl rfl rfl ?_
              refine E_st rfl rfl rfl ?_
              refine E_st rfl rfl rfl ?_
              refine E_scr rfl rfl h1 ?_
              refine E_st rfl rfl rfl ?_
              refine E_st rfl rfl rfl ?_
              refine E_st rfl rfl rfl ?_
              refine E_st rfl rfl rfl ?_
              refine E_scr rfl rfl h2 ?_
              refine E_st rfl rfl rfl ?_
              refine E_st rfl rfl rfl ?_
              refine E_st rfl rfl rfl ?_
              refine E_st rfl rfl rfl ?_
              refine E_scr rfl rfl h3 ?_
              refine E_st rfl rfl rfl ?_
              refine E_st rfl rfl rfl ?_
              refine E_st rfl rfl rfl ?_
              refine E_st rfl rfl rfl ?_
              refine E_scr rfl rfl h4 ?_
              refine E_call rfl rfl ?_
              refine E_st rfl rfl rfl ?_
              refine E_call rfl rfl ?_
              refine E_st rfl rfl rfl ?_
              refine E_st rfl rfl rfl ?_
              refine E_st rfl rfl rfl ?_
              refine E_call rfl rfl ?_
              refine E_st rfl rfl rfl ?_
              refine E_st rfl rfl rfl ?_
              refine E_st rfl rfl rfl ?_
              refine E_st rfl rfl rfl ?_
              refine E_st rfl rfl rfl ?_
              refine E_st rfl rfl rfl ?_
              refine E_st rfl rfl rfl ?_
              refine E_st rfl rfl rfl ?_
              refine E_ret rfl rfl ?_
              refine E_ret rfl rfl ?_
              refine E_st rfl rfl rfl ?_
              refine E_st rfl rfl rfl ?_
              refine E_st rfl rfl rfl ?_
              refine E_st rfl rfl rfl ?_
              refine E_call rfl rfl ?_
              refine E_st rfl rfl rfl ?_
              refine E_st rfl rfl rfl ?_
              refine E_icmp_lt (y := 0) rfl (by decide) (fun q => absurd q (by omega)) (fun _ => ?_)
              refine E_st rfl rfl rfl ?_
              refine E_st rfl rfl rfl ?_
              refine E_icmp_gt (y := 11) rfl (by decide) (fun q => absurd q (by omega)) (fun _ => ?_)
              refine E_st rfl rfl rfl ?_
              refine E_st rfl rfl rfl ?_
              refine E_ret rfl rfl ?_
              refine E_st rfl rfl rfl ?_
              refine E_st rfl rfl rfl ?_
              refine E_st rfl rfl rfl ?_
              refine E_call rfl rfl ?_
              refine E_st rfl rfl rfl ?_
              refine E_st rfl rfl rfl ?_
              refine E_st rfl rfl rfl ?_
              refine E_call rfl rfl ?_
              refine E_st rfl rfl rfl ?_
              refine E_st rfl rfl rfl ?_
              refine E_icmp_lt (y := 0) rfl (by decide) (fun q => absurd q (by omega)) (fun _ => ?_)
              refine E_st rfl rfl rfl ?_
              refine E_st rfl rfl rfl ?_
              refine E_icmp_gt (y := 23) rfl (by decide) (fun q => absurd q (by omega)) (fun _ => ?_)
              refine E_st rfl rfl rfl ?_
              refine E_st rfl rfl rfl ?_
              refine E_ret rfl rfl ?_
              refine E_st rfl rfl rfl ?_
              refine E_st rfl rfl rfl ?_
              refine E_st rfl rfl rfl ?_
              refine E_st rfl rfl rfl ?_
              refine E_call rfl rfl ?_
              refine E_st rfl rfl rfl ?_
              refine E_st rfl rfl rfl ?_
              refine E_icmp_lt (y := 10) rfl (by decide) (fun q => absurd q (by omega)) (fun _ => ?_)
              refine E_st rfl rfl rfl ?_
              refine E_st rfl rfl rfl ?_
              refine E_icmp_gt (y := 600) rfl (by decide) (fun q => absurd q (by omega)) (fun _ => ?_)
              refine E_st rfl rfl rfl ?_
              refine E_st rfl rfl rfl ?_
              refine E_ret rfl rfl ?_
              refine E_st rfl rfl rfl ?_
              refine E_st rfl rfl rfl ?_
              refine E_st rfl rfl rfl ?_
              refine E_ret rfl rfl ?_
              refine E_st rfl rfl rfl ?_
              refine E_st rfl rfl rfl ?_
              refine E_st rfl rfl rfl ?_
              refine E_st rfl rfl rfl ?_
              refine E_st rfl rfl rfl ?_
              refine E_st rfl rfl rfl ?_
              refine E_st rfl rfl rfl ?_
              refine E_st rfl rfl rfl ?_
              refine E_st rfl rfl rfl ?_
              refine E_st rfl rfl rfl ?_
              refine E_st rfl rfl rfl ?_
              refine E_st rfl rfl rfl ?_
              refine E_st rfl rfl rfl ?_
              refine E_call rfl rfl ?_
              refine E_st rfl rfl rfl ?_
              refine E_st rfl rfl rfl ?_
              refine E_st rfl rfl rfl ?_
              refine E_st rfl rfl rfl ?_
              refine E_st rfl rfl rfl ?_
              refine E_st rfl rfl rfl ?_
              refine E_st rfl rfl rfl ?_
              refine E_st rfl rfl rfl ?_
              refine E_st rfl rfl rfl ?_
              refine E_st rfl rfl rfl ?_
              refine E_st rfl rfl rfl ?_
              refine E_st rfl rfl rfl ?_
              refine E_st rfl rfl rfl ?_
              refine E_st rfl rfl rfl ?_
              refine E_st rfl rfl rfl ?_
              refine E_st rfl rfl rfl ?_
              refine E_st rfl rfl rfl ?_
              refine E_st rfl rfl rfl ?_
              refine E_st rfl rfl rfl ?_
              refine E_st rfl rfl rfl ?_
              refine E_st rfl rfl rfl ?_
              refine E_st rfl rfl rfl ?_
              refine E_st rfl rfl rfl ?_
              refine E_st rfl rfl rfl ?_
              refine E_st rfl rfl rfl ?_
              refine E_st rfl rfl rfl ?_
              refine E_st rfl rfl rfl ?_
              refine E_st rfl rfl rfl ?_
              refine E_st rfl rfl rfl ?_
              refine E_st rfl rfl rfl ?_
              refine E_st rfl rfl rfl ?_
              refine E_st rfl rfl rfl ?_
              refine E_st rfl rfl rfl ?_
              refine E_st rfl rfl rfl ?_
              refine E_st rfl rfl rfl ?_
              refine E_st rfl rfl rfl ?_
              refine E_st rfl rfl rfl ?_
              refine E_st rfl rfl rfl ?_
              refine E_st rfl rfl rfl ?_
              refine E_st rfl rfl rfl ?_
              refine E_st rfl rfl rfl ?_
              refine E_st rfl rfl rfl ?_
              refine E_st rfl rfl rfl ?_
              refine E_st rfl rfl rfl ?_
              refine E_st rfl rfl rfl ?_
              refine E_st rfl rfl rfl ?_
              refine E_st rfl rfl rfl ?_
              refine E_st rfl rfl rfl ?_
              refine E_st rfl rfl rfl ?_
              refine E_call rfl rfl ?_
              refine E_st rfl rfl rfl ?_
              refine E_st rfl rfl rfl ?_
              refine E_st rfl rfl rfl ?_
              refine E_st rfl rfl rfl ?_
              refine E_st rfl rfl rfl ?_
              refine E_ret rfl rfl ?_
              refine E_st rfl rfl rfl ?_
              refine E_st rfl rfl rfl ?_
              refine E_st rfl rfl rfl ?_
              refine E_st rfl rfl rfl ?_
              refine E_st rfl rfl rfl ?_
              refine E_st rfl rfl rfl ?_
              refine E_ret rfl rfl ?_
              refine E_ret rfl rfl ?_
              refine E_st rfl rfl rfl ?_
              refine E_st rfl rfl rfl ?_
              refine E_st rfl rfl rfl ?_
              refine E_st rfl rfl rfl ?_
              refine E_st rfl rfl rfl ?_
              refine E_st rfl rfl rfl ?_
              refine E_st rfl rfl rfl ?_
              refine E_st rfl rfl rfl ?_
              refine E_st rfl rfl rfl ?_
              refine E_st rfl rfl rfl ?_
              exact E_ret rfl rfl ⟨rfl, rfl⟩
set_option maxRecDepth 100000 in
set_option maxHeartbeats 40000000 in
theorem pc_0_2 (xs : Nat → Int) {z a2 a3 a4 a5 : Int} (hz : b32 (fun a b => a &&& b) z 31 = 0) (h0 : xs 0 = z) (h1 : xs 1 = 2) (h2 : xs 2 = a2) (h3 : xs 3 = a3) (h4 : xs 4 = a4) (h5 : xs 5 = a5) : E 0 18 LL [] (s0 xs 6) PQ := by
  refine E_st rfl rfl rfl ?_
  refine E_st rfl rfl rfl ?_
  refine E_st rfl rfl rfl ?_
  refine E_st rfl rfl rfl ?_
  refine E_st rfl rfl rfl ?_
  refine E_st rfl rfl rfl ?_
  refine E_st rfl rfl rfl ?_
  refine E_st rfl rfl rfl ?_
  refine E_scr rfl rfl h0 ?_
  refine E_st rfl rfl rfl ?_
  refine E_st rfl rfl rfl ?_
  refine E_val hz ?_
  refine E_st rfl rfl rfl ?_
  refine E_st rfl rfl rfl ?_
  refine E_st rfl rfl rfl ?_
  refine E_st rfl rfl rfl ?_
  refine E_st rfl rfl rfl ?_
  refine E_st rfl rfl rfl ?_
  refine E_scr rfl rfl h1 ?_
  refine E_st rfl rfl rfl ?_
  refine E_st rfl rfl rfl ?_
  refine E_st rfl rfl rfl ?_
  refine E_st rfl rfl rfl ?_
  refine E_scr rfl rfl h2 ?_
  refine E_st rfl rfl rfl ?_
  refine E_st rfl rfl rfl ?_
  refine E_st rfl rfl rfl ?_
  refine E_st rfl rfl rfl ?_
  refine E_scr rfl rfl h3 ?_
  refine E_st rfl rfl rfl ?_
  refine E_st rfl rfl rfl ?_
  refine E_st rfl rfl rfl ?_
  refine E_st rfl rfl rfl ?_
  refine E_scr rfl rfl h4 ?_
  refine E_call rfl rfl ?_
  refine E_st rfl rfl rfl ?_
  refine E_st rfl rfl rfl ?_
  refine E_call rfl rfl ?_
  refine E_st rfl rfl rfl ?_
  refine E_st rfl rfl rfl ?_
  refine E_st rfl rfl rfl ?_
  refine E_st rfl rfl rfl ?_
  refine E_st rfl rfl rfl ?_
  refine E_st rfl rfl rfl ?_
  refine E_st rfl rfl rfl ?_
  refine E_st rfl rfl rfl ?_
  refine E_st rfl rfl rfl ?_
  refine E_st rfl rfl rfl ?_
  refine E_ret rfl rfl ?_
  refine E_st rfl rfl rfl ?_
  refine E_st rfl rfl rfl ?_
  refine E_st rfl rfl rfl ?_
  refine E_st rfl rfl rfl ?_
  refine E_if_lt rfl (by decide) (fun _ => ?_) (fun _ => ?_)
  · refine E_st rfl rfl rfl ?_
    refine E_ret rfl rfl ?_
    refine E_st rfl rfl rfl ?_
    refine E_st rfl rfl rfl ?_
    refine E_st rfl rfl rfl ?_
    refine E_st rfl rfl rfl ?_
    refine E_st rfl rfl rfl ?_
    refine E_scr rfl rfl h1 ?_
    refine E_st rfl rfl rfl ?_
    refine E_st rfl rfl rfl ?_
    refine E_st rfl rfl rfl ?_
    refine E_st rfl rfl rfl ?_
    refine E_scr rfl rfl h2 ?_
    refine E_st rfl rfl rfl ?_
    refine E_st rfl rfl rfl ?_
    refine E_st rfl rfl rfl ?_
    refine E_st rfl rfl rfl ?_
    refine E_scr rfl rfl h3 ?_
    refine E_st rfl rfl rfl ?_
    refine E_st rfl rfl rfl ?_
    refine E_st rfl rfl rfl ?_
    refine E_st rfl rfl rfl ?_
    refine E_scr rfl rfl h4 ?_
    refine E_call rfl rfl ?_
    refine E_st rfl rfl rfl ?_
    refine E_call rfl rfl ?_
    refine E_st rfl rfl rfl ?_
    refine E_st rfl rfl rfl ?_
    refine E_st rfl rfl rfl ?_
    refine E_call rfl rfl ?_
    refine E_st rfl rfl rfl ?_
    refine E_st rfl rfl rfl ?_
    refine E_st rfl rfl rfl ?_
    refine E_st rfl rfl rfl ?_
    refine E_st rfl rfl rfl ?_
    refine E_st rfl rfl rfl ?_
    refine E_st rfl rfl rfl ?_
    refine E_st rfl rfl rfl ?_
    refine E_ret rfl rfl ?_
    refine E_ret rfl rfl ?_
    refine E_st rfl rfl rfl ?_
    refine E_st rfl rfl rfl ?_
    refine E_st rfl rfl rfl ?_
    refine E_st rfl rfl rfl ?_
    refine E_call rfl rfl ?_
    refine E_st rfl rfl rfl ?_
    refine E_st rfl rfl rfl ?_
    refine E_icmp_lt (y := 0) rfl (by decide) (fun _ => ?_) (fun q => absurd q (by omega))
    refine E_st rfl rfl rfl ?_
    refine E_ret rfl rfl ?_
    refine E_st rfl rfl rfl ?_
    refine E_st rfl rfl rfl ?_
    refine E_ret rfl rfl ?_
    refine E_st rfl rfl rfl ?_
    refine E_st rfl rfl rfl ?_
    refine E_st rfl rfl rfl ?_
    refine E_st rfl rfl rfl ?_
    refine E_st rfl rfl rfl ?_
    refine E_st rfl rfl rfl ?_
    refine E_st rfl rfl rfl ?_
    refine E_st rfl rfl rfl ?_
    refine E_st rfl rfl rfl ?_
    refine E_st rfl rfl rfl ?_
    exact E_ret rfl rfl ⟨rfl, rfl⟩
  · refine E_st rfl rfl rfl ?_
    refine E_st rfl rfl rfl ?_
    refine E_icmp_ge (y := 12) rfl (by decide) (fun _ => ?_) (fun _ => ?_)
    · refine E_st rfl rfl rfl ?_
      refine E_ret rfl rfl ?_
      refine E_st rfl rfl rfl ?_
      refine E_st rfl rfl rfl ?_
      refine E_st rfl rfl rfl ?_
      refine E_st rfl rfl rfl ?_
      refine E_st rfl rfl rfl ?_
      refine E_scr rfl rfl h1 ?_
      refine E_st rfl rfl rfl ?_
      refine E_st rfl rfl rfl ?_
      refine E_st rfl rfl rfl ?_
      refine E_st rfl rfl rfl ?_
      refine E_scr rfl rfl h2 ?_
      refine E_st rfl rfl rfl ?_
      refine E_st rfl rfl rfl ?_
      refine E_st rfl rfl rfl ?_
      refine E_st rfl rfl rfl ?_
      refine E_scr rfl rfl h3 ?_
      refine E_st rfl rfl rfl ?_
      refine E_st rfl rfl rfl ?_
      refine E_st rfl rfl rfl ?_
      refine E_st rfl rfl rfl ?_
      refine E_scr rfl rfl h4 ?_
      refine E_call rfl rfl ?_
      refine E_st rfl rfl rfl ?_
      refine E_call rfl rfl ?_
      refine E_st rfl rfl rfl ?_
      refine E_st rfl rfl rfl ?_
      refine E_st rfl rfl rfl ?_
      refine E_call rfl rfl ?_
      refine E_st rfl rfl rfl ?_
      refine E_st rfl rfl rfl ?_
      refine E_st rfl rfl rfl ?_
      refine E_st rfl rfl rfl ?_
      refine E_st rfl rfl rfl ?_
      refine E_st rfl rfl rfl ?_
      refine E_st rfl rfl rfl ?_
      refine E_st rfl rfl rfl ?_
      refine E_ret rfl rfl ?_
      refine E_ret rfl rfl ?_
      refine E_st rfl rfl rfl ?_
      refine E_st rfl rfl rfl ?_
      refine E_st rfl rfl rfl ?_
      refine E_st rfl rfl rfl ?_
      refine E_call rfl rfl ?_
      refine E_st rfl rfl rfl ?_
      refine E_st rfl rfl rfl ?_
      refine E_icmp_lt (y := 0) rfl (by decide) (fun q => absurd q (by omega)) (fun _ => ?_)
      refine E_st rfl rfl rfl ?_
      refine E_st rfl rfl rfl ?_
      refine E_icmp_gt (y := 11) rfl (by decide) (fun _ => ?_) (fun q => absurd q (by omega))
      refine E_st rfl rfl rfl ?_
      refine E_ret rfl rfl ?_
      refine E_st rfl rfl rfl ?_
      refine E_st rfl rfl rfl ?_
      refine E_ret rfl rfl ?_
      refine E_st rfl rfl rfl ?_
      refine E_st rfl rfl rfl ?_
      refine E_st rfl rfl rfl ?_
      refine E_st rfl rfl rfl ?_
      refine E_st rfl rfl rfl ?_
      refine E_st rfl rfl rfl ?_
      refine E_st rfl rfl rfl ?_
      refine E_st rfl rfl rfl ?_
      refine E_st rfl rfl rfl ?_
      refine E_st rfl rfl rfl ?_
      exact E_ret rfl rfl ⟨rfl, rfl⟩
    · refine E_st rfl rfl rfl ?_
      refine E_st rfl rfl rfl ?_
      refine E_call rfl rfl ?_
      refine E_st rfl rfl rfl ?_
      refine E_if_lt rfl (by decide) (fun _ => ?_) (fun _ => ?_)
      · refine E_st rfl rfl rfl ?_
        refine E_ret rfl rfl ?_
        refine E_st rfl rfl rfl ?_
        refine E_st rfl rfl rfl ?_
        refine E_ret rfl rfl ?_
        refine E_st rfl rfl rfl ?_
        refine E_st rfl rfl rfl ?_
        refine E_st rfl rfl rfl ?_
        refine E_st rfl rfl rfl ?_
        refine E_st rfl rfl rfl ?_
        refine E_scr rfl rfl h1 ?_
        refine E_st rfl rfl rfl ?_
        refine E_st rfl rfl rfl ?_
        refine E_st rfl rfl rfl ?_
        refine E_st rfl rfl rfl ?_
        refine E_scr rfl rfl h2 ?_
        refine E_st rfl rfl rfl ?_
        refine E_st rfl rfl rfl ?_
        refine E_st rfl rfl rfl ?_
        refine E_st rfl rfl rfl ?_
        refine E_scr rfl rfl h3 ?_
        refine E_st rfl rfl rfl ?_
        refine E_st rfl rfl rfl ?_
        refine E_st rfl rfl rfl ?_
        refine E_st rfl rfl rfl ?_
        refine E_scr rfl rfl h4 ?_
        refine E_call rfl rfl ?_
        refine E_st rfl rfl rfl ?_
        refine E_call rfl rfl ?_
        refine E_st rfl rfl rfl ?_
        refine E_st rfl rfl rfl ?_
        refine E_st rfl rfl rfl ?_
        refine E_call rfl rfl ?_
        refine E_st rfl rfl rfl ?_
        refine E_st rfl rfl rfl ?_
        refine E_st rfl rfl rfl ?_
        refine E_st rfl rfl rfl ?_
        refine E_st rfl rfl rfl ?_
        refine E_st rfl rfl rfl ?_
        refine E_st rfl rfl rfl ?_
        refine E_st rfl rfl rfl ?_
        refine E_ret rfl rfl ?_
        refine E_ret rfl rfl ?_
        refine E_st rfl rfl rfl ?_
        refine E_st rfl rfl rfl ?_
        refine E_st rfl rfl rfl ?_
        refine E_st rfl rfl rfl ?_
        refine E_call rfl rfl ?_
        refine E_st rfl rfl rfl ?_
        refine E_st rfl rfl rfl ?_
        refine E_icmp_lt (y := 0) rfl (by decide) (fun q => absurd q (by omega)) (fun _ => ?_)
        refine E_st rfl rfl rfl ?_
        refine E_st rfl rfl rfl ?_
        refine E_icmp_gt (y := 11) rfl (by decide) (fun q => absurd q (by omega)) (fun _ => ?_)
        refine E_st rfl rfl rfl ?_
        refine E_st rfl rfl rfl ?_
        refine E_ret rfl rfl ?_
        refine E_st rfl rfl rfl ?_
        refine E_st rfl rfl rfl ?_
        refine E_st rfl rfl rfl ?_
        refine E_call rfl rfl ?_
        refine E_st rfl rfl rfl ?_
        refine E_st rfl rfl rfl ?_
        refine E_st rfl rfl rfl ?_
        refine E_call rfl rfl ?_
        refine E_st rfl rfl rfl ?_
        refine E_st rfl rfl rfl ?_
        refine E_icmp_lt (y := 0) rfl (by decide) (fun _ => ?_) (fun q => absurd q (by omega))
        refine E_st rfl rfl rfl ?_
        refine E_ret rfl rfl ?_
        refine E_st rfl rfl rfl ?_
        refine E_st rfl rfl rfl ?_
        refine E_ret rfl rfl ?_
        refine E_st rfl rfl rfl ?_
        refine E_st rfl rfl rfl ?_
        refine E_ret rfl rfl ?_
        refine E_st rfl rfl rfl ?_
        refine E_st rfl rfl rfl ?_
        refine E_st rfl rfl rfl ?_
        refine E_st rfl rfl rfl ?_
        refine E_st rfl rfl rfl ?_
        refine E_st rfl rfl rfl ?_
        refine E_st rfl rfl rfl ?_
        refine E_st rfl rfl rfl ?_
        refine E_st rfl rfl rfl ?_
        refine E_st rfl rfl rfl ?_
        exact E_ret rfl rfl ⟨rfl, rfl⟩
      · refine E_st rfl rfl rfl ?_
        refine E_st rfl rfl rfl ?_
        refine E_icmp_ge (y := 24) rfl (by decide) (fun _ => ?_) (fun _ => ?_)
        · refine E_st rfl rfl rfl ?_
          refine E_ret rfl rfl ?_
          refine E_st rfl rfl rfl ?_
          refine E_st rfl rfl rfl ?_
          refine E_ret rfl rfl ?_
          refine E_st rfl rfl rfl ?_
          refine E_st rfl rfl rfl ?_
          refine E_st rfl rfl rfl ?_
          refine E_st rfl rfl rfl ?_
          refine E_st rfl rfl rfl ?_
          refine E_scr rfl rfl h1 ?_
          refine E_st rfl rfl rfl ?_
          refine E_st rfl rfl rfl ?_
          refine E_st rfl rfl rfl ?_
          refine E_st rfl rfl rfl ?_
          refine E_scr rfl rfl h2 ?_
          refine E_st rfl rfl rfl ?_
          refine E_st rfl rfl rfl ?_
          refine E_st rfl rfl rfl ?_
          refine E_st rfl rfl rfl ?_
          refine E_scr rfl rfl h3 ?_
          refine E_st rfl rfl rfl ?_
          refine E_st rfl rfl rfl ?_
          refine E_st rfl rfl rfl ?_
          refine E_st rfl rfl rfl ?_
          refine E_scr rfl rfl h4 ?_
          refine E_call rfl rfl ?_
          refine E_st rfl rfl rfl ?_
          refine E_call rfl rfl ?_
          refine E_st rfl rfl rfl ?_
          refine E_st rfl rfl rfl ?_
          refine E_st rfl rfl rfl ?_
          refine E_call rfl rfl ?_
          refine E_st rfl rfl rfl ?_
          refine E_st rfl rfl rfl ?_
          refine E_st rfl rfl rfl ?_
          refine E_st rfl rfl rfl ?_
          refine E_st rfl rfl rfl ?_
          refine E_st rfl rfl rfl ?_
          refine E_st rfl rfl rfl ?_
          refine E_st rfl rfl rfl ?_
          refine E_ret rfl rfl ?_
          refine E_ret rfl rfl ?_
          refine E_st rfl rfl rfl ?_
          refine E_st rfl rfl rfl ?_
          refine E_st rfl rfl rfl ?_
          refine E_st rfl rfl rfl ?_
          refine E_call rfl rfl ?_
          refine E_st rfl rfl rfl ?_
          refine E_st rfl rfl rfl ?_
          refine E_icmp_lt (y := 0) rfl (by decide) (fun q => absurd q (by omega)) (fun _ => ?_)
          refine E_st rfl rfl rfl ?_
          refine E_st rfl rfl rfl ?_
          refine E_icmp_gt (y := 11) rfl (by decide) (fun q => absurd q (by omega)) (fun _ => ?_)
          refine E_st rfl rfl rfl ?_
          refine E_st rfl rfl rfl ?_
          refine E_ret rfl rfl ?_
          refine E_st rfl rfl rfl ?_
          refine E_st rfl rfl rfl ?_
          refine E_st rfl rfl rfl ?_
          refine E_call rfl rfl ?_
          refine E_st rfl rfl rfl ?_
          refine E_st rfl rfl rfl ?_
          refine E_st rfl rfl rfl ?_
          refine E_call rfl rfl ?_
          refine E_st rfl rfl rfl ?_
          refine E_st rfl rfl rfl ?_
          refine E_icmp_lt (y := 0) rfl (by decide) (fun q => absurd q (by omega)) (fun _ => ?_)
          refine E_st rfl rfl rfl ?_
          refine E_st rfl rfl rfl ?_
          refine E_icmp_gt (y := 23) rfl (by decide) (fun _ => ?_) (fun q => absurd q (by omega))
          refine E_st rfl rfl rfl ?_
          refine E_ret rfl rfl ?_
          refine E_st rfl rfl rfl ?_
          refine E_st rfl rfl rfl ?_
          refine E_ret rfl rfl ?_
          refine E_st rfl rfl rfl ?_
          refine E_st rfl rfl rfl ?_
          refine E_ret rfl rfl ?_
          refine E_st rfl rfl rfl ?_
          refine E_st rfl rfl rfl ?_
          refine E_st rfl rfl rfl ?_
          refine E_st rfl rfl rfl ?_
          refine E_st rfl rfl rfl ?_
          refine E_st rfl rfl rfl ?_
          refine E_st rfl rfl rfl ?_
          refine E_st rfl rfl rfl ?_
          refine E_st rfl rfl rfl ?_
          refine E_st rfl rfl rfl ?_
          exact E_ret rfl rfl ⟨rfl, rfl⟩
        · refine E_st rfl rfl rfl ?_
          refine E_st rfl rfl rfl ?_
          refine E_icmp_lt (y := 10) rfl (by decide) (fun _ => ?_) (fun _ => ?_)
          · refine E_st rfl rfl rfl ?_
            refine E_ret rfl rfl ?_
            refine E_st rfl rfl rfl ?_
            refine E_st rfl rfl rfl ?_
            refine E_ret rfl rfl ?_
            refine E_st rfl rfl rfl ?_
            refine E_st rfl rfl rfl ?_
            refine E_st rfl rfl rfl ?_
            refine E_st rfl rfl rfl ?_
            refine E_st rfl rfl rfl ?_
            refine E_scr rfl rfl h1 ?_
            refine E_st rfl rfl rfl ?_
            refine E_st rfl rfl rfl ?_
            refine E_st rfl rfl rfl ?_
            refine E_st rfl rfl rfl ?_
            refine E_scr rfl rfl h2 ?_
            refine E_st rfl rfl rfl ?_
            refine E_st rfl rfl rfl ?_
            refine E_st rfl rfl rfl ?_
            refine E_st rfl rfl rfl ?_
            refine E_scr rfl rfl h3 ?_
            refine E_st rfl rfl rfl ?_
            refine E_st rfl rfl rfl ?_
            refine E_st rfl rfl rfl ?_
            refine E_st rfl rfl rfl ?_
            refine E_scr rfl rfl h4 ?_
            refine E_call rfl rfl ?_
            refine E_st rfl rfl rfl ?_
            refine E_call rfl rfl ?_
            refine E_st rfl rfl rfl ?_
            refine E_st rfl rfl rfl ?_
            refine E_st rfl rfl rfl ?_
            refine E_call rfl rfl ?_
            refine E_st rfl rfl rfl ?_
            refine E_st rfl rfl rfl ?_
            refine E_st rfl rfl rfl ?_
            refine E_st rfl rfl rfl ?_
            refine E_st rfl rfl rfl ?_
            refine E_st rfl rfl rfl ?_
            refine E_st rfl rfl rfl ?_
            refine E_st rfl rfl rfl ?_
            refine E_ret rfl rfl ?_
            refine E_ret rfl rfl ?_
            refine E_st rfl rfl rfl ?_
            refine E_st rfl rfl rfl ?_
            refine E_st rfl rfl rfl ?_
            refine E_st rfl rfl rfl ?_
            refine E_call rfl rfl ?_
            refine E_st rfl rfl rfl ?_
            refine E_st rfl rfl rfl ?_
            refine E_icmp_lt (y := 0) rfl (by decide) (fun q => absurd q (by omega)) (fun _ => ?_)
            refine E_st rfl rfl rfl ?_
            refine E_st rfl rfl rfl ?_
            refine E_icmp_gt (y := 11) rfl (by decide) (fun q => absurd q (by omega)) (fun _ => ?_)
            refine E_st rfl rfl rfl ?_
            refine E_st rfl rfl rfl ?_
            refine E_ret rfl rfl ?_
            refine E_st rfl rfl rfl ?_
            refine E_st rfl rfl rfl ?_
            refine E_st rfl rfl rfl ?_
            refine E_call rfl rfl ?_
            refine E_st rfl rfl rfl ?_
            refine E_st rfl rfl rfl ?_
            refine E_st rfl rfl rfl ?_
            refine E_call rfl rfl ?_
            refine E_st rfl rfl rfl ?_
            refine E_st rfl rfl rfl ?_
            refine E_icmp_lt (y := 0) rfl (by decide) (fun q => absurd q (by omega)) (fun _ => ?_)
            refine E_st rfl rfl rfl ?_
            refine E_st rfl rfl rfl ?_
            refine E_icmp_gt (y := 23) rfl (by decide) (fun q => absurd q (by omega)) (fun _ => ?_)
            refine E_st rfl rfl rfl ?_
            refine E_st rfl rfl rfl ?_
            refine E_ret rfl rfl ?_
            refine E_st rfl rfl rfl ?_
            refine E_st rfl rfl rfl ?_
            refine E_st rfl rfl rfl ?_
            refine E_st rfl rfl rfl ?_
            refine E_call rfl rfl ?_
            refine E_st rfl rfl rfl ?_
            refine E_st rfl rfl rfl ?_
            refine E_icmp_lt (y := 10) rfl (by decide) (fun _ => ?_) (fun q => absurd q (by omega))
            refine E_st rfl rfl rfl ?_
            refine E_ret rfl rfl ?_
            refine E_st rfl rfl rfl ?_
            refine E_st rfl rfl rfl ?_
            refine E_ret rfl rfl ?_
            refine E_st rfl rfl rfl ?_
            refine E_st rfl rfl rfl ?_
            refine E_ret rfl rfl ?_
            refine E_st rfl rfl rfl ?_
            refine E_st rfl rfl rfl ?_
            refine E_st rfl rfl rfl ?_
            refine E_st rfl rfl rfl ?_
            refine E_st rfl rfl rfl ?_
            refine E_st rfl rfl rfl ?_
            refine E_st rfl rfl rfl ?_
            refine E_st rfl rfl rfl ?_
            refine E_st rfl rfl rfl ?_
            refine E_st rfl rfl rfl ?_
            exact E_ret rfl rfl ⟨rfl, rfl⟩
          · refine E_st rfl rfl rfl ?_
            refine E_st rfl rfl rfl ?_
            refine E_icmp_gt (y := 600) rfl (by decide) (fun _ => ?_) (fun _ => ?_)
            · refine E_st rfl rfl rfl ?_
              refine E_ret rfl rfl ?_
              refine E_st rfl rfl rfl ?_
              refine E_st rfl rfl rfl ?_
              refine E_ret rfl rfl ?_
              refine E_st rfl rfl rfl ?_
              refine E_st rfl rfl rfl ?_
              refine E_st rfl rfl rfl ?_
              refine E_st rfl rfl rfl ?_
              refine E_st rfl rfl rfl ?_
              refine E_scr rfl rfl h1 ?_
              refine E_st rfl rfl rfl ?_
              refine E_st rfl rfl rfl ?_
              refine E_st rfl rfl rfl ?_
              refine E_st rfl rfl rfl ?_
              refine E_scr rfl rfl h2 ?_
              refine E_st rfl rfl rfl ?_
              refine E_st rfl rfl rfl ?_
              refine E_st rfl rfl rfl ?_
              refine E_st rfl rfl rfl ?_
              refine E_scr rfl rfl h3 ?_
              refine E_st rfl rfl rfl ?_
              refine E_st rfl rfl rfl ?_
              refine E_st rfl rfl rfl ?_
              refine E_st rfl rfl rfl ?_
              refine E_scr rfl rfl h4 ?_
              refine E_call rfl rfl ?_
              refine E_st rfl rfl rfl ?_
              refine E_call rfl rfl ?_
              refine E_st rfl rfl rfl ?_
              refine E_st rfl rfl rfl ?_
              refine E_st rfl rfl rfl ?_
              refine E_call rfl rfl ?_
              refine E_st rfl rfl rfl ?_
              refine E_st rfl rfl rfl ?_
              refine E_st rfl rfl rfl ?_
              refine E_st rfl rfl rfl ?_
              refine E_st rfl rfl rfl ?_
              refine E_st rfl rfl rfl ?_
              refine E_st rfl rfl rfl ?_
              refine E_st rfl rfl rfl ?_
              refine E_ret rfl rfl ?_
              refine E_ret rfl rfl ?_
              refine E_st rfl rfl rfl ?_
              refine E_st rfl rfl rfl ?_
              refine E_st rfl rfl rfl ?_
              refine E_st rfl rfl rfl ?_
              refine E_call rfl rfl ?_
              refine E_st rfl rfl rfl ?_
              refine E_st rfl rfl rfl ?_
              refine E_icmp_lt (y := 0) rfl (by decide) (fun q => absurd q (by omega)) (fun _ => ?_)
              refine E_st rfl rfl rfl ?_
              refine E_st rfl rfl rfl ?_
              refine E_icmp_gt (y := 11) rfl (by decide) (fun q => absurd q (by omega)) (fun _ => ?_)
              refine E_st rfl rfl rfl ?_
              refine E_st rfl rfl rfl ?_
              refine E_ret rfl rfl ?_
              refine E_st rfl rfl rfl ?_
              refine E_st rfl rfl rfl ?_
              refine E_st rfl rfl rfl ?_
              refine E_call rfl rfl ?_
              refine E_st rfl rfl rfl ?_
              refine E_st rfl rfl rfl ?_
              refine E_st rfl rfl rfl ?_
              refine E_call rfl rfl ?_
              refine E_st rfl rfl rfl ?_
              refine E_st rfl rfl rfl ?_
              refine E_icmp_lt (y := 0) rfl (by decide) (fun q => absurd q (by omega)) (fun _ => ?_)
              refine E_st rfl rfl rfl ?_
              refine E_st rfl rfl rfl ?_
              refine E_icmp_gt (y := 23) rfl (by decide) (fun q => absurd q (by omega)) (fun _ => ?_)
              refine E_st rfl rfl rfl ?_
              refine E_st rfl rfl rfl ?_
              refine E_ret rfl rfl ?_
              refine E_st rfl rfl rfl ?_
              refine E_st rfl rfl rfl ?_
              refine E_st rfl rfl rfl ?_
              refine E_st rfl rfl rfl ?_
              refine E_call rfl rfl ?_
              refine E_st rfl rfl rfl ?_
              refine E_st rfl rfl rfl ?_
              refine E_icmp_lt (y := 10) rfl (by decide) (fun q => absurd q (by omega)) (fun _ => ?_)
              refine E_st rfl rfl rfl ?_
              refine E_st rfl rfl rfl ?_
              refine E_icmp_gt (y := 600) rfl (by decide) (fun _ => ?_) (fun q => absurd q (by omega))
              refine E_st rfl rfl rfl ?_
              refine E_ret rfl rfl ?_
              refine E_st rfl rfl rfl ?_
              refine E_st rfl rfl rfl ?_
              refine E_ret rfl rfl ?_
              refine E_st rfl rfl rfl ?_
              refine E_st rfl rfl rfl ?_
              refine E_ret rfl rfl ?_
              refine E_st rfl rfl rfl ?_
              refine E_st rfl rfl rfl ?_
              refine E_st rfl rfl rfl ?_
              refine E_st rfl rfl rfl ?_
              refine E_st rfl rfl rfl ?_
              refine E_st rfl rfl rfl ?_
              refine E_st rfl rfl rfl ?_
              refine E_st rfl rfl rfl ?_
              refine E_st rfl rfl rfl ?_
              refine E_st rfl rfl rfl ?_
              exact E_ret rfl rfl ⟨rfl, rfl⟩
            · refine E_st rfl rfl rfl ?_
              refine E_st rfl rfl rfl ?_
              refine E_ret rfl rfl ?_
              refine E_st rfl rfl rfl ?_
              refine E_st rfl rfl rfl ?_
              refine E_st rfl rfl rfl ?_
              refine E_st rfl rfl rfl ?_
              refine E_st rfl rfl rfl ?_
              refine E_st rfl rfl rfl ?_
              refine E_call rfl rfl ?_
              refine E_st rfl rfl rfl ?_
              refine E_st rfl rfl rfl ?_
              refine E_st rfl rfl rfl ?_
              refine E_st rfl rfl rfl ?_
              refine E_st rfl rfl rfl ?_
              refine E_st rfl rfl rfl ?_
              refine E_st rfl rfl rfl ?_
              refine E_st rfl rfl rfl ?_
              refine E_st rfl rfl rfl ?_
              refine E_st rfl rfl rfl ?_
              refine E_st rfl rfl rfl ?_
              refine E_st rfl rfl rfl ?_
              refine E_st rfl rfl rfl ?_
              refine E_st rfl rfl rfl ?_
              refine E_st rfl rfl rfl ?_
              refine E_st rfl rfl rfl ?_
              refine E_st rfl rfl rfl ?_
              refine E_st rfl rfl rfl ?_
              refine E_st rfl rfl rfl ?_
              refine E_st rfl rfl rfl ?_
              refine E_st rfl rfl rfl ?_
              refine E_st rfl rfl rfl ?_
              refine E_st rfl rfl rfl ?_
              refine E_st rfl rfl rfl ?_
              refine E_st rfl rfl rfl ?_
              refine E_st rfl rfl rfl ?_
              refine E_st rfl rfl rfl ?_
              refine E_st rfl rfl rfl ?_
              refine E_st rfl rfl rfl ?_
              refine E_st rfl rfl rfl ?_
              refine E_st rfl rfl rfl ?_
              refine E_st rfl rfl rfl ?_
              refine E_st rfl rfl rfl ?_
              refine E_st rfl rfl rfl ?_
              refine E_st rfl rfl rfl ?_
              refine E_st rfl rfl rfl ?_
              refine E_st rfl rfl rfl ?_
              refine E_st rfl rfl rfl ?_
              refine E_st rfl rfl rfl ?_
              refine E_st rfl rfl rfl ?_
              refine E_st rfl rfl rfl ?_
              refine E_st rfl rfl rfl ?_
              refine E_st rfl rfl rfl ?_
              refine E_st rfl rfl rfl ?_
              refine E_st rfl rfl rfl ?_
              refine E_st rfl rfl rfl ?_
              refine E_st rfl rfl rfl ?_
              refine E_st rfl rfl rfl ?_
              refine E_st rfl rfl rfl ?_
              refine E_st rfl rfl rfl ?_
              refine E_st rfl rfl rfl ?_
              refine E_call rfl rfl ?_
              refine E_st rfl rfl rfl ?_
              refine E_st rfl rfl rfl ?_
              refine E_st rfl rfl rfl ?_
              refine E_st rfl rfl rfl ?_
              refine E_st rfl rfl rfl ?_
              refine E_st rfl rfl rfl ?_
              refine E_ret rfl rfl ?_
              refine E_st rfl rfl rfl ?_
              refine E_ret rfl rfl ?_
              refine E_ret rfl rfl ?_
              refine E_st rfl rfl rfl ?_
              refine E_st rfl rfl rfl ?_
              refine E_st rfl rfl rfl ?_
              refine E_st rfl rfl rfl ?_
              refine E_st rfl rfl rfl ?_
              refine E_scr rfl rfl h1 ?_
              refine E_st rfl rfl rfl ?_
              refine E_st rfl rfl rfl ?_
              refine E_st rfl rfl rfl ?_
              refine E_st rfl rfl rfl ?_
              refine E_scr rfl rfl h2 ?_
              refine E_st rfl rfl rfl ?_
              refine E_st rfl rfl rfl ?_
              refine E_st rfl rfl rfl ?_
              refine E_st rfl rfl rfl ?_
              refine E_scr rfl rfl h3 ?_
              refine E_st rfl rfl rfl ?_
              refine E_st rfl rfl rfl ?_
              refine E_st rfl rfl rfl ?_
              refine E_st rfl rfl rfl ?_
              refine E_scr rfl rfl h4 ?_
              refine E_call rfl rfl ?_
              refine E_st rfl rfl rfl ?_
              refine E_call rfl rfl ?_
              refine E_st rfl rfl rfl ?_
              refine E_st rfl rfl rfl ?_
              refine E_st rfl rfl rfl ?_
              refine E_call rfl rfl ?_
              refine E_st rfl rfl rfl ?_
              refine E_st rfl rfl rfl ?_
              refine E_st rfl rfl rfl ?_
              refine E_st rfl rfl rfl ?_
              refine E_st rfl rfl rfl ?_
              refine E_st rfl rfl rfl ?_
              refine E_st rfl rfl rfl ?_
              refine E_st rfl rfl rfl ?_
              refine E_ret rfl rfl ?_
              refine E_ret rfl rfl ?_
              refine E_st rfl rfl rfl ?_
              refine E_st rfl rfl rfl ?_
              refine E_st rfl rfl rfl ?_
              refine E_st rfl rfl rfl ?_
              refine E_call rfl rfl ?_
              refine E_st rfl rfl rfl ?_
              refine E_st rfl rfl rfl ?_
              refine E_icmp_lt (y := 0) rfl (by decide) (fun q => absurd q (by omega)) (fun _ => ?_)
              refine E_st rfl rfl rfl ?_
              refine E_st rfl rfl rfl ?_
              refine E_icmp_gt (y := 11) rfl (by decide) (fun q => absurd q (by omega)) (fun _ => ?_)
              refine E_st rfl rfl rfl ?_
              refine E_st rfl rfl rfl ?_
              refine E_ret rfl rfl ?_
              refine E_st rfl rfl rfl ?_
              refine E_st rfl rfl rfl ?_
              refine E_st rfl rfl rfl ?_
              refine E_call rfl rfl ?_
              refine E_st rfl rfl rfl ?_
              refine E_st rfl rfl rfl ?_
              refine E_st rfl rfl rfl ?_
              refine E_call rfl rfl ?_
              refine E_st rfl rfl rfl ?_
              refine E_st rfl rfl rfl ?_
              refine E_icmp_lt (y := 0) rfl (by decide) (fun q => absurd q (by omega)) (fun _ => ?_)
              refine E_st rfl rfl rfl ?_
              refine E_st rfl rfl rfl ?_
              refine E_icmp_gt (y := 23) rfl (by decide) (fun q => absurd q (by omega)) (fun _ => ?_)
              refine E_st rfl rfl rfl ?_
              refine E_st rfl rfl rfl ?_
              refine E_ret rfl rfl ?_
              refine E_st rfl rfl rfl ?_
              refine E_st rfl rfl rfl ?_
              refine E_st rfl rfl rfl ?_
              refine E_st rfl rfl rfl ?_
              refine E_call rfl rfl ?_
              refine E_st rfl rfl rfl ?_
              refine E_st rfl rfl rfl ?_
              refine E_icmp_lt (y := 10) rfl (by decide) (fun q => absurd q (by omega)) (fun _ => ?_)
              refine E_st rfl rfl rfl ?_
              refine E_st rfl rfl rfl ?_
              refine E_icmp_gt (y := 600) rfl (by decide) (fun q => absurd q (by omega)) (fun _ => ?_)
              refine E_st rfl rfl rfl ?_
              refine E_st rfl rfl rfl ?_
              refine E_ret rfl rfl ?_
              refine E_st rfl rfl rfl ?_
              refine E_st rfl rfl rfl ?_
              refine E_st rfl rfl rfl ?_
              refine E_ret rfl rfl ?_
              refine E_st rfl rfl rfl ?_
              refine E_st rfl rfl rfl ?_
              refine E_st rfl rfl rfl ?_
              refine E_st rfl rfl rfl ?_
              refine E_st rfl rfl rfl ?_
              refine E_st rfl rfl rfl ?_
              refine E_st rfl rfl rfl ?_
              refine E_st rfl rfl rfl ?_
              refine E_st rfl rfl rfl ?_
              refine E_st rfl rfl rfl ?_
              refine E_st rfl rfl rfl ?_
              refine E_st rfl rfl rfl ?_
              refine E_st rfl rfl rfl ?_
              refine E_call rfl rfl ?_
              refine E_st rfl rfl rfl ?_
              refine E_st rfl rfl rfl ?_
              refine E_st rfl rfl rfl ?_
              refine E_st rfl rfl rfl ?_
              refine E_st rfl rfl rfl ?_
              refine E_st rfl rfl rfl ?_
              refine E_st rfl rfl rfl ?_
              refine E_st rfl rfl rfl ?_
              refine E_st rfl rfl rfl ?_
              refine E_st rfl rfl rfl ?_
              refine E_st rfl rfl rfl ?_
              refine E_st rfl rfl rfl ?_
              refine E_st rfl rfl rfl ?_
              refine E_st rfl rfl rfl ?_
              refine E_st rfl rfl rfl ?_
              refine E_st rfl rfl rfl ?_
              refine E_st rfl rfl rfl ?_
              refine E_st rfl rfl rfl ?_
              refine E_st rfl rfl rfl ?_
              refine E_st rfl rfl rfl ?_
              refine E_st rfl rfl rfl ?_
              refine E_st rfl rfl rfl ?_
              refine E_st rfl rfl rfl ?_
              refine E_st rfl rfl rfl ?_
              refine E_st rfl rfl rfl ?_
              refine E_st rfl rfl rfl ?_
              refine E_st rfl rfl rfl ?_
              refine E_st rfl rfl rfl ?_
              refine E_st rfl rfl rfl ?_
              refine E_st rfl rfl rfl ?_
              refine E_st rfl rfl rfl ?_
              refine E_st rfl rfl rfl ?_
              refine E_st rfl rfl rfl ?_
              refine E_st rfl rfl rfl ?_
              refine E_st rfl rfl rfl ?_
              refine E_st rfl rfl rfl ?_
              refine E_st rfl rfl rfl ?_
              refine E_st rfl rfl rfl ?_
              refine E_st rfl rfl rfl ?_
              refine E_st rfl rfl rfl ?_
              refine E_st rfl rfl rfl ?_
              refine E_st rfl rfl rfl ?_
              refine E_st rfl rfl rfl ?_
              refine E_st rfl rfl rfl ?_
              refine E_st rfl rfl rfl ?_
              refine E_st rfl rfl rfl ?_
              refine E_st rfl rfl rfl ?_
              refine E_st rfl rfl rfl ?_
              refine E_st rfl rfl rfl ?_
              refine E_call rfl rfl ?_
              refine E_st rfl rfl rfl ?_
              refine E_st rfl rfl rfl ?_
              refine E_st rfl rfl rfl ?_
              refine E_st rfl rfl rfl ?_
              refine E_st rfl rfl rfl ?_
              refine E_ret rfl rfl ?_
              refine E_st rfl rfl rfl ?_
              refine E_st rfl rfl rfl ?_
              refine E_st rfl rfl rfl ?_
              refine E_st rfl rfl rfl ?_
              refine E_st rfl rfl rfl ?_
              refine E_st rfl rfl rfl ?_
              refine E_ret rfl rfl ?_
              refine E_ret rfl rfl ?_
              refine E_st rfl rfl rfl ?_
              refine E_st rfl rfl rfl ?_
              refine E_st rfl rfl rfl ?_
              refine E_st rfl rfl rfl ?_
              refine E_st rfl rfl rfl ?_
              refine E_st rfl rfl rfl ?_
              refine E_st rfl rfl rfl ?_
              refine E_st rfl rfl rfl ?_
              refine E_st rfl rfl rfl ?_
              refine E_st rfl rfl rfl ?_
              exact E_ret rfl rfl ⟨rfl, rfl⟩
