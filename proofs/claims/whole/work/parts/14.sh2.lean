set_option maxHeartbeats 4000000 in
set_option maxRecDepth 100000 in
/-- width(r, w) -/
theorem c_width (l : Launch) (G : zG) {σ : zS} {x y : Int32} {M : Nat → Nat → Int32} {w : Nat → Nat} (hl : l.stackTraces = false) (hw : zwf σ M w) : zCX l G y_Sh_width w_Sh_width (zrz 8 130 2) 2 12 [.ref (zad G 0), .int x, .int y] σ (fun v σ' => ∃ r u n : Nat, r < 8 ∧ x = nI r ∧ (1 ≤ u ∧ u ≤ 3) ∧ y = nI u ∧ zr σ (zN (σ.1 1 r)) n (M r) ∧ v = some (.int (nI n)) ∧ zwf σ' (uM M r (fun _ => 0)) (uM w r u) ∧ zk σ σ') (fun E σ' => (E = zNS ∧ ¬ zgr x ∨ E = zIA ∧ zgr x ∧ ¬ zgw y) ∧ σ = σ') := by
  refine zCX_of (cc := c_Sh_width) (nL := 5) (ret := (some .int)) (own := R_Sh) (by decide +kernel) rfl rfl (Nat.le_of_ble_eq_true rfl) ?_
  refine zb_lv (lv' := [(0, .ref (zad G 0)), (1, .int x), (2, .int y)]) rfl ?_
  refine zb_aload_n d_Sh_width_0 rfl rfl ?_
  refine zb_iload_n d_Sh_width_1 rfl rfl ?_
  refine zx_callV (rest := []) (c_relationOf l G hl) (lk_Sh_24.cw rfl rfl ⟨Nat.le_of_ble_eq_true rfl, Nat.le_of_ble_eq_true rfl⟩) zgS rfl rfl rfl rfl (Nat.le_of_ble_eq_true rfl) d_Sh_width_2 ⟨Nat.le_of_ble_eq_true rfl, Nat.le_of_ble_eq_true rfl⟩ ?_ ?_
  rotate_left
  · rintro E _ ⟨rfl, hx, rfl⟩; exact zx_out ⟨Or.inl ⟨rfl, hx⟩, rfl⟩ (Nat.le_of_ble_eq_true rfl) (Nat.le_of_ble_eq_true rfl)
  rintro _ _ ⟨r, hr, rfl, rfl, rfl⟩
  refine zb_lv (lv' := [(0, .ref (zad G 0)), (1, .int (nI r)), (2, .int y)]) rfl ?_
  refine zb_st (st' := [.ref (zad G (zN (σ.1 1 r)))]) rfl ?_
  refine zb_astore_n (lv' := [(3, .ref (zad G (zN (σ.1 1 r)))), (0, .ref (zad G 0)), (1, .int (nI r)), (2, .int y)]) d_Sh_width_5 rfl (by decide) rfl ?_
  refine zb_iload_n d_Sh_width_6 rfl rfl ?_
  refine zb_iconst (v := 1) d_Sh_width_7 rfl ?_
  refine zb_icmp_lt (tgt := 20) d_Sh_width_8 rfl (fun h8 => ?_) (fun h8 => ?_)
  · refine zb_iconst (v := 0) d_Sh_width_20 rfl ?_
    refine zx_callS (rest := []) (c_refuseUnless l G hl) (lk_Sh_28.cw rfl rfl ⟨Nat.le_of_ble_eq_true rfl, Nat.le_of_ble_eq_true rfl⟩) rfl rfl (Nat.le_of_ble_eq_true rfl) d_Sh_width_21 ⟨Nat.le_of_ble_eq_true rfl, Nat.le_of_ble_eq_true rfl⟩ ?_ ?_
    rotate_left
    · rintro E _ ⟨rfl, -, rfl⟩; exact zx_out ⟨Or.inr ⟨rfl, ⟨r, hr, rfl⟩, fun z => (zgw_lt z).1 h8⟩, rfl⟩ (Nat.le_of_ble_eq_true rfl) (Nat.le_of_ble_eq_true rfl)
    rintro _ _ ⟨-, h0, -⟩
    exact absurd rfl h0
  · refine zb_iload_n d_Sh_width_11 rfl rfl ?_
    refine zb_iconst (v := 3) d_Sh_width_12 rfl ?_
    refine zb_icmp_gt (tgt := 20) d_Sh_width_13 rfl (fun h13 => ?_) (fun h13 => ?_)
    · refine zb_iconst (v := 0) d_Sh_width_20 rfl ?_
      refine zx_callS (rest := []) (c_refuseUnless l G hl) (lk_Sh_28.cw rfl rfl ⟨Nat.le_of_ble_eq_true rfl, Nat.le_of_ble_eq_true rfl⟩) rfl rfl (Nat.le_of_ble_eq_true rfl) d_Sh_width_21 ⟨Nat.le_of_ble_eq_true rfl, Nat.le_of_ble_eq_true rfl⟩ ?_ ?_
      rotate_left
      · rintro E _ ⟨rfl, -, rfl⟩; exact zx_out ⟨Or.inr ⟨rfl, ⟨r, hr, rfl⟩, fun z => (zgw_lt z).2 h13⟩, rfl⟩ (Nat.le_of_ble_eq_true rfl) (Nat.le_of_ble_eq_true rfl)
      rintro _ _ ⟨-, h0, -⟩
      exact absurd rfl h0
    · refine zb_iconst (v := 1) d_Sh_width_16 rfl ?_
      refine zb_goto (tgt := 21) d_Sh_width_17 rfl ?_
      refine zx_callS (rest := []) (c_refuseUnless l G hl) (lk_Sh_28.cw rfl rfl ⟨Nat.le_of_ble_eq_true rfl, Nat.le_of_ble_eq_true rfl⟩) rfl rfl (Nat.le_of_ble_eq_true rfl) d_Sh_width_21 ⟨Nat.le_of_ble_eq_true rfl, Nat.le_of_ble_eq_true rfl⟩ ?_ ?_
      rotate_left
      · rintro E _ ⟨-, h0, -⟩; exact absurd h0 (by decide)
      rintro _ _ ⟨rfl, -, rfl⟩
      refine zb_st (st' := []) rfl ?_
      obtain ⟨u, hu1, hu3, rfl⟩ := zgw_of h8 h13
      obtain ⟨n, hn⟩ := (hw.at hr).2.2.2.1
      refine zb_lv (lv' := [(3, .ref (zad G (zN (σ.1 1 r)))), (0, .ref (zad G 0)), (1, .int (nI r)), (2, .int (nI u))]) (rfl) ?_
      refine zb_aload_n d_Sh_width_24 rfl rfl ?_
      refine zr_size (q := zN (σ.1 1 r)) d_Sh_width_25 fl_Sh_32 (hw.rl hr) ?_
      refine zb_top (y := nI n) (hn.2.1) ?_
      refine zb_istore (lv' := [(4, .int (nI n)), (3, .ref (zad G (zN (σ.1 1 r)))), (0, .ref (zad G 0)), (1, .int (nI r)), (2, .int (nI u))]) d_Sh_width_28 (by decide) rfl ?_
      refine zb_aload_n d_Sh_width_30 rfl rfl ?_
      refine zb_iload_n d_Sh_width_31 rfl rfl ?_
      refine zb_callV (rest := []) (c_startAnew l G (hw.rl hr)) (lk_Sh_36.cw rfl rfl ⟨Nat.le_of_ble_eq_true rfl, Nat.le_of_ble_eq_true rfl⟩) (zgR (hw.rl hr)) rfl rfl rfl rfl (Nat.le_of_ble_eq_true rfl) d_Sh_width_32 ⟨Nat.le_of_ble_eq_true rfl, Nat.le_of_ble_eq_true rfl⟩ ?_
      rintro _ _ ⟨rfl, rfl⟩
      refine zb_st (st' := []) rfl ?_
      refine zb_iload d_Sh_width_35 rfl ?_
      exact zx_ret (zb_iret d_Sh_width_37 rfl ⟨r, u, n, hr, rfl, ⟨hu1, hu3⟩, rfl, hn, rfl, zwf_set hw hr (fun k h1 h2 h3 => by simp [zu, h1]) ⟨by simp [zu, upd], hu1, hu3, ⟨0, zr_start (hw.rl hr)⟩, fun t h => absurd rfl h⟩, (zk_zu σ _ (hw.rl hr).l30).tr (zk_zu _ _ (hw.rl hr).l30)⟩)
set_option maxHeartbeats 4000000 in
set_option maxRecDepth 100000 in
/-- count(r, t) -/
theorem c_count (l : Launch) (G : zG) {σ : zS} {x y : Int32} {M : Nat → Nat → Int32} {w : Nat → Nat} (hl : l.stackTraces = false) (hw : zwf σ M w) : zCX l G y_Sh_count w_Sh_count (zrz 8 130 2) 2 12 [.ref (zad G 0), .int x, .int y] σ (fun v σ' => ∃ r t : Nat, r < 8 ∧ x = nI r ∧ (t < 4096 ∧ t % 2 ^ (12 - 4 * w r) = 0) ∧ y = nI t ∧ v = some (.int (M r t)) ∧ σ = σ') (fun E σ' => (E = zNS ∧ ¬ zgr x ∨ E = zIA ∧ ∃ r : Nat, r < 8 ∧ x = nI r ∧ ¬ ztp y (w r)) ∧ σ = σ') := by
  refine zCX_of (cc := c_Sh_count) (nL := 4) (ret := (some .int)) (own := R_Sh) (by decide +kernel) rfl rfl (Nat.le_of_ble_eq_true rfl) ?_
  refine zb_lv (lv' := [(0, .ref (zad G 0)), (1, .int x), (2, .int y)]) rfl ?_
  refine zb_aload_n d_Sh_count_0 rfl rfl ?_
  refine zb_iload_n d_Sh_count_1 rfl rfl ?_
  refine zx_callV (rest := []) (c_relationOf l G hl) (lk_Sh_24.cw rfl rfl ⟨Nat.le_of_ble_eq_true rfl, Nat.le_of_ble_eq_true rfl⟩) zgS rfl rfl rfl rfl (Nat.le_of_ble_eq_true rfl) d_Sh_count_2 ⟨Nat.le_of_ble_eq_true rfl, Nat.le_of_ble_eq_true rfl⟩ ?_ ?_
  rotate_left
  · rintro E _ ⟨rfl, hx, rfl⟩; exact zx_out ⟨Or.inl ⟨rfl, hx⟩, rfl⟩ (Nat.le_of_ble_eq_true rfl) (Nat.le_of_ble_eq_true rfl)
  rintro _ _ ⟨r, hr, rfl, rfl, rfl⟩
  refine zb_lv (lv' := [(0, .ref (zad G 0)), (1, .int (nI r)), (2, .int y)]) rfl ?_
  refine zb_st (st' := [.ref (zad G (zN (σ.1 1 r)))]) rfl ?_
  refine zb_astore_n (lv' := [(3, .ref (zad G (zN (σ.1 1 r)))), (0, .ref (zad G 0)), (1, .int (nI r)), (2, .int y)]) d_Sh_count_5 rfl (by decide) rfl ?_
  refine zb_iload_n d_Sh_count_6 rfl rfl ?_
  refine zb_aload_n d_Sh_count_7 rfl rfl ?_
  refine zr_width (q := zN (σ.1 1 r)) d_Sh_count_8 fl_Sh_40 (hw.rl hr) ?_
  refine zb_top (y := nI (w r)) ((hw.at hr).1) ?_
  have hw3 : w r ≤ 3 := (hw.at hr).2.2.1
  by_cases ht : ztp y (w r)
  · refine zb_callS (rest := []) (c_isTuple_y l G hw3 ht) (lk_Sh_43.cw rfl rfl ⟨Nat.le_of_ble_eq_true rfl, Nat.le_of_ble_eq_true rfl⟩) rfl rfl (Nat.le_of_ble_eq_true rfl) d_Sh_count_11 ⟨Nat.le_of_ble_eq_true rfl, Nat.le_of_ble_eq_true rfl⟩ ?_
    rintro _ _ ⟨rfl, rfl⟩
    refine zb_st (st' := [.int 1]) rfl ?_
    refine zx_callS (rest := []) (c_refuseUnless l G hl) (lk_Sh_28.cw rfl rfl ⟨Nat.le_of_ble_eq_true rfl, Nat.le_of_ble_eq_true rfl⟩) rfl rfl (Nat.le_of_ble_eq_true rfl) d_Sh_count_14 ⟨Nat.le_of_ble_eq_true rfl, Nat.le_of_ble_eq_true rfl⟩ ?_ ?_
    rotate_left
    · rintro E _ ⟨-, h0, -⟩; exact absurd h0 (by decide)
    rintro _ _ ⟨rfl, -, rfl⟩
    refine zb_st (st' := []) rfl ?_
    obtain ⟨t, ht4, rfl, htm⟩ := ht
    obtain ⟨n, hn⟩ := (hw.at hr).2.2.2.1
    refine zb_lv (lv' := [(3, .ref (zad G (zN (σ.1 1 r)))), (0, .ref (zad G 0)), (1, .int (nI r)), (2, .int (nI t))]) (rfl) ?_
    refine zb_aload_n d_Sh_count_17 rfl rfl ?_
    refine zb_iload_n d_Sh_count_18 rfl rfl ?_
    refine zb_callV (rest := []) (c_countOf l G hn (show t < 2 ^ 31 by omega)) (lk_Sh_53.cw rfl rfl ⟨Nat.le_of_ble_eq_true rfl, Nat.le_of_ble_eq_true rfl⟩) (zgR (hw.rl hr)) rfl rfl rfl rfl (Nat.le_of_ble_eq_true rfl) d_Sh_count_19 ⟨Nat.le_of_ble_eq_true rfl, Nat.le_of_ble_eq_true rfl⟩ ?_
    rintro _ _ ⟨rfl, rfl⟩
    refine zb_st (st' := [.int (M r t)]) rfl ?_
    exact zx_ret (zb_iret d_Sh_count_22 rfl ⟨r, t, hr, rfl, ⟨ht4, htm⟩, rfl, rfl, rfl⟩)
  · refine zb_callS (rest := []) (c_isTuple_n l G hw3 ht) (lk_Sh_43.cw rfl rfl ⟨Nat.le_of_ble_eq_true rfl, Nat.le_of_ble_eq_true rfl⟩) rfl rfl (Nat.le_of_ble_eq_true rfl) d_Sh_count_11 ⟨Nat.le_of_ble_eq_true rfl, Nat.le_of_ble_eq_true rfl⟩ ?_
    rintro _ _ ⟨rfl, rfl⟩
    refine zb_st (st' := [.int 0]) rfl ?_
    refine zx_callS (rest := []) (c_refuseUnless l G hl) (lk_Sh_28.cw rfl rfl ⟨Nat.le_of_ble_eq_true rfl, Nat.le_of_ble_eq_true rfl⟩) rfl rfl (Nat.le_of_ble_eq_true rfl) d_Sh_count_14 ⟨Nat.le_of_ble_eq_true rfl, Nat.le_of_ble_eq_true rfl⟩ ?_ ?_
    rotate_left
    · rintro E _ ⟨rfl, -, rfl⟩; exact zx_out ⟨Or.inr (⟨rfl, r, hr, rfl, ht⟩), rfl⟩ (Nat.le_of_ble_eq_true rfl) (Nat.le_of_ble_eq_true rfl)
    rintro _ _ ⟨-, h0, -⟩
    exact absurd rfl h0
set_option maxHeartbeats 4000000 in
set_option maxRecDepth 100000 in
/-- put(r, t, by) -/
theorem c_put (l : Launch) (G : zG) {σ : zS} {x y z : Int32} {M : Nat → Nat → Int32} {w : Nat → Nat} (hl : l.stackTraces = false) (hw : zwf σ M w) : zCX l G y_Sh_put w_Sh_put (zrz 8 160 3) 3 18 [.ref (zad G 0), .int x, .int y, .int z] σ (fun v σ' => ∃ r t n : Nat, r < 8 ∧ x = nI r ∧ (t < 4096 ∧ t % 2 ^ (12 - 4 * w r) = 0) ∧ y = nI t ∧ zr σ (zN (σ.1 1 r)) n (M r) ∧ (M r t ≠ 0 ∨ z = 0 ∨ n < 300) ∧ v = some (.int (M r t + z)) ∧ zwf σ' (uM M r (upd (M r) t (M r t + z))) w ∧ zk σ σ') (fun E σ' => (E = zNS ∧ ¬ zgr x ∨ (E = zIA ∧ ∃ r : Nat, r < 8 ∧ x = nI r ∧ ¬ ztp y (w r)) ∨ E = zIS ∧ ∃ r t n : Nat, r < 8 ∧ x = nI r ∧ (t < 4096 ∧ t % 2 ^ (12 - 4 * w r) = 0) ∧ y = nI t ∧ zr σ (zN (σ.1 1 r)) n (M r) ∧ ¬ (M r t ≠ 0 ∨ z = 0 ∨ n < 300)) ∧ σ = σ') := by
  refine zCX_of (cc := c_Sh_put) (nL := 5) (ret := (some .int)) (own := R_Sh) (by decide +kernel) rfl rfl (Nat.le_of_ble_eq_true rfl) ?_
  refine zb_lv (lv' := [(0, .ref (zad G 0)), (1, .int x), (2, .int y), (3, .int z)]) rfl ?_
  refine zb_aload_n d_Sh_put_0 rfl rfl ?_
  refine zb_iload_n d_Sh_put_1 rfl rfl ?_
  refine zx_callV (rest := []) (c_relationOf l G hl) (lk_Sh_24.cw rfl rfl ⟨Nat.le_of_ble_eq_true rfl, Nat.le_of_ble_eq_true rfl⟩) zgS rfl rfl rfl rfl (Nat.le_of_ble_eq_true rfl) d_Sh_put_2 ⟨Nat.le_of_ble_eq_true rfl, Nat.le_of_ble_eq_true rfl⟩ ?_ ?_
  rotate_left
  · rintro E _ ⟨rfl, hx, rfl⟩; exact zx_out ⟨Or.inl ⟨rfl, hx⟩, rfl⟩ (Nat.le_of_ble_eq_true rfl) (Nat.le_of_ble_eq_true rfl)
  rintro _ _ ⟨r, hr, rfl, rfl, rfl⟩
  refine zb_lv (lv' := [(0, .ref (zad G 0)), (1, .int (nI r)), (2, .int y), (3, .int z)]) rfl ?_
  refine zb_st (st' := [.ref (zad G (zN (σ.1 1 r)))]) rfl ?_
  refine zb_astore (lv' := [(4, .ref (zad G (zN (σ.1 1 r)))), (0, .ref (zad G 0)), (1, .int (nI r)), (2, .int y), (3, .int z)]) d_Sh_put_5 (by decide) rfl ?_
  refine zb_iload_n d_Sh_put_7 rfl rfl ?_
  refine zb_aload d_Sh_put_8 rfl ?_
  refine zr_width (q := zN (σ.1 1 r)) d_Sh_put_10 fl_Sh_40 (hw.rl hr) ?_
  refine zb_top (y := nI (w r)) ((hw.at hr).1) ?_
  have hw3 : w r ≤ 3 := (hw.at hr).2.2.1
  by_cases ht : ztp y (w r)
  · refine zb_callS (rest := []) (c_isTuple_y l G hw3 ht) (lk_Sh_43.cw rfl rfl ⟨Nat.le_of_ble_eq_true rfl, Nat.le_of_ble_eq_true rfl⟩) rfl rfl (Nat.le_of_ble_eq_true rfl) d_Sh_put_13 ⟨Nat.le_of_ble_eq_true rfl, Nat.le_of_ble_eq_true rfl⟩ ?_
    rintro _ _ ⟨rfl, rfl⟩
    refine zb_st (st' := [.int 1]) rfl ?_
    refine zx_callS (rest := []) (c_refuseUnless l G hl) (lk_Sh_28.cw rfl rfl ⟨Nat.le_of_ble_eq_true rfl, Nat.le_of_ble_eq_true rfl⟩) rfl rfl (Nat.le_of_ble_eq_true rfl) d_Sh_put_16 ⟨Nat.le_of_ble_eq_true rfl, Nat.le_of_ble_eq_true rfl⟩ ?_ ?_
    rotate_left
    · rintro E _ ⟨-, h0, -⟩; exact absurd h0 (by decide)
    rintro _ _ ⟨rfl, -, rfl⟩
    refine zb_st (st' := []) rfl ?_
    obtain ⟨t, ht4, rfl, htm⟩ := ht
    obtain ⟨n, hn⟩ := (hw.at hr).2.2.2.1
    refine zb_lv (lv' := [(4, .ref (zad G (zN (σ.1 1 r)))), (0, .ref (zad G 0)), (1, .int (nI r)), (2, .int (nI t)), (3, .int z)]) (rfl) ?_
    refine zb_aload d_Sh_put_19 rfl ?_
    refine zb_iload_n d_Sh_put_21 rfl rfl ?_
    refine zb_iload_n d_Sh_put_22 rfl rfl ?_
    by_cases hc : M r t ≠ 0 ∨ z = 0 ∨ n < 300
    · refine zb_callV (rest := []) (c_raise_y l G hn ht4 hc) (lk_Sh_47.cw rfl rfl ⟨Nat.le_of_ble_eq_true rfl, Nat.le_of_ble_eq_true rfl⟩) (zgR (hw.rl hr)) rfl rfl rfl rfl (Nat.le_of_ble_eq_true rfl) d_Sh_put_23 ⟨Nat.le_of_ble_eq_true rfl, Nat.le_of_ble_eq_true rfl⟩ ?_
      rintro _ _ ⟨rfl, n2, w1, w2⟩
      rename_i σ9
      refine zb_st (st' := [.int 1]) rfl ?_
      refine zx_callS (rest := []) (c_refuseIfFull l G hl) (lk_Sh_50.cw rfl rfl ⟨Nat.le_of_ble_eq_true rfl, Nat.le_of_ble_eq_true rfl⟩) rfl rfl (Nat.le_of_ble_eq_true rfl) d_Sh_put_26 ⟨Nat.le_of_ble_eq_true rfl, Nat.le_of_ble_eq_true rfl⟩ ?_ ?_
      rotate_left
      · rintro E _ ⟨-, h0, -⟩; exact absurd h0 (by decide)
      rintro _ _ ⟨rfl, -, rfl⟩
      refine zb_st (st' := []) rfl ?_
      refine zb_aload d_Sh_put_29 rfl ?_
      refine zb_iload_n d_Sh_put_31 rfl rfl ?_
      refine zb_callV (rest := []) (c_countOf l G w1 (show t < 2 ^ 31 by omega)) (lk_Sh_53.cw rfl rfl ⟨Nat.le_of_ble_eq_true rfl, Nat.le_of_ble_eq_true rfl⟩) (zgR (hw.rl hr)) rfl rfl rfl rfl (Nat.le_of_ble_eq_true rfl) d_Sh_put_32 ⟨Nat.le_of_ble_eq_true rfl, Nat.le_of_ble_eq_true rfl⟩ ?_
      rintro _ _ ⟨rfl, rfl⟩
      refine zb_st (st' := [.int (upd (M r) t (M r t + z) t)]) rfl ?_
      refine zb_top (y := M r t + z) (pk_us) ?_
      exact zx_ret (zb_iret d_Sh_put_35 rfl ⟨r, t, n, hr, rfl, ⟨ht4, htm⟩, rfl, hn, hc, rfl, by rw [← uM_id w r]; exact zwf_set hw hr w2.1 ⟨w2.2.2.trans (hw.at hr).1, (hw.at hr).2.1, (hw.at hr).2.2.1, ⟨n2, w1⟩, fun u hu => by
                                                                                                                        by_cases e : u = t
                                                                                                                        · rw [e]; exact htm
                                                                                                                        · rw [pk_un e] at hu; exact (hw.at hr).2.2.2.2 u hu⟩, zf.k (hw.rl hr) w2⟩)
    · refine zb_callV (rest := []) (c_raise_n l G hn ht4 hc) (lk_Sh_47.cw rfl rfl ⟨Nat.le_of_ble_eq_true rfl, Nat.le_of_ble_eq_true rfl⟩) (zgR (hw.rl hr)) rfl rfl rfl rfl (Nat.le_of_ble_eq_true rfl) d_Sh_put_23 ⟨Nat.le_of_ble_eq_true rfl, Nat.le_of_ble_eq_true rfl⟩ ?_
      rintro _ _ ⟨rfl, rfl⟩
      refine zb_st (st' := [.int 0]) rfl ?_
      refine zx_callS (rest := []) (c_refuseIfFull l G hl) (lk_Sh_50.cw rfl rfl ⟨Nat.le_of_ble_eq_true rfl, Nat.le_of_ble_eq_true rfl⟩) rfl rfl (Nat.le_of_ble_eq_true rfl) d_Sh_put_26 ⟨Nat.le_of_ble_eq_true rfl, Nat.le_of_ble_eq_true rfl⟩ ?_ ?_
      rotate_left
      · rintro E _ ⟨rfl, -, rfl⟩; exact zx_out ⟨Or.inr (Or.inr ⟨rfl, r, t, n, hr, rfl, ⟨ht4, htm⟩, rfl, hn, hc⟩), rfl⟩ (Nat.le_of_ble_eq_true rfl) (Nat.le_of_ble_eq_true rfl)
      rintro _ _ ⟨-, h0, -⟩
      exact absurd rfl h0
  · refine zb_callS (rest := []) (c_isTuple_n l G hw3 ht) (lk_Sh_43.cw rfl rfl ⟨Nat.le_of_ble_eq_true rfl, Nat.le_of_ble_eq_true rfl⟩) rfl rfl (Nat.le_of_ble_eq_true rfl) d_Sh_put_13 ⟨Nat.le_of_ble_eq_true rfl, Nat.le_of_ble_eq_true rfl⟩ ?_
    rintro _ _ ⟨rfl, rfl⟩
    refine zb_st (st' := [.int 0]) rfl ?_
    refine zx_callS (rest := []) (c_refuseUnless l G hl) (lk_Sh_28.cw rfl rfl ⟨Nat.le_of_ble_eq_true rfl, Nat.le_of_ble_eq_true rfl⟩) rfl rfl (Nat.le_of_ble_eq_true rfl) d_Sh_put_16 ⟨Nat.le_of_ble_eq_true rfl, Nat.le_of_ble_eq_true rfl⟩ ?_ ?_
    rotate_left
    · rintro E _ ⟨rfl, -, rfl⟩; exact zx_out ⟨Or.inr (Or.inl ⟨rfl, r, hr, rfl, ht⟩), rfl⟩ (Nat.le_of_ble_eq_true rfl) (Nat.le_of_ble_eq_true rfl)
    rintro _ _ ⟨-, h0, -⟩
    exact absurd rfl h0
set_option maxHeartbeats 4000000 in
set_option maxRecDepth 100000 in
/-- at(r, k) -/
theorem c_at (l : Launch) (G : zG) {σ : zS} {x y : Int32} {M : Nat → Nat → Int32} {w : Nat → Nat} (hl : l.stackTraces = false) (hw : zwf σ M w) : zCX l G y_Sh_at w_Sh_at (zrz 8 130 2) 2 12 [.ref (zad G 0), .int x, .int y] σ (fun v σ' => ∃ r k n : Nat, r < 8 ∧ x = nI r ∧ k < n ∧ y = nI k ∧ zr σ (zN (σ.1 1 r)) n (M r) ∧ v = some (.int (σ.1 (zN (σ.1 1 r) + 1) k)) ∧ σ = σ') (fun E σ' => (E = zNS ∧ ¬ zgr x ∨ E = zNS ∧ ∃ r n : Nat, r < 8 ∧ x = nI r ∧ zr σ (zN (σ.1 1 r)) n (M r) ∧ ¬ ∃ k : Nat, k < n ∧ y = nI k) ∧ σ = σ') := by
  refine zCX_of (cc := c_Sh_at) (nL := 4) (ret := (some .int)) (own := R_Sh) (by decide +kernel) rfl rfl (Nat.le_of_ble_eq_true rfl) ?_
  refine zb_lv (lv' := [(0, .ref (zad G 0)), (1, .int x), (2, .int y)]) rfl ?_
  refine zb_aload_n d_Sh_at_0 rfl rfl ?_
  refine zb_iload_n d_Sh_at_1 rfl rfl ?_
  refine zx_callV (rest := []) (c_relationOf l G hl) (lk_Sh_24.cw rfl rfl ⟨Nat.le_of_ble_eq_true rfl, Nat.le_of_ble_eq_true rfl⟩) zgS rfl rfl rfl rfl (Nat.le_of_ble_eq_true rfl) d_Sh_at_2 ⟨Nat.le_of_ble_eq_true rfl, Nat.le_of_ble_eq_true rfl⟩ ?_ ?_
  rotate_left
  · rintro E _ ⟨rfl, hx, rfl⟩; exact zx_out ⟨Or.inl ⟨rfl, hx⟩, rfl⟩ (Nat.le_of_ble_eq_true rfl) (Nat.le_of_ble_eq_true rfl)
  rintro _ _ ⟨r, hr, rfl, rfl, rfl⟩
  refine zb_lv (lv' := [(0, .ref (zad G 0)), (1, .int (nI r)), (2, .int y)]) rfl ?_
  refine zb_st (st' := [.ref (zad G (zN (σ.1 1 r)))]) rfl ?_
  refine zb_astore_n (lv' := [(3, .ref (zad G (zN (σ.1 1 r)))), (0, .ref (zad G 0)), (1, .int (nI r)), (2, .int y)]) d_Sh_at_5 rfl (by decide) rfl ?_
  obtain ⟨n, hn⟩ := (hw.at hr).2.2.2.1
  have hn3 := hn.2.2.1
  refine zb_iload_n d_Sh_at_6 rfl rfl ?_
  refine zb_if_lt (tgt := 18) d_Sh_at_7 rfl (fun h7 => ?_) (fun h7 => ?_)
  · exact zx_throw xw_NS (Or.inl rfl) hl d_Sh_at_18 d_Sh_at_21 d_Sh_at_22 d_Sh_at_25 (Nat.le_of_ble_eq_true rfl) (Nat.le_of_ble_eq_true rfl) (Nat.le_refl _) (Nat.le_refl _) (Nat.le_refl _) (Nat.le_refl _) ⟨Or.inr ⟨rfl, r, n, hr, rfl, hn, fun ⟨k, hk, e⟩ => by subst e; exact absurd h7 (nI_pos (by omega))⟩, rfl⟩
  · refine zb_iload_n d_Sh_at_10 rfl rfl ?_
    refine zb_aload_n d_Sh_at_11 rfl rfl ?_
    refine zr_size (q := zN (σ.1 1 r)) d_Sh_at_12 fl_Sh_32 (hw.rl hr) ?_
    refine zb_top (y := nI n) (hn.2.1) ?_
    refine zb_icmp_lt (tgt := 26) d_Sh_at_15 rfl (fun h15 => ?_) (fun h15 => ?_)
    · obtain ⟨k, hk31, rfl⟩ := nI_of h7
      have hk : k < n := (nI_ltI hk31 (by omega)).mp h15
      refine zb_lv (lv' := [(3, .ref (zad G (zN (σ.1 1 r)))), (0, .ref (zad G 0)), (1, .int (nI r)), (2, .int (nI k))]) (rfl) ?_
      refine zb_aload_n d_Sh_at_26 rfl rfl ?_
      refine zr_tuples (q := zN (σ.1 1 r)) d_Sh_at_27 fl_Sh_60 (hw.rl hr) ?_
      refine zb_iload_n d_Sh_at_30 rfl rfl ?_
      refine zb_ialdN (q := zN (σ.1 1 r) + 1) (j := k) d_Sh_at_31 ((hw.rl hr).t) (by rw [(hw.rl hr).nt]; omega) ?_
      exact zx_ret (zb_widen (Nat.le_of_ble_eq_true rfl) (Nat.le_of_ble_eq_true rfl) (zb_iret d_Sh_at_32 rfl ⟨r, k, n, hr, rfl, hk, rfl, hn, rfl, rfl⟩))
    · exact zx_throw xw_NS (Or.inl rfl) hl d_Sh_at_18 d_Sh_at_21 d_Sh_at_22 d_Sh_at_25 (Nat.le_of_ble_eq_true rfl) (Nat.le_of_ble_eq_true rfl) (Nat.le_refl _) (Nat.le_refl _) (Nat.le_refl _) (Nat.le_refl _) ⟨Or.inr ⟨rfl, r, n, hr, rfl, hn, fun ⟨k, hk, e⟩ => by subst e; exact h15 (nI_lt hk (by omega))⟩, rfl⟩
