set_option maxHeartbeats 4000000 in
set_option maxRecDepth 100000 in
/-- startAnew(w): the width, size 0 -/
theorem c_startAnew (l : Launch) (G : zG) {σ : zS} {q : Nat} {x : Int32} (hq : zrl q) : zC l G y_Rel_startAnew w_Rel_startAnew (zrm 0 0) 0 0 [.ref (zad G q), .int x] σ (fun v σ' => v = none ∧ zu (zu σ q (upd (σ.1 q) 0 x)) q (upd ((zu σ q (upd (σ.1 q) 0 x)).1 q) 1 0) = σ') := by
  refine zC_of (cc := c_Rel_startAnew) (nL := 2) (ret := none) (own := R_Rel) (by decide +kernel) rfl rfl (Nat.le_of_ble_eq_true rfl) ?_
  refine zb_lv (lv' := [(0, .ref (zad G q)), (1, .int x)]) rfl ?_
  refine zb_aload_n d_Rel_startAnew_0 rfl rfl ?_
  refine zb_iload_n d_Rel_startAnew_1 rfl rfl ?_
  refine zr_put_width (q := q) d_Rel_startAnew_2 fl_Rel_18 hq ?_
  refine zb_aload_n d_Rel_startAnew_5 rfl rfl ?_
  refine zb_iconst (v := 0) d_Rel_startAnew_6 rfl ?_
  refine zr_put_size (q := q) d_Rel_startAnew_7 fl_Rel_22 hq ?_
  exact zb_vret d_Rel_startAnew_10 rfl ⟨rfl, rfl⟩
set_option maxHeartbeats 4000000 in
set_option maxRecDepth 100000 in
/-- holdsAt(k, t) -/
theorem c_holdsAt (l : Launch) (G : zG) {σ : zS} {q n k : Nat} {t : Int32} (hq : zrl q) (hn : σ.1 q 1 = nI n) (hn3 : n ≤ 300) (hk : k < 2 ^ 31) : zC l G y_Rel_holdsAt w_Rel_holdsAt (zrm 0 0) 0 0 [.ref (zad G q), .int (nI k), .int t] σ (fun v σ' => v = some (.int (if k < n ∧ σ.1 (q + 1) k = t then 1 else 0)) ∧ σ = σ') := by
  refine zC_of (cc := c_Rel_holdsAt) (nL := 3) (ret := (some .boolean)) (own := R_Rel) (by decide +kernel) rfl rfl (Nat.le_of_ble_eq_true rfl) ?_
  refine zb_lv (lv' := [(0, .ref (zad G q)), (1, .int (nI k)), (2, .int t)]) rfl ?_
  refine zb_iload_n d_Rel_holdsAt_0 rfl rfl ?_
  refine zb_aload_n d_Rel_holdsAt_1 rfl rfl ?_
  refine zr_size (q := q) d_Rel_holdsAt_2 fl_Rel_22 hq ?_
  refine zb_top (y := nI n) (hn) ?_
  refine zb_icmp_ge (tgt := 22) d_Rel_holdsAt_5 rfl (fun h5 => ?_) (fun h5 => ?_)
  · refine zb_iconst (v := 0) d_Rel_holdsAt_22 rfl ?_
    exact zb_zret d_Rel_holdsAt_23 rfl rfl ⟨by rw [if_neg (fun hh => absurd (Nat.not_le.mpr hh.1) (fun z => z ((nI_leI (by omega) hk).mp h5)))], rfl⟩
  · have hkn : k < n := Nat.not_le.mp (fun hh => h5 (nI_le hh (by omega)))
    refine zb_aload_n d_Rel_holdsAt_8 rfl rfl ?_
    refine zr_tuples (q := q) d_Rel_holdsAt_9 fl_Rel_9 hq ?_
    refine zb_iload_n d_Rel_holdsAt_12 rfl rfl ?_
    refine zb_ialdN (q := q + 1) (j := k) d_Rel_holdsAt_13 (hq.t) (by rw [hq.nt]; omega) ?_
    refine zb_iload_n d_Rel_holdsAt_14 rfl rfl ?_
    refine zb_icmp_ne (tgt := 22) d_Rel_holdsAt_15 rfl (fun h15 => ?_) (fun h15 => ?_)
    · refine zb_iconst (v := 0) d_Rel_holdsAt_22 rfl ?_
      exact zb_zret d_Rel_holdsAt_23 rfl rfl ⟨by rw [if_neg (fun hh => h15 hh.2)], rfl⟩
    · refine zb_iconst (v := 1) d_Rel_holdsAt_18 rfl ?_
      refine zb_goto (tgt := 23) d_Rel_holdsAt_19 rfl ?_
      exact zb_zret d_Rel_holdsAt_23 rfl rfl ⟨by rw [if_pos ⟨hkn, h15⟩], rfl⟩
set_option maxHeartbeats 4000000 in
set_option maxRecDepth 100000 in
theorem lp_placeOf_0 (l : Launch) (G : zG) {σ : zS} {q n : Nat} {t : Int32} (hq : zrl q) (hn : σ.1 q 1 = nI n) (hn3 : n ≤ 300) (hs : srt (σ.1 (q + 1)) n) {a : Nat} (h : pl (σ.1 (q + 1)) n t a) : zB l G w_Rel_placeOf R_Rel c_Rel_placeOf 4 (some .int) [] (zrm 0 0) (zR G (fun v σ' => (∃ p : Nat, v = some (.int (nI p)) ∧ pl (σ.1 (q + 1)) n t p) ∧ σ = σ') 0 0) 0 0 6 [(3, .int (nI 0)), (2, .int (nI a)), (0, .ref (zad G q)), (1, .int t)] [] σ := by
  refine zb_iload_n d_Rel_placeOf_6 rfl rfl ?_
  refine zb_if_le (tgt := 45) d_Rel_placeOf_7 rfl (fun h7 => ?_) (fun h7 => absurd (by decide) h7)
  refine zb_iload_n d_Rel_placeOf_45 rfl rfl ?_
  exact zb_iret d_Rel_placeOf_46 rfl ⟨⟨a, rfl, h⟩, rfl⟩
theorem pw (k : Nat) (h : k ≤ 8) : 2 ^ k < 2 ^ 31 := Nat.pow_lt_pow_right (by decide) (by omega)
theorem pw2 (k : Nat) (h : k ≤ 8) : 2 ^ k ≤ 256 := Nat.pow_le_pow_right (n := 2) (by decide) h
set_option maxHeartbeats 4000000 in
set_option maxRecDepth 100000 in
theorem lp_placeOf_b (l : Launch) (G : zG) {σ : zS} {q n : Nat} {t : Int32} (hq : zrl q) (hn : σ.1 q 1 = nI n) (hn3 : n ≤ 300) (hs : srt (σ.1 (q + 1)) n) {k a : Nat} (hk : k ≤ 8) (h38 : ∀ b : Nat, plI (σ.1 (q + 1)) n t b (2 ^ k - 1) → zB l G w_Rel_placeOf R_Rel c_Rel_placeOf 4 (some .int) [] (zrm 0 0) (zR G (fun v σ' => (∃ p : Nat, v = some (.int (nI p)) ∧ pl (σ.1 (q + 1)) n t p) ∧ σ = σ') 0 0) 0 0 38 [(3, .int (nI (2 ^ k))), (2, .int (nI b)), (0, .ref (zad G q)), (1, .int t)] [] σ) (h : plI (σ.1 (q + 1)) n t a (2 ^ (k + 1) - 1)) : zB l G w_Rel_placeOf R_Rel c_Rel_placeOf 4 (some .int) [] (zrm 0 0) (zR G (fun v σ' => (∃ p : Nat, v = some (.int (nI p)) ∧ pl (σ.1 (q + 1)) n t p) ∧ σ = σ') 0 0) 0 0 6 [(3, .int (nI (2 ^ k))), (2, .int (nI a)), (0, .ref (zad G q)), (1, .int t)] [] σ := by
  have han : a ≤ n := h.1
  have hp2 := pw2 _ hk
  refine zb_iload_n d_Rel_placeOf_6 rfl rfl ?_
  refine zb_if_le (tgt := 45) d_Rel_placeOf_7 rfl (fun h7 => absurd h7 (nI_nle (Nat.two_pow_pos _) (pw _ hk))) (fun h7 => ?_)
  refine zb_iload_n d_Rel_placeOf_10 rfl rfl ?_
  refine zb_iload_n d_Rel_placeOf_11 rfl rfl ?_
  refine zb_iadd d_Rel_placeOf_12 ?_
  refine zb_top (y := nI (a + 2 ^ k)) (nI_add a _) ?_
  refine zb_aload_n d_Rel_placeOf_13 rfl rfl ?_
  refine zr_size (q := q) d_Rel_placeOf_14 fl_Rel_22 hq ?_
  refine zb_top (y := nI n) (hn) ?_
  refine zb_icmp_gt (tgt := 38) d_Rel_placeOf_17 rfl (fun h17 => ?_) (fun h17 => ?_)
  · refine zb_sub [0, 1, 2, 3] rfl (h38 a ?_)
    exact plI_no hs h Nat.one_le_two_pow (Or.inl ((nI_ltI (by omega) (by have := pw2 _ hk; have := h.1; omega)).mp h17))
  · have h17 : a + 2 ^ k ≤ n := Nat.not_lt.mp (fun hh => h17 (nI_lt hh (by have := pw2 _ hk; omega)))
    have h1 : 1 ≤ 2 ^ k := Nat.one_le_two_pow
    refine zb_aload_n d_Rel_placeOf_20 rfl rfl ?_
    refine zr_tuples (q := q) d_Rel_placeOf_21 fl_Rel_9 hq ?_
    refine zb_iload_n d_Rel_placeOf_24 rfl rfl ?_
    refine zb_iload_n d_Rel_placeOf_25 rfl rfl ?_
    refine zb_iadd d_Rel_placeOf_26 ?_
    refine zb_top (y := nI (a + 2 ^ k)) (nI_add a _) ?_
    refine zb_iconst (v := 1) d_Rel_placeOf_27 rfl ?_
    refine zb_isub d_Rel_placeOf_28 ?_
    refine zb_top (y := nI (a + 2 ^ k - 1)) ((pk_sub (a := a + 2 ^ k) (b := 1) (by omega))) ?_
    refine zb_ialdN (q := q + 1) (j := (a + 2 ^ k - 1)) d_Rel_placeOf_29 (hq.t) (by rw [hq.nt]; omega) ?_
    refine zb_iload_n d_Rel_placeOf_30 rfl rfl ?_
    refine zb_icmp_ge (tgt := 38) d_Rel_placeOf_31 rfl (fun h31 => ?_) (fun h31 => ?_)
    · refine zb_sub [0, 1, 2, 3] rfl (h38 a ?_)
      exact plI_no hs h h1 (Or.inr (Int32.not_lt.mpr h31))
    · refine zb_iload_n d_Rel_placeOf_34 rfl rfl ?_
      refine zb_iload_n d_Rel_placeOf_35 rfl rfl ?_
      refine zb_iadd d_Rel_placeOf_36 ?_
      refine zb_top (y := nI (a + 2 ^ k)) (nI_add a _) ?_
      refine zb_istore_n (lv' := [(2, .int (nI (a + 2 ^ k))), (3, .int (nI (2 ^ k))), (0, .ref (zad G q)), (1, .int t)]) d_Rel_placeOf_37 rfl (by decide) rfl ?_
      refine zb_sub [1, 0, 2, 3] rfl (h38 (a + 2 ^ k) ?_)
      exact plI_yes hs h (by rw [Nat.pow_succ]; omega) h1 h17 (Int32.not_le.mp h31)
set_option maxHeartbeats 4000000 in
set_option maxRecDepth 100000 in
theorem lp_placeOf (l : Launch) (G : zG) {σ : zS} {q n : Nat} {t : Int32} (hq : zrl q) (hn : σ.1 q 1 = nI n) (hn3 : n ≤ 300) (hs : srt (σ.1 (q + 1)) n) : ∀ (k : Nat), k ≤ 8 → ∀ a : Nat, plI (σ.1 (q + 1)) n t a (2 ^ (k + 1) - 1) → zB l G w_Rel_placeOf R_Rel c_Rel_placeOf 4 (some .int) [] (zrm 0 0) (zR G (fun v σ' => (∃ p : Nat, v = some (.int (nI p)) ∧ pl (σ.1 (q + 1)) n t p) ∧ σ = σ') 0 0) 0 0 6 [(3, .int (nI (2 ^ k))), (2, .int (nI a)), (0, .ref (zad G q)), (1, .int t)] [] σ := by
  intro k
  induction k with
  | zero =>
    intro hk a h
    refine lp_placeOf_b l G hq hn hn3 hs hk (fun b hb => ?_) h
    refine zb_iload_n d_Rel_placeOf_38 rfl rfl ?_
    refine zb_iconst (v := 2) d_Rel_placeOf_39 rfl ?_
    refine zb_idiv d_Rel_placeOf_40 (by decide) ?_
    refine zb_top (y := nI 0) (by decide) ?_
    refine zb_istore_n (lv' := [(3, .int (nI 0)), (2, .int (nI b)), (0, .ref (zad G q)), (1, .int t)]) d_Rel_placeOf_41 rfl (by decide) rfl ?_
    refine zb_goto (tgt := 6) d_Rel_placeOf_42 rfl ?_
    refine zb_sub [0, 1, 2, 3] rfl ?_
    exact lp_placeOf_0 l G hq hn hn3 hs hb
  | succ k ih =>
    intro hk a h
    refine lp_placeOf_b l G hq hn hn3 hs hk (fun b hb => ?_) h
    refine zb_iload_n d_Rel_placeOf_38 rfl rfl ?_
    refine zb_iconst (v := 2) d_Rel_placeOf_39 rfl ?_
    refine zb_idiv d_Rel_placeOf_40 (by decide) ?_
    refine zb_top (y := nI (2 ^ k)) ((pk_div (a := 2 ^ (k + 1)) (d := 2) (pw _ hk) (by decide) (by decide)).trans (by rw [Nat.pow_succ, Nat.mul_div_cancel _ (by decide)])) ?_
    refine zb_istore_n (lv' := [(3, .int (nI (2 ^ k))), (2, .int (nI b)), (0, .ref (zad G q)), (1, .int t)]) d_Rel_placeOf_41 rfl (by decide) rfl ?_
    refine zb_goto (tgt := 6) d_Rel_placeOf_42 rfl ?_
    refine zb_sub [0, 1, 2, 3] rfl ?_
    exact ih (by omega) b (by rw [Nat.pow_succ] at hb ⊢; exact hb)
set_option maxHeartbeats 4000000 in
set_option maxRecDepth 100000 in
/-- placeOf(t): the place of the first tuple that is not less -/
theorem c_placeOf (l : Launch) (G : zG) {σ : zS} {q n : Nat} {t : Int32} (hq : zrl q) (hn : σ.1 q 1 = nI n) (hn3 : n ≤ 300) (hs : srt (σ.1 (q + 1)) n) : zC l G y_Rel_placeOf w_Rel_placeOf (zrm 0 0) 0 0 [.ref (zad G q), .int t] σ (fun v σ' => (∃ p : Nat, v = some (.int (nI p)) ∧ pl (σ.1 (q + 1)) n t p) ∧ σ = σ') := by
  refine zC_of (cc := c_Rel_placeOf) (nL := 4) (ret := (some .int)) (own := R_Rel) (by decide +kernel) rfl rfl (Nat.le_of_ble_eq_true rfl) ?_
  refine zb_lv (lv' := [(0, .ref (zad G q)), (1, .int t)]) rfl ?_
  refine zb_iconst (v := 0) d_Rel_placeOf_0 rfl ?_
  refine zb_istore_n (lv' := [(2, .int 0), (0, .ref (zad G q)), (1, .int t)]) d_Rel_placeOf_1 rfl (by decide) rfl ?_
  refine zb_sipush (v := 256) d_Rel_placeOf_2 rfl ?_
  refine zb_istore_n (lv' := [(3, .int 256), (2, .int 0), (0, .ref (zad G q)), (1, .int t)]) d_Rel_placeOf_5 rfl (by decide) rfl ?_
  refine zb_sub [0, 1, 2, 3] rfl ?_
  exact lp_placeOf l G hq hn hn3 hs 8 (Nat.le_refl _) 0 ⟨Nat.zero_le _, fun i hi => absurd hi (Nat.not_lt_zero i), fun i h1 h2 => absurd (Nat.lt_of_le_of_lt h1 h2) (by omega)⟩
