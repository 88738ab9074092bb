set_option maxHeartbeats 4000000 in
set_option maxRecDepth 100000 in
/-- countOf(t) -/
theorem c_countOf (l : Launch) (G : zG) {σ : zS} {q n t : Nat} {m : Nat → Int32} (h : zr σ q n m) (ht : t < 2 ^ 31) : zC l G y_Rel_countOf w_Rel_countOf (zrm 1 30) 0 0 [.ref (zad G q), .int (nI t)] σ (fun v σ' => v = some (.int (m t)) ∧ σ = σ') := by
  have hq := h.1
  have hn := h.2.1
  have hn3 := h.2.2.1
  refine zC_of (cc := c_Rel_countOf) (nL := 3) (ret := (some .int)) (own := R_Rel) (by decide +kernel) rfl rfl (Nat.le_of_ble_eq_true rfl) ?_
  refine zb_lv (lv' := [(0, .ref (zad G q)), (1, .int (nI t))]) rfl ?_
  refine zb_aload_n d_Rel_countOf_0 rfl rfl ?_
  refine zb_iload_n d_Rel_countOf_1 rfl rfl ?_
  refine zb_callV (rest := []) (c_placeOf l G hq hn hn3 h.2.2.srt) (lk_Rel_25.cw rfl rfl ⟨Nat.le_of_ble_eq_true rfl, Nat.le_of_ble_eq_true rfl⟩) (zgR hq) rfl rfl rfl rfl (Nat.le_of_ble_eq_true rfl) d_Rel_countOf_2 ⟨Nat.le_of_ble_eq_true rfl, Nat.le_of_ble_eq_true rfl⟩ ?_
  rintro _ _ ⟨⟨p, rfl, hp⟩, rfl⟩
  have hpn : p ≤ n := hp.1
  refine zb_st (st' := [.int (nI p)]) rfl ?_
  refine zb_istore_n (lv' := [(2, .int (nI p)), (0, .ref (zad G q)), (1, .int (nI t))]) d_Rel_countOf_5 rfl (by decide) rfl ?_
  refine zb_aload_n d_Rel_countOf_6 rfl rfl ?_
  refine zb_iload_n d_Rel_countOf_7 rfl rfl ?_
  refine zb_iload_n d_Rel_countOf_8 rfl rfl ?_
  refine zb_callV (rest := []) (c_holdsAt l G hq hn hn3 (k := p) (by omega)) (lk_Rel_29.cw rfl rfl ⟨Nat.le_of_ble_eq_true rfl, Nat.le_of_ble_eq_true rfl⟩) (zgR hq) rfl rfl rfl rfl (Nat.le_of_ble_eq_true rfl) d_Rel_countOf_9 ⟨Nat.le_of_ble_eq_true rfl, Nat.le_of_ble_eq_true rfl⟩ ?_
  rintro _ _ ⟨rfl, rfl⟩
  refine zb_st (st' := [.int (if p < n ∧ σ.1 (q + 1) p = nI t then 1 else 0)]) rfl ?_
  rcases h.2.2.at ht hp with ⟨h1, h2, h3, h4⟩ | ⟨h1, h2⟩
  · refine zb_top (y := 1) (if_pos ⟨h1, h2⟩) ?_
    refine zb_if_eq (tgt := 24) d_Rel_countOf_12 rfl (fun h12 => absurd h12 (by decide)) (fun h12 => ?_)
    refine zb_aload_n d_Rel_countOf_15 rfl rfl ?_
    refine zr_counts (q := q) d_Rel_countOf_16 fl_Rel_15 hq ?_
    refine zb_iload_n d_Rel_countOf_19 rfl rfl ?_
    refine zb_ialdN (q := q + 2) (j := p) d_Rel_countOf_20 (hq.c) (by rw [hq.nc]; omega) ?_
    refine zb_top (y := m t) (h3.symm) ?_
    refine zb_goto (tgt := 25) d_Rel_countOf_21 rfl ?_
    exact zb_iret d_Rel_countOf_25 rfl ⟨rfl, rfl⟩
  · refine zb_top (y := 0) (if_neg h1) ?_
    refine zb_if_eq (tgt := 24) d_Rel_countOf_12 rfl (fun h12 => ?_) (fun h12 => absurd rfl h12)
    refine zb_iconst (v := 0) d_Rel_countOf_24 rfl ?_
    exact zb_iret d_Rel_countOf_25 rfl ⟨by rw [h2], rfl⟩
set_option maxHeartbeats 4000000 in
set_option maxRecDepth 100000 in
/-- removeAt(p) -/
theorem c_removeAt (l : Launch) (G : zG) {σ : zS} {q n p : Nat} (hq : zrl q) (hn : σ.1 q 1 = nI n) (hn3 : n ≤ 300) (hp : p < n) : zC l G y_Rel_removeAt w_Rel_removeAt (zrm 1 60) 0 0 [.ref (zad G q), .int (nI p)] σ (fun v σ' => v = none ∧ zrw σ σ' q (n - 1) (va_cpy (σ.1 (q + 1)) (σ.1 (q + 1)) (p + 1) p (n - 1 - p)) (va_cpy (σ.1 (q + 2)) (σ.1 (q + 2)) (p + 1) p (n - 1 - p))) := by
  refine zC_of (cc := c_Rel_removeAt) (nL := 2) (ret := none) (own := R_Rel) (by decide +kernel) rfl rfl (Nat.le_of_ble_eq_true rfl) ?_
  refine zb_lv (lv' := [(0, .ref (zad G q)), (1, .int (nI p))]) rfl ?_
  refine zb_aload_n d_Rel_removeAt_0 rfl rfl ?_
  refine zb_dup d_Rel_removeAt_1 rfl ?_
  refine zr_size (q := q) d_Rel_removeAt_2 fl_Rel_22 hq ?_
  refine zb_top (y := nI n) (hn) ?_
  refine zb_iconst (v := 1) d_Rel_removeAt_5 rfl ?_
  refine zb_isub d_Rel_removeAt_6 ?_
  refine zb_top (y := nI (n - 1)) (pk_sub (a := n) (b := 1) (by omega)) ?_
  refine zr_put_size (q := q) d_Rel_removeAt_7 fl_Rel_22 hq ?_
  refine zb_aload_n d_Rel_removeAt_10 rfl rfl ?_
  refine zr_tuples (q := q) d_Rel_removeAt_11 fl_Rel_9 hq ?_
  refine zb_iload_n d_Rel_removeAt_14 rfl rfl ?_
  refine zb_iconst (v := 1) d_Rel_removeAt_15 rfl ?_
  refine zb_iadd d_Rel_removeAt_16 ?_
  refine zb_top (y := nI (p + 1)) (nI_1 p) ?_
  refine zb_aload_n d_Rel_removeAt_17 rfl rfl ?_
  refine zr_tuples (q := q) d_Rel_removeAt_18 fl_Rel_9 hq ?_
  refine zb_iload_n d_Rel_removeAt_21 rfl rfl ?_
  refine zb_aload_n d_Rel_removeAt_22 rfl rfl ?_
  refine zr_size (q := q) d_Rel_removeAt_23 fl_Rel_22 hq ?_
  refine zb_top (y := nI (n - 1)) (by simp [zu, upd]) ?_
  refine zb_iload_n d_Rel_removeAt_26 rfl rfl ?_
  refine zb_isub d_Rel_removeAt_27 ?_
  refine zb_top (y := nI (n - 1 - p)) (pk_sub (by omega)) ?_
  refine zb_copyN (q := q + 1) (a := (p + 1)) (b := p) (c := (n - 1 - p)) (hq.t) (by rw [hq.nt]; omega) (by rw [hq.nt]; omega) (Nat.le_of_ble_eq_true rfl) (by decide +kernel) rfl d_Rel_removeAt_28 ?_
  refine zb_aload_n d_Rel_removeAt_31 rfl rfl ?_
  refine zr_counts (q := q) d_Rel_removeAt_32 fl_Rel_15 hq ?_
  refine zb_iload_n d_Rel_removeAt_35 rfl rfl ?_
  refine zb_iconst (v := 1) d_Rel_removeAt_36 rfl ?_
  refine zb_iadd d_Rel_removeAt_37 ?_
  refine zb_top (y := nI (p + 1)) (nI_1 p) ?_
  refine zb_aload_n d_Rel_removeAt_38 rfl rfl ?_
  refine zr_counts (q := q) d_Rel_removeAt_39 fl_Rel_15 hq ?_
  refine zb_iload_n d_Rel_removeAt_42 rfl rfl ?_
  refine zb_aload_n d_Rel_removeAt_43 rfl rfl ?_
  refine zr_size (q := q) d_Rel_removeAt_44 fl_Rel_22 hq ?_
  refine zb_top (y := nI (n - 1)) (by simp [zu, upd]) ?_
  refine zb_iload_n d_Rel_removeAt_47 rfl rfl ?_
  refine zb_isub d_Rel_removeAt_48 ?_
  refine zb_top (y := nI (n - 1 - p)) (pk_sub (by omega)) ?_
  refine zb_copyN (q := q + 2) (a := (p + 1)) (b := p) (c := (n - 1 - p)) (hq.c) (by rw [hq.nc]; omega) (by rw [hq.nc]; omega) (Nat.le_of_ble_eq_true rfl) (by decide +kernel) rfl d_Rel_removeAt_49 ?_
  exact zb_vret d_Rel_removeAt_52 rfl ⟨rfl, ⟨fun k h1 h2 h3 => by simp [zu, h1, h2, h3], rfl, by simp [zu, upd]⟩, by simp [zu, upd], by simp [zu, upd], by simp [zu, upd]⟩
set_option maxHeartbeats 4000000 in
set_option maxRecDepth 100000 in
/-- insertAt(p, t, c) -/
theorem c_insertAt (l : Launch) (G : zG) {σ : zS} {q n p : Nat} {t c : Int32} (hq : zrl q) (hn : σ.1 q 1 = nI n) (hn3 : n < 300) (hp : p ≤ n) : zC l G y_Rel_insertAt w_Rel_insertAt (zrm 1 60) 0 0 [.ref (zad G q), .int (nI p), .int t, .int c] σ (fun v σ' => v = none ∧ zrw σ σ' q (n + 1) (upd (va_cpy (σ.1 (q + 1)) (σ.1 (q + 1)) p (p + 1) (n - p)) p t) (upd (va_cpy (σ.1 (q + 2)) (σ.1 (q + 2)) p (p + 1) (n - p)) p c)) := by
  refine zC_of (cc := c_Rel_insertAt) (nL := 4) (ret := none) (own := R_Rel) (by decide +kernel) rfl rfl (Nat.le_of_ble_eq_true rfl) ?_
  refine zb_lv (lv' := [(0, .ref (zad G q)), (1, .int (nI p)), (2, .int t), (3, .int c)]) rfl ?_
  refine zb_aload_n d_Rel_insertAt_0 rfl rfl ?_
  refine zr_tuples (q := q) d_Rel_insertAt_1 fl_Rel_9 hq ?_
  refine zb_iload_n d_Rel_insertAt_4 rfl rfl ?_
  refine zb_aload_n d_Rel_insertAt_5 rfl rfl ?_
  refine zr_tuples (q := q) d_Rel_insertAt_6 fl_Rel_9 hq ?_
  refine zb_iload_n d_Rel_insertAt_9 rfl rfl ?_
  refine zb_iconst (v := 1) d_Rel_insertAt_10 rfl ?_
  refine zb_iadd d_Rel_insertAt_11 ?_
  refine zb_top (y := nI (p + 1)) (nI_1 p) ?_
  refine zb_aload_n d_Rel_insertAt_12 rfl rfl ?_
  refine zr_size (q := q) d_Rel_insertAt_13 fl_Rel_22 hq ?_
  refine zb_top (y := nI n) (hn) ?_
  refine zb_iload_n d_Rel_insertAt_16 rfl rfl ?_
  refine zb_isub d_Rel_insertAt_17 ?_
  refine zb_top (y := nI (n - p)) (pk_sub (by omega)) ?_
  refine zb_copyN (q := q + 1) (a := p) (b := (p + 1)) (c := (n - p)) (hq.t) (by rw [hq.nt]; omega) (by rw [hq.nt]; omega) (Nat.le_of_ble_eq_true rfl) (by decide +kernel) rfl d_Rel_insertAt_18 ?_
  refine zb_aload_n d_Rel_insertAt_21 rfl rfl ?_
  refine zr_counts (q := q) d_Rel_insertAt_22 fl_Rel_15 hq ?_
  refine zb_iload_n d_Rel_insertAt_25 rfl rfl ?_
  refine zb_aload_n d_Rel_insertAt_26 rfl rfl ?_
  refine zr_counts (q := q) d_Rel_insertAt_27 fl_Rel_15 hq ?_
  refine zb_iload_n d_Rel_insertAt_30 rfl rfl ?_
  refine zb_iconst (v := 1) d_Rel_insertAt_31 rfl ?_
  refine zb_iadd d_Rel_insertAt_32 ?_
  refine zb_top (y := nI (p + 1)) (nI_1 p) ?_
  refine zb_aload_n d_Rel_insertAt_33 rfl rfl ?_
  refine zr_size (q := q) d_Rel_insertAt_34 fl_Rel_22 hq ?_
  refine zb_top (y := nI n) (by simp [zu, hn]) ?_
  refine zb_iload_n d_Rel_insertAt_37 rfl rfl ?_
  refine zb_isub d_Rel_insertAt_38 ?_
  refine zb_top (y := nI (n - p)) (pk_sub (by omega)) ?_
  refine zb_copyN (q := q + 2) (a := p) (b := (p + 1)) (c := (n - p)) (hq.c) (by rw [hq.nc]; omega) (by rw [hq.nc]; omega) (Nat.le_of_ble_eq_true rfl) (by decide +kernel) rfl d_Rel_insertAt_39 ?_
  refine zb_aload_n d_Rel_insertAt_42 rfl rfl ?_
  refine zr_tuples (q := q) d_Rel_insertAt_43 fl_Rel_9 hq ?_
  refine zb_iload_n d_Rel_insertAt_46 rfl rfl ?_
  refine zb_iload_n d_Rel_insertAt_47 rfl rfl ?_
  refine zb_iastN (q := q + 1) (j := p) d_Rel_insertAt_48 (hq.t) (by rw [hq.nt]; omega) ?_
  refine zb_aload_n d_Rel_insertAt_49 rfl rfl ?_
  refine zr_counts (q := q) d_Rel_insertAt_50 fl_Rel_15 hq ?_
  refine zb_iload_n d_Rel_insertAt_53 rfl rfl ?_
  refine zb_iload_n d_Rel_insertAt_54 rfl rfl ?_
  refine zb_iastN (q := q + 2) (j := p) d_Rel_insertAt_55 (hq.c) (by rw [hq.nc]; omega) ?_
  refine zb_aload_n d_Rel_insertAt_56 rfl rfl ?_
  refine zb_dup d_Rel_insertAt_57 rfl ?_
  refine zr_size (q := q) d_Rel_insertAt_58 fl_Rel_22 hq ?_
  refine zb_top (y := nI n) (by simp [zu, hn]) ?_
  refine zb_iconst (v := 1) d_Rel_insertAt_61 rfl ?_
  refine zb_iadd d_Rel_insertAt_62 ?_
  refine zb_top (y := nI (n + 1)) (nI_1 n) ?_
  refine zr_put_size (q := q) d_Rel_insertAt_63 fl_Rel_22 hq ?_
  exact zb_vret d_Rel_insertAt_66 rfl ⟨rfl, ⟨fun k h1 h2 h3 => by simp [zu, h1, h2, h3], rfl, by simp [zu, upd]⟩, by simp [zu, upd], by simp [zu], by simp [zu]⟩
set_option maxHeartbeats 4000000 in
set_option maxRecDepth 100000 in
/-- raiseAt(p, x) -/
theorem c_raiseAt (l : Launch) (G : zG) {σ : zS} {q n p : Nat} {m : Nat → Int32} {x : Int32} (h : zr σ q n m) (hp : p < n) : zC l G y_Rel_raiseAt w_Rel_raiseAt (zrm 2 90) 0 0 [.ref (zad G q), .int (nI p), .int x] σ (fun v σ' => v = none ∧ ∃ n' : Nat, zr σ' q n' (upd m (zN (σ.1 (q + 1) p)) (σ.1 (q + 2) p + x)) ∧ zf σ σ' q) := by
  have hq := h.1
  have hn := h.2.1
  have hn3 := h.2.2.1
  refine zC_of (cc := c_Rel_raiseAt) (nL := 3) (ret := none) (own := R_Rel) (by decide +kernel) rfl rfl (Nat.le_of_ble_eq_true rfl) ?_
  refine zb_lv (lv' := [(0, .ref (zad G q)), (1, .int (nI p)), (2, .int x)]) rfl ?_
  refine zb_aload_n d_Rel_raiseAt_0 rfl rfl ?_
  refine zr_counts (q := q) d_Rel_raiseAt_1 fl_Rel_15 hq ?_
  refine zb_iload_n d_Rel_raiseAt_4 rfl rfl ?_
  refine zb_dup2 d_Rel_raiseAt_5 rfl rfl ?_
  refine zb_ialdN (q := q + 2) (j := p) d_Rel_raiseAt_6 (hq.c) (by rw [hq.nc]; omega) ?_
  refine zb_iload_n d_Rel_raiseAt_7 rfl rfl ?_
  refine zb_iadd d_Rel_raiseAt_8 ?_
  refine zb_iastN (q := q + 2) (j := p) d_Rel_raiseAt_9 (hq.c) (by rw [hq.nc]; omega) ?_
  refine zb_aload_n d_Rel_raiseAt_10 rfl rfl ?_
  refine zr_counts (q := q) d_Rel_raiseAt_11 fl_Rel_15 hq ?_
  refine zb_iload_n d_Rel_raiseAt_14 rfl rfl ?_
  refine zb_ialdN (q := q + 2) (j := p) d_Rel_raiseAt_15 (hq.c) (by rw [hq.nc]; omega) ?_
  refine zb_top (y := σ.1 (q + 2) p + x) (by simp [zu, upd]) ?_
  refine zb_if_ne (tgt := 24) d_Rel_raiseAt_16 rfl (fun h16 => ?_) (fun h16 => ?_)
  · exact zb_vret d_Rel_raiseAt_24 rfl ⟨rfl, n, ⟨hq, by simp [zu, hn], by simpa [zu] using zp_upd h.2.2 hp rfl h16⟩, ⟨fun k h1 h2 h3 => by simp [zu, h3], rfl, by simp [zu]⟩⟩
  · refine zb_aload_n d_Rel_raiseAt_19 rfl rfl ?_
    refine zb_iload_n d_Rel_raiseAt_20 rfl rfl ?_
    refine zb_callV (rest := []) (c_removeAt l G (σ := zu σ (q + 2) (upd (σ.1 (q + 2)) p (σ.1 (q + 2) p + x))) hq (by simp [zu, hn]) hn3 hp) (lk_Rel_55.cw rfl rfl ⟨Nat.le_of_ble_eq_true rfl, Nat.le_of_ble_eq_true rfl⟩) (zgR hq) rfl rfl rfl rfl (Nat.le_of_ble_eq_true rfl) d_Rel_raiseAt_21 ⟨Nat.le_of_ble_eq_true rfl, Nat.le_of_ble_eq_true rfl⟩ ?_
    rintro _ _ ⟨rfl, w1, w2, w3, w4⟩
    rename_i σ9
    refine zb_st (st' := []) rfl ?_
    exact zb_vret d_Rel_raiseAt_24 rfl ⟨rfl, n - 1, ⟨hq, w2, by rw [w3, w4]; simpa [zu, h16] using zp_rem (C1 := upd (σ.1 (q + 2)) p (σ.1 (q + 2) p + x)) h.2.2 hp rfl (fun i hi => pk_un hi)⟩, zf.tr (σ1 := zu σ (q + 2) (upd (σ.1 (q + 2)) p (σ.1 (q + 2) p + x))) ⟨fun k h1 h2 h3 => by simp [zu, h3], rfl, by simp [zu]⟩ w1⟩
theorem upd_0 {m : Nat → Int32} {t : Nat} {x : Int32} (h : m t = 0) (hx : x = 0) : upd m t (m t + x) = m := by
  funext u
  by_cases e : u = t
  · subst e
    rw [pk_us, h, hx]
    rfl
  · rw [pk_un e]
set_option maxHeartbeats 4000000 in
set_option maxRecDepth 100000 in
/-- raise(t, x): whether there was room -/
theorem c_raise (l : Launch) (G : zG) {σ : zS} {q n t : Nat} {m : Nat → Int32} {x : Int32} (h : zr σ q n m) (ht : t < 4096) : zC l G y_Rel_raise w_Rel_raise (zrm 3 120) 0 0 [.ref (zad G q), .int (nI t), .int x] σ (fun v σ' => ((m t ≠ 0 ∨ x = 0 ∨ n < 300) → v = some (.int 1) ∧ ∃ n' : Nat, zr σ' q n' (upd m t (m t + x)) ∧ zf σ σ' q) ∧ (¬ (m t ≠ 0 ∨ x = 0 ∨ n < 300) → v = some (.int 0) ∧ σ = σ')) := by
  have hq := h.1
  have hn := h.2.1
  have hn3 := h.2.2.1
  refine zC_of (cc := c_Rel_raise) (nL := 4) (ret := (some .boolean)) (own := R_Rel) (by decide +kernel) rfl rfl (Nat.le_of_ble_eq_true rfl) ?_
  refine zb_lv (lv' := [(0, .ref (zad G q)), (1, .int (nI t)), (2, .int x)]) rfl ?_
  refine zb_aload_n d_Rel_raise_0 rfl rfl ?_
  refine zb_iload_n d_Rel_raise_1 rfl rfl ?_
  refine zb_callV (rest := []) (c_placeOf l G hq hn hn3 h.2.2.srt) (lk_Rel_25.cw rfl rfl ⟨Nat.le_of_ble_eq_true rfl, Nat.le_of_ble_eq_true rfl⟩) (zgR hq) rfl rfl rfl rfl (Nat.le_of_ble_eq_true rfl) d_Rel_raise_2 ⟨Nat.le_of_ble_eq_true rfl, Nat.le_of_ble_eq_true rfl⟩ ?_
  rintro _ _ ⟨⟨p, rfl, hp⟩, rfl⟩
  have hpn : p ≤ n := hp.1
  refine zb_st (st' := [.int (nI p)]) rfl ?_
  refine zb_istore_n (lv' := [(3, .int (nI p)), (0, .ref (zad G q)), (1, .int (nI t)), (2, .int x)]) d_Rel_raise_5 rfl (by decide) rfl ?_
  refine zb_aload_n d_Rel_raise_6 rfl rfl ?_
  refine zb_iload_n d_Rel_raise_7 rfl rfl ?_
  refine zb_iload_n d_Rel_raise_8 rfl rfl ?_
  refine zb_callV (rest := []) (c_holdsAt l G hq hn hn3 (k := p) (by omega)) (lk_Rel_29.cw rfl rfl ⟨Nat.le_of_ble_eq_true rfl, Nat.le_of_ble_eq_true rfl⟩) (zgR hq) rfl rfl rfl rfl (Nat.le_of_ble_eq_true rfl) d_Rel_raise_9 ⟨Nat.le_of_ble_eq_true rfl, Nat.le_of_ble_eq_true rfl⟩ ?_
  rintro _ _ ⟨rfl, rfl⟩
  refine zb_st (st' := [.int (if p < n ∧ σ.1 (q + 1) p = nI t then 1 else 0)]) rfl ?_
  rcases h.2.2.at (show t < 2 ^ 31 by omega) hp with ⟨h1, h2, h3, h4⟩ | ⟨h1, h2⟩
  · refine zb_top (y := 1) (if_pos ⟨h1, h2⟩) ?_
    refine zb_if_eq (tgt := 23) d_Rel_raise_12 rfl (fun h12 => absurd h12 (by decide)) (fun h12 => ?_)
    refine zb_aload_n d_Rel_raise_15 rfl rfl ?_
    refine zb_iload_n d_Rel_raise_16 rfl rfl ?_
    refine zb_iload_n d_Rel_raise_17 rfl rfl ?_
    refine zb_callV (rest := []) (c_raiseAt l G h h1) (lk_Rel_33.cw rfl rfl ⟨Nat.le_of_ble_eq_true rfl, Nat.le_of_ble_eq_true rfl⟩) (zgR hq) rfl rfl rfl rfl (Nat.le_of_ble_eq_true rfl) d_Rel_raise_18 ⟨Nat.le_of_ble_eq_true rfl, Nat.le_of_ble_eq_true rfl⟩ ?_
    rintro _ _ ⟨rfl, n2, w1, w2⟩
    rename_i σ9
    refine zb_st (st' := []) rfl ?_
    refine zb_iconst (v := 1) d_Rel_raise_21 rfl ?_
    exact zb_zret d_Rel_raise_22 rfl rfl ⟨fun _ => ⟨rfl, n2, by rw [h3, ← (h.2.2.eq h1 (by omega)).mp h2]; exact w1, w2⟩, fun hh => absurd (Or.inl (by rw [h3]; exact h4)) hh⟩
  · refine zb_top (y := 0) (if_neg h1) ?_
    refine zb_if_eq (tgt := 23) d_Rel_raise_12 rfl (fun h12 => ?_) (fun h12 => absurd rfl h12)
    refine zb_iload_n d_Rel_raise_23 rfl rfl ?_
    refine zb_if_ne (tgt := 29) d_Rel_raise_24 rfl (fun h24 => ?_) (fun h24 => ?_)
    · refine zb_aload_n d_Rel_raise_29 rfl rfl ?_
      refine zr_size (q := q) d_Rel_raise_30 fl_Rel_22 hq ?_
      refine zb_top (y := nI n) (hn) ?_
      refine zb_sipush (v := 300) d_Rel_raise_33 rfl ?_
      refine zb_icmp_lt (tgt := 41) d_Rel_raise_36 rfl (fun h36 => ?_) (fun h36 => ?_)
      · have hn4 : n < 300 := (nI_ltI (by omega) (by decide)).mp h36
        refine zb_aload_n d_Rel_raise_41 rfl rfl ?_
        refine zb_iload_n d_Rel_raise_42 rfl rfl ?_
        refine zb_iload_n d_Rel_raise_43 rfl rfl ?_
        refine zb_iload_n d_Rel_raise_44 rfl rfl ?_
        refine zb_callV (rest := []) (c_insertAt l G hq hn hn4 hpn) (lk_Rel_37.cw rfl rfl ⟨Nat.le_of_ble_eq_true rfl, Nat.le_of_ble_eq_true rfl⟩) (zgR hq) rfl rfl rfl rfl (Nat.le_of_ble_eq_true rfl) d_Rel_raise_45 ⟨Nat.le_of_ble_eq_true rfl, Nat.le_of_ble_eq_true rfl⟩ ?_
        rintro _ _ ⟨rfl, w1, w2, w3, w4⟩
        rename_i σ9
        refine zb_st (st' := []) rfl ?_
        refine zb_iconst (v := 1) d_Rel_raise_48 rfl ?_
        exact zb_zret d_Rel_raise_49 rfl rfl ⟨fun _ => ⟨rfl, n + 1, ⟨hq, w2, by rw [w3, w4, h2, Int32.zero_add]; exact zp_ins h.2.2 hp ht h2 hn4 h24⟩, w1⟩, fun hh => absurd (Or.inr (Or.inr hn4)) hh⟩
      · refine zb_iconst (v := 0) d_Rel_raise_39 rfl ?_
        exact zb_zret d_Rel_raise_40 rfl rfl ⟨fun hh => absurd hh (fun z => z.elim (fun z => z h2) (fun z => z.elim h24 (fun z => h36 (nI_lt z (by decide))))), fun _ => ⟨rfl, rfl⟩⟩
    · refine zb_iconst (v := 1) d_Rel_raise_27 rfl ?_
      exact zb_zret d_Rel_raise_28 rfl rfl ⟨fun _ => ⟨rfl, n, ⟨hq, hn, by rw [upd_0 h2 h24]; exact h.2.2⟩, zf.rf σ q⟩, fun hh => absurd (Or.inr (Or.inl h24)) hh⟩
