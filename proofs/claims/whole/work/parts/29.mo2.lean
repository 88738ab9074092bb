/-- made stands for m; only made has changed -/
def zo (σ σ' : zS) (m : Nat → Int32) : Prop := (∀ t, t < 4096 → σ'.1 33 t = m t) ∧ (∀ q, q ≠ 33 → σ'.1 q = σ.1 q) ∧ σ'.2 = σ.2
/-- i counts of relation r are those of D -/
def zc (σ τ : zS) (r i : Nat) (D : Nat → Int32) : Prop := (∀ t, t < i → τ.1 32 (4096 * r + t) = D t) ∧ (∀ j, (j < 4096 * r ∨ 4096 * r + i ≤ j) → τ.1 32 j = σ.1 32 j) ∧ (∀ q, q ≠ 32 → τ.1 q = σ.1 q) ∧ τ.2 = σ.2
theorem zc_0 (σ : zS) (r : Nat) (D : Nat → Int32) : zc σ σ r 0 D := ⟨fun t h => absurd h (Nat.not_lt_zero t), fun _ _ => rfl, fun _ _ => rfl, rfl⟩
theorem zc_s {σ τ : zS} {r i : Nat} {D : Nat → Int32} (h : zc σ τ r i D) : zc σ (zu τ 32 (upd (τ.1 32) (4096 * r + i) (D i))) r (i + 1) D := by
  refine ⟨fun t ht => ?_, fun j hj => ?_, fun q hq => (zu_ne τ _ hq).trans (h.2.2.1 q hq), h.2.2.2⟩
  · rw [zu_self]
    by_cases e : t = i
    · rw [e, pk_us]
    · rw [pk_un (by omega)]; exact h.1 t (by omega)
  · rw [zu_self, pk_un (by omega)]
    exact h.2.1 j (by omega)
theorem zc_mw {σ τ : zS} {r u : Nat} {D : Nat → Int32} {M : Nat → Nat → Int32} {w : Nat → Nat} (hm : zmw σ M w) (h : zc (zu σ 31 (upd (σ.1 31) r (nI u))) τ r 4096 D) : zmw τ (uM M r D) (uM w r u) := by
  refine ⟨fun k hk => ?_, fun k t hk ht => ?_⟩
  · rw [h.2.2.1 31 (by decide), zu_self]
    by_cases e : k = r
    · rw [e, pk_us, uM_s]
    · rw [pk_un e, uM_n _ _ e]; exact hm.1 k hk
  · by_cases e : k = r
    · rw [e, uM_s]; exact h.1 t ht
    · rw [uM_n _ _ e, h.2.1 _ (by omega), zu_ne σ _ (by decide)]
      exact hm.2 k t hk ht
theorem zc_j {σ τ : zS} {r i : Nat} {x : Int32} {D : Nat → Int32} (h : zc (zu σ 31 (upd (σ.1 31) r x)) τ r i D) : zj σ τ ∧ τ.1 30 = σ.1 30 := ⟨⟨fun q hq => (h.2.2.1 q (by omega)).trans (zu_ne σ _ (by omega)), h.2.2.2⟩, (h.2.2.1 30 (by decide)).trans (zu_ne σ _ (by decide))⟩
set_option maxHeartbeats 4000000 in
set_option maxRecDepth 100000 in
theorem lp_begin (l : Launch) (G : zG) {σ : zS} : ∀ (d i : Nat) (τ : zS), i + d = 4096 → (∀ t, t < i → τ.1 33 t = 0) → ((∀ q, q ≠ 33 → τ.1 q = σ.1 q) ∧ τ.2 = σ.2) → zB l G w_Mo_begin R_Mo c_Mo_begin 2 none [] (zrm 0 0) (zR G (fun v σ' => v = none ∧ zo σ σ' (fun _ => 0)) 0 0) 0 0 2 [(1, .int (nI i)), (0, .ref (zad G 30))] [] τ := by
  intro d
  induction d with
  | zero =>
    intro i τ hi h0 hf
    have e : i = 4096 := by omega
    refine zb_iload_n d_Mo_begin_2 rfl rfl ?_
    refine zb_sipush (v := 4096) d_Mo_begin_3 rfl ?_
    refine zb_icmp_ge (tgt := 22) d_Mo_begin_6 rfl (fun h6 => ?_) (fun h6 => absurd (nI_le (a := 4096) (b := i) (by omega) (by omega)) h6)
    exact zb_vret d_Mo_begin_22 rfl ⟨rfl, fun t ht => h0 t (by omega), hf⟩
  | succ d ih =>
    intro i τ hi h0 hf
    have hlt : i < 4096 := by omega
    refine zb_iload_n d_Mo_begin_2 rfl rfl ?_
    refine zb_sipush (v := 4096) d_Mo_begin_3 rfl ?_
    refine zb_icmp_ge (tgt := 22) d_Mo_begin_6 rfl (fun h6 => absurd h6 (nI_ge (a := i) (b := 4096) (by omega) (by omega))) (fun h6 => ?_)
    refine zb_aload_n d_Mo_begin_9 rfl rfl ?_
    refine zm_made d_Mo_begin_10 fl_Mo_21 ?_
    refine zb_iload_n d_Mo_begin_13 rfl rfl ?_
    refine zb_iconst (v := 0) d_Mo_begin_14 rfl ?_
    refine zb_iastN (q := 33) (j := i) d_Mo_begin_15 (ia33) (show i < 4096 from hlt) ?_
    refine zb_iinc (v := nI (i + 1)) (lv' := [(1, .int (nI (i + 1))), (0, .ref (zad G 30))]) d_Mo_begin_16 rfl (nI_1 i) (by decide) rfl ?_
    refine zb_goto (tgt := 2) d_Mo_begin_19 rfl ?_
    refine zb_sub [0, 1] rfl ?_
    exact ih (i + 1) _ (by omega) (fun t ht => by
      rw [zu_self]
      by_cases e : t = i
      · rw [e, pk_us]
      · rw [pk_un e]; exact h0 t (by omega)) ⟨fun q hq => (zu_ne τ _ hq).trans (hf.1 q hq), hf.2⟩
set_option maxHeartbeats 4000000 in
set_option maxRecDepth 100000 in
/-- begin() -/
theorem c_begin (l : Launch) (G : zG) {σ : zS}  : zC l G y_Mo_begin w_Mo_begin (zrm 0 0) 0 0 [.ref (zad G 30)] σ (fun v σ' => v = none ∧ zo σ σ' (fun _ => 0)) := by
  refine zC_of (cc := c_Mo_begin) (nL := 2) (ret := none) (own := R_Mo) (by decide +kernel) rfl rfl (Nat.le_of_ble_eq_true rfl) ?_
  refine zb_lv (lv' := [(0, .ref (zad G 30))]) rfl ?_
  refine zb_iconst (v := 0) d_Mo_begin_0 rfl ?_
  refine zb_istore_n (lv' := [(1, .int 0), (0, .ref (zad G 30))]) d_Mo_begin_1 rfl (by decide) rfl ?_
  refine zb_lv (lv' := [(1, .int (nI 0)), (0, .ref (zad G 30))]) rfl ?_
  exact lp_begin l G 4096 0 σ rfl (fun t ht => absurd ht (Nat.not_lt_zero t)) ⟨fun _ _ => rfl, rfl⟩
set_option maxHeartbeats 4000000 in
set_option maxRecDepth 100000 in
theorem lp_keep (l : Launch) (G : zG) {σ : zS} {r : Nat} {n u k : Int32} {D : Nat → Int32} {Fin : List Frame → Array Value → State → State → Prop} (hr : r < 8) (hD : ∀ t, t < 4096 → σ.1 33 t = D t) (K : ∀ τ : zS, zc σ τ r 4096 D → zB l G w_Mo_keep R_Mo c_Mo_keep 6 (some .int) [] (zrm 1 24) Fin 0 0 77 [(5, .int (nI 4096)), (4, .int n), (0, .ref (zad G 30)), (1, .int (nI r)), (2, .int u), (3, .int k)] [] τ) : ∀ (d i : Nat) (τ : zS), i + d = 4096 → zc σ τ r i D → zB l G w_Mo_keep R_Mo c_Mo_keep 6 (some .int) [] (zrm 1 24) Fin 0 0 43 [(5, .int (nI i)), (4, .int n), (0, .ref (zad G 30)), (1, .int (nI r)), (2, .int u), (3, .int k)] [] τ := by
  intro d
  induction d with
  | zero =>
    intro i τ hi hc
    have e : i = 4096 := by omega
    refine zb_iload d_Mo_keep_43 rfl ?_
    refine zb_sipush (v := 4096) d_Mo_keep_45 rfl ?_
    refine zb_icmp_ge (tgt := 77) d_Mo_keep_48 rfl (fun h48 => ?_) (fun h48 => absurd (nI_le (a := 4096) (b := i) (by omega) (by omega)) h48)
    refine zb_sub [0, 1, 2, 3, 4, 5] rfl ?_
    rw [e] at hc ⊢
    exact K τ hc
  | succ d ih =>
    intro i τ hi hc
    have hlt : i < 4096 := by omega
    refine zb_iload d_Mo_keep_43 rfl ?_
    refine zb_sipush (v := 4096) d_Mo_keep_45 rfl ?_
    refine zb_icmp_ge (tgt := 77) d_Mo_keep_48 rfl (fun h48 => absurd h48 (nI_ge (a := i) (b := 4096) (by omega) (by omega))) (fun h48 => ?_)
    refine zb_aload_n d_Mo_keep_51 rfl rfl ?_
    refine zm_counts d_Mo_keep_52 fl_Mo_18 ?_
    refine zb_sipush (v := 4096) d_Mo_keep_55 rfl ?_
    refine zb_iload_n d_Mo_keep_58 rfl rfl ?_
    refine zb_imul d_Mo_keep_59 ?_
    refine zb_top (y := nI (4096 * r)) (pk_mul 4096 r) ?_
    refine zb_iload d_Mo_keep_60 rfl ?_
    refine zb_iadd d_Mo_keep_62 ?_
    refine zb_top (y := nI (4096 * r + i)) (nI_add _ _) ?_
    refine zb_aload_n d_Mo_keep_63 rfl rfl ?_
    refine zm_made d_Mo_keep_64 fl_Mo_21 ?_
    refine zb_iload d_Mo_keep_67 rfl ?_
    refine zb_ialdN (q := 33) (j := i) d_Mo_keep_69 (ia33) (show i < 4096 from hlt) ?_
    refine zb_top (y := D i) (by rw [hc.2.2.1 33 (by decide)]; exact hD i hlt) ?_
    refine zb_iastN (q := 32) (j := (4096 * r + i)) d_Mo_keep_70 (ia32) (show 4096 * r + i < 32768 by omega) ?_
    refine zb_iinc (v := nI (i + 1)) (lv' := [(5, .int (nI (i + 1))), (4, .int n), (0, .ref (zad G 30)), (1, .int (nI r)), (2, .int u), (3, .int k)]) d_Mo_keep_71 rfl (nI_1 i) (by decide) rfl ?_
    refine zb_goto (tgt := 43) d_Mo_keep_74 rfl ?_
    refine zb_sub [0, 1, 2, 3, 4, 5] rfl ?_
    exact ih (i + 1) _ (by omega) (zc_s hc)
set_option maxHeartbeats 4000000 in
set_option maxRecDepth 100000 in
/-- keep, where there is room -/
theorem c_keep_y (l : Launch) (G : zG) {σ : zS} {r u : Nat} {k : Int32} {D : Nat → Int32} {M : Nat → Nat → Int32} {w : Nat → Nat} (hm : zmw σ M w) (hr : r < 8) (hD : ∀ t, t < 4096 → σ.1 33 t = D t) (hn : zct D 4096 ≤ 300) : zC l G y_Mo_keep w_Mo_keep (zrm 1 24) 0 0 [.ref (zad G 30), .int (nI r), .int (nI u), .int k] σ (fun v σ' => v = some (.int (nI (zct D 4096))) ∧ zmw σ' (uM M r D) (uM w r u) ∧ zj σ σ' ∧ σ'.1 30 = σ.1 30) := by
  refine zC_of (cc := c_Mo_keep) (nL := 6) (ret := (some .int)) (own := R_Mo) (by decide +kernel) rfl rfl (Nat.le_of_ble_eq_true rfl) ?_
  refine zb_lv (lv' := [(0, .ref (zad G 30)), (1, .int (nI r)), (2, .int (nI u)), (3, .int k)]) rfl ?_
  refine zb_aload_n d_Mo_keep_0 rfl rfl ?_
  refine zm_made d_Mo_keep_1 fl_Mo_21 ?_
  refine zb_iconst (v := 0) d_Mo_keep_4 rfl ?_
  refine zb_callS (rest := []) (c_many l G (q := 33) (f := 0) ia33 (Nat.le_refl 4096)) (lk_Mo_32.cw rfl rfl ⟨Nat.le_of_ble_eq_true rfl, Nat.le_of_ble_eq_true rfl⟩) rfl rfl (Nat.le_of_ble_eq_true rfl) d_Mo_keep_5 ⟨Nat.le_of_ble_eq_true rfl, Nat.le_of_ble_eq_true rfl⟩ ?_
  rintro _ _ ⟨rfl, rfl⟩
  refine zb_st (st' := [.int (nI (zct (fun t => σ.1 33 (0 + t)) 4096))]) rfl ?_
  refine zb_top (y := nI (zct D 4096)) (congrArg nI (zct_congr (m' := D) 4096 (fun t ht => (congrArg (σ.1 33) (Nat.zero_add t)).trans (hD t ht)))) ?_
  refine zb_istore (lv' := [(4, .int (nI (zct D 4096))), (0, .ref (zad G 30)), (1, .int (nI r)), (2, .int (nI u)), (3, .int k)]) d_Mo_keep_8 (by decide) rfl ?_
  refine zb_aload_n d_Mo_keep_10 rfl rfl ?_
  refine zb_iload_n d_Mo_keep_11 rfl rfl ?_
  refine zb_iload d_Mo_keep_12 rfl ?_
  refine zb_sipush (v := 300) d_Mo_keep_14 rfl ?_
  refine zb_icmp_le (tgt := 24) d_Mo_keep_17 rfl (fun h17 => ?_) (fun h17 => absurd (nI_le (b := 300) hn (by decide)) h17)
  refine zb_iconst (v := 0) d_Mo_keep_24 rfl ?_
  refine zb_callV (rest := []) (c_refuse_n l G) (lk_Mo_28.cw rfl rfl ⟨Nat.le_of_ble_eq_true rfl, Nat.le_of_ble_eq_true rfl⟩) zgM rfl rfl rfl rfl (Nat.le_of_ble_eq_true rfl) d_Mo_keep_25 ⟨Nat.le_of_ble_eq_true rfl, Nat.le_of_ble_eq_true rfl⟩ ?_
  rintro _ _ ⟨rfl, rfl⟩
  refine zb_st (st' := [.int 0]) rfl ?_
  refine zb_if_eq (tgt := 33) d_Mo_keep_28 rfl (fun h28 => ?_) (fun h28 => absurd rfl h28)
  refine zb_aload_n d_Mo_keep_33 rfl rfl ?_
  refine zm_width d_Mo_keep_34 fl_Mo_13 ?_
  refine zb_iload_n d_Mo_keep_37 rfl rfl ?_
  refine zb_iload_n d_Mo_keep_38 rfl rfl ?_
  refine zb_iastN (q := 31) (j := r) d_Mo_keep_39 (ia31) (show r < 8 from hr) ?_
  refine zb_iconst (v := 0) d_Mo_keep_40 rfl ?_
  refine zb_istore (lv' := [(5, .int 0), (4, .int (nI (zct D 4096))), (0, .ref (zad G 30)), (1, .int (nI r)), (2, .int (nI u)), (3, .int k)]) d_Mo_keep_41 (by decide) rfl ?_
  refine zb_lv (lv' := [(5, .int (nI 0)), (4, .int (nI (zct D 4096))), (0, .ref (zad G 30)), (1, .int (nI r)), (2, .int (nI u)), (3, .int k)]) rfl ?_
  refine zb_sub [0, 1, 2, 3, 4, 5] rfl ?_
  refine lp_keep l G (σ := zu σ 31 (upd (σ.1 31) r (nI u))) (D := D) hr (fun t ht => by rw [zu_ne σ _ (by decide)]; exact hD t ht) (fun τ hc => ?_) 4096 0 _ rfl (zc_0 _ r D)
  refine zb_iload d_Mo_keep_77 rfl ?_
  exact zb_iret d_Mo_keep_79 rfl ⟨rfl, zc_mw hm hc, zc_j hc⟩
set_option maxHeartbeats 4000000 in
set_option maxRecDepth 100000 in
/-- keep, where there is no room -/
theorem c_keep_n (l : Launch) (G : zG) {σ : zS} {r u : Nat} {k : Int32} {D : Nat → Int32}   (hD : ∀ t, t < 4096 → σ.1 33 t = D t) (hn : 300 < zct D 4096) : zC l G y_Mo_keep w_Mo_keep (zrm 1 24) 0 0 [.ref (zad G 30), .int (nI r), .int (nI u), .int k] σ (fun v σ' => v = some (.int 0) ∧ zt σ σ' k) := by
  refine zC_of (cc := c_Mo_keep) (nL := 6) (ret := (some .int)) (own := R_Mo) (by decide +kernel) rfl rfl (Nat.le_of_ble_eq_true rfl) ?_
  refine zb_lv (lv' := [(0, .ref (zad G 30)), (1, .int (nI r)), (2, .int (nI u)), (3, .int k)]) rfl ?_
  refine zb_aload_n d_Mo_keep_0 rfl rfl ?_
  refine zm_made d_Mo_keep_1 fl_Mo_21 ?_
  refine zb_iconst (v := 0) d_Mo_keep_4 rfl ?_
  refine zb_callS (rest := []) (c_many l G (q := 33) (f := 0) ia33 (Nat.le_refl 4096)) (lk_Mo_32.cw rfl rfl ⟨Nat.le_of_ble_eq_true rfl, Nat.le_of_ble_eq_true rfl⟩) rfl rfl (Nat.le_of_ble_eq_true rfl) d_Mo_keep_5 ⟨Nat.le_of_ble_eq_true rfl, Nat.le_of_ble_eq_true rfl⟩ ?_
  rintro _ _ ⟨rfl, rfl⟩
  refine zb_st (st' := [.int (nI (zct (fun t => σ.1 33 (0 + t)) 4096))]) rfl ?_
  refine zb_top (y := nI (zct D 4096)) (congrArg nI (zct_congr (m' := D) 4096 (fun t ht => (congrArg (σ.1 33) (Nat.zero_add t)).trans (hD t ht)))) ?_
  refine zb_istore (lv' := [(4, .int (nI (zct D 4096))), (0, .ref (zad G 30)), (1, .int (nI r)), (2, .int (nI u)), (3, .int k)]) d_Mo_keep_8 (by decide) rfl ?_
  refine zb_aload_n d_Mo_keep_10 rfl rfl ?_
  refine zb_iload_n d_Mo_keep_11 rfl rfl ?_
  refine zb_iload d_Mo_keep_12 rfl ?_
  refine zb_sipush (v := 300) d_Mo_keep_14 rfl ?_
  refine zb_icmp_le (tgt := 24) d_Mo_keep_17 rfl (fun h17 => absurd h17 (nI_ge (a := 300) hn (by have := zct_le D 4096; omega))) (fun h17 => ?_)
  refine zb_iconst (v := 1) d_Mo_keep_20 rfl ?_
  refine zb_goto (tgt := 25) d_Mo_keep_21 rfl ?_
  refine zb_callV (rest := []) (c_refuse_y l G) (lk_Mo_28.cw rfl rfl ⟨Nat.le_of_ble_eq_true rfl, Nat.le_of_ble_eq_true rfl⟩) zgM rfl rfl rfl rfl (Nat.le_of_ble_eq_true rfl) d_Mo_keep_25 ⟨Nat.le_of_ble_eq_true rfl, Nat.le_of_ble_eq_true rfl⟩ ?_
  rintro _ _ ⟨rfl, y9⟩
  rename_i σ9
  refine zb_st (st' := [.int 1]) rfl ?_
  refine zb_if_eq (tgt := 33) d_Mo_keep_28 rfl (fun h28 => absurd h28 (by decide)) (fun h28 => ?_)
  refine zb_iconst (v := 0) d_Mo_keep_31 rfl ?_
  exact zb_iret d_Mo_keep_32 rfl ⟨rfl, y9⟩
set_option maxHeartbeats 4000000 in
set_option maxRecDepth 100000 in
theorem c_mwidth_ns (l : Launch) (G : zG) {σ : zS} {x y : Int32} (h : ¬ zgr x) : zC l G y_Mo_width w_Mo_width (zrm 2 60) 0 0 [.ref (zad G 30), .int x, .int y] σ (fun v σ' => v = some (.int 0) ∧ zt σ σ' 1) := by
  refine zC_of (cc := c_Mo_width) (nL := 5) (ret := (some .int)) (own := R_Mo) (by decide +kernel) rfl rfl (Nat.le_of_ble_eq_true rfl) ?_
  refine zb_lv (lv' := [(0, .ref (zad G 30)), (1, .int x), (2, .int y)]) rfl ?_
  by_cases hx : zgr x
  · exact absurd hx h
  · refine zb_aload_n d_Mo_width_0 rfl rfl ?_
    refine zb_iload_n d_Mo_width_1 rfl rfl ?_
    refine zb_callV (rest := []) (c_none_y l G hx) (lk_Mo_36.cw rfl rfl ⟨Nat.le_of_ble_eq_true rfl, Nat.le_of_ble_eq_true rfl⟩) zgM rfl rfl rfl rfl (Nat.le_of_ble_eq_true rfl) d_Mo_width_2 ⟨Nat.le_of_ble_eq_true rfl, Nat.le_of_ble_eq_true rfl⟩ ?_
    rintro _ _ ⟨rfl, y9⟩
    rename_i σ9
    refine zb_st (st' := [.int 1]) rfl ?_
    refine zb_if_ne (tgt := 31) d_Mo_width_5 rfl (fun h5 => ?_) (fun h5 => absurd h5 (by decide))
    refine zb_iconst (v := 0) d_Mo_width_31 rfl ?_
    exact zb_iret d_Mo_width_32 rfl ⟨rfl, y9⟩
set_option maxHeartbeats 4000000 in
set_option maxRecDepth 100000 in
theorem c_mwidth_ia (l : Launch) (G : zG) {σ : zS} {r : Nat} {y : Int32} (hr : r < 8) (h : ¬ zgw y) : zC l G y_Mo_width w_Mo_width (zrm 2 60) 0 0 [.ref (zad G 30), .int (nI r), .int y] σ (fun v σ' => v = some (.int 0) ∧ zt σ σ' 2) := by
  refine zC_of (cc := c_Mo_width) (nL := 5) (ret := (some .int)) (own := R_Mo) (by decide +kernel) rfl rfl (Nat.le_of_ble_eq_true rfl) ?_
  refine zb_lv (lv' := [(0, .ref (zad G 30)), (1, .int (nI r)), (2, .int y)]) rfl ?_
  refine zb_aload_n d_Mo_width_0 rfl rfl ?_
  refine zb_iload_n d_Mo_width_1 rfl rfl ?_
  refine zb_callV (rest := []) (c_none_n l G hr) (lk_Mo_36.cw rfl rfl ⟨Nat.le_of_ble_eq_true rfl, Nat.le_of_ble_eq_true rfl⟩) zgM rfl rfl rfl rfl (Nat.le_of_ble_eq_true rfl) d_Mo_width_2 ⟨Nat.le_of_ble_eq_true rfl, Nat.le_of_ble_eq_true rfl⟩ ?_
  rintro _ _ ⟨rfl, y1⟩
  rename_i σ1
  have z1 : zt σ σ1 0 := y1
  refine zb_st (st' := [.int 0]) rfl ?_
  refine zb_if_ne (tgt := 31) d_Mo_width_5 rfl (fun h5 => absurd h5 (fun z => z rfl)) (fun h5 => ?_)
  refine zb_aload_n d_Mo_width_8 rfl rfl ?_
  refine zb_iconst (v := 2) d_Mo_width_9 rfl ?_
  refine zb_iload_n d_Mo_width_10 rfl rfl ?_
  refine zb_iconst (v := 1) d_Mo_width_11 rfl ?_
  refine zb_icmp_lt (tgt := 20) d_Mo_width_12 rfl (fun h12 => ?_) (fun h12 => ?_)
  · refine zb_iconst (v := 1) d_Mo_width_20 rfl ?_
    refine zb_goto (tgt := 25) d_Mo_width_21 rfl ?_
    refine zb_callV (rest := []) (c_refuse_y l G) (lk_Mo_28.cw rfl rfl ⟨Nat.le_of_ble_eq_true rfl, Nat.le_of_ble_eq_true rfl⟩) zgM rfl rfl rfl rfl (Nat.le_of_ble_eq_true rfl) d_Mo_width_25 ⟨Nat.le_of_ble_eq_true rfl, Nat.le_of_ble_eq_true rfl⟩ ?_
    rintro _ _ ⟨rfl, y9⟩
    rename_i σ9
    refine zb_st (st' := [.int 1]) rfl ?_
    refine zb_if_eq (tgt := 33) d_Mo_width_28 rfl (fun h28 => absurd h28 (by decide)) (fun h28 => ?_)
    refine zb_iconst (v := 0) d_Mo_width_31 rfl ?_
    exact zb_iret d_Mo_width_32 rfl ⟨rfl, z1.tr y9⟩
  · refine zb_iload_n d_Mo_width_15 rfl rfl ?_
    refine zb_iconst (v := 3) d_Mo_width_16 rfl ?_
    refine zb_icmp_le (tgt := 24) d_Mo_width_17 rfl (fun h17 => absurd h17 (fun z => h (zgw_of h12 (Int32.not_lt.mpr z)))) (fun h17 => ?_)
    refine zb_iconst (v := 1) d_Mo_width_20 rfl ?_
    refine zb_goto (tgt := 25) d_Mo_width_21 rfl ?_
    refine zb_callV (rest := []) (c_refuse_y l G) (lk_Mo_28.cw rfl rfl ⟨Nat.le_of_ble_eq_true rfl, Nat.le_of_ble_eq_true rfl⟩) zgM rfl rfl rfl rfl (Nat.le_of_ble_eq_true rfl) d_Mo_width_25 ⟨Nat.le_of_ble_eq_true rfl, Nat.le_of_ble_eq_true rfl⟩ ?_
    rintro _ _ ⟨rfl, y9⟩
    rename_i σ9
    refine zb_st (st' := [.int 1]) rfl ?_
    refine zb_if_eq (tgt := 33) d_Mo_width_28 rfl (fun h28 => absurd h28 (by decide)) (fun h28 => ?_)
    refine zb_iconst (v := 0) d_Mo_width_31 rfl ?_
    exact zb_iret d_Mo_width_32 rfl ⟨rfl, z1.tr y9⟩
set_option maxHeartbeats 4000000 in
set_option maxRecDepth 100000 in
theorem lp_mwidth (l : Launch) (G : zG) {σ : zS} {r : Nat} {n u : Int32} {Fin : List Frame → Array Value → State → State → Prop} (hr : r < 8) (K : ∀ τ : zS, zc σ τ r 4096 (fun _ => 0) → zB l G w_Mo_width R_Mo c_Mo_width 5 (some .int) [] (zrm 2 60) Fin 0 0 77 [(4, .int (nI 4096)), (3, .int n), (0, .ref (zad G 30)), (1, .int (nI r)), (2, .int u)] [] τ) : ∀ (d i : Nat) (τ : zS), i + d = 4096 → zc σ τ r i (fun _ => 0) → zB l G w_Mo_width R_Mo c_Mo_width 5 (some .int) [] (zrm 2 60) Fin 0 0 49 [(4, .int (nI i)), (3, .int n), (0, .ref (zad G 30)), (1, .int (nI r)), (2, .int u)] [] τ := by
  intro d
  induction d with
  | zero =>
    intro i τ hi hc
    have e : i = 4096 := by omega
    refine zb_iload d_Mo_width_49 rfl ?_
    refine zb_sipush (v := 4096) d_Mo_width_51 rfl ?_
    refine zb_icmp_ge (tgt := 77) d_Mo_width_54 rfl (fun h54 => ?_) (fun h54 => absurd (nI_le (a := 4096) (b := i) (by omega) (by omega)) h54)
    refine zb_sub [0, 1, 2, 3, 4] rfl ?_
    rw [e] at hc ⊢
    exact K τ hc
  | succ d ih =>
    intro i τ hi hc
    have hlt : i < 4096 := by omega
    refine zb_iload d_Mo_width_49 rfl ?_
    refine zb_sipush (v := 4096) d_Mo_width_51 rfl ?_
    refine zb_icmp_ge (tgt := 77) d_Mo_width_54 rfl (fun h54 => absurd h54 (nI_ge (a := i) (b := 4096) (by omega) (by omega))) (fun h54 => ?_)
    refine zb_aload_n d_Mo_width_57 rfl rfl ?_
    refine zm_counts d_Mo_width_58 fl_Mo_18 ?_
    refine zb_sipush (v := 4096) d_Mo_width_61 rfl ?_
    refine zb_iload_n d_Mo_width_64 rfl rfl ?_
    refine zb_imul d_Mo_width_65 ?_
    refine zb_top (y := nI (4096 * r)) (pk_mul 4096 r) ?_
    refine zb_iload d_Mo_width_66 rfl ?_
    refine zb_iadd d_Mo_width_68 ?_
    refine zb_top (y := nI (4096 * r + i)) (nI_add _ _) ?_
    refine zb_iconst (v := 0) d_Mo_width_69 rfl ?_
    refine zb_iastN (q := 32) (j := (4096 * r + i)) d_Mo_width_70 (ia32) (show 4096 * r + i < 32768 by omega) ?_
    refine zb_iinc (v := nI (i + 1)) (lv' := [(4, .int (nI (i + 1))), (3, .int n), (0, .ref (zad G 30)), (1, .int (nI r)), (2, .int u)]) d_Mo_width_71 rfl (nI_1 i) (by decide) rfl ?_
    refine zb_goto (tgt := 49) d_Mo_width_74 rfl ?_
    refine zb_sub [0, 1, 2, 3, 4] rfl ?_
    exact ih (i + 1) _ (by omega) (zc_s hc)
set_option maxHeartbeats 4000000 in
set_option maxRecDepth 100000 in
/-- width(r, w) -/
theorem c_mwidth (l : Launch) (G : zG) {σ : zS} {r u : Nat} {M : Nat → Nat → Int32} {w : Nat → Nat} (hm : zmw σ M w) (hr : r < 8) (h1 : 1 ≤ u) (h3 : u ≤ 3) : zC l G y_Mo_width w_Mo_width (zrm 2 60) 0 0 [.ref (zad G 30), .int (nI r), .int (nI u)] σ (fun v σ' => v = some (.int (nI (zct (M r) 4096))) ∧ σ'.1 30 0 = 0 ∧ zmw σ' (uM M r (fun _ => 0)) (uM w r u) ∧ zj σ σ') := by
  refine zC_of (cc := c_Mo_width) (nL := 5) (ret := (some .int)) (own := R_Mo) (by decide +kernel) rfl rfl (Nat.le_of_ble_eq_true rfl) ?_
  refine zb_lv (lv' := [(0, .ref (zad G 30)), (1, .int (nI r)), (2, .int (nI u))]) rfl ?_
  refine zb_aload_n d_Mo_width_0 rfl rfl ?_
  refine zb_iload_n d_Mo_width_1 rfl rfl ?_
  refine zb_callV (rest := []) (c_none_n l G hr) (lk_Mo_36.cw rfl rfl ⟨Nat.le_of_ble_eq_true rfl, Nat.le_of_ble_eq_true rfl⟩) zgM rfl rfl rfl rfl (Nat.le_of_ble_eq_true rfl) d_Mo_width_2 ⟨Nat.le_of_ble_eq_true rfl, Nat.le_of_ble_eq_true rfl⟩ ?_
  rintro _ _ ⟨rfl, y1⟩
  rename_i σ1
  have z1 : zt σ σ1 0 := y1
  refine zb_st (st' := [.int 0]) rfl ?_
  refine zb_if_ne (tgt := 31) d_Mo_width_5 rfl (fun h5 => absurd h5 (fun z => z rfl)) (fun h5 => ?_)
  refine zb_aload_n d_Mo_width_8 rfl rfl ?_
  refine zb_iconst (v := 2) d_Mo_width_9 rfl ?_
  refine zb_iload_n d_Mo_width_10 rfl rfl ?_
  refine zb_iconst (v := 1) d_Mo_width_11 rfl ?_
  refine zb_icmp_lt (tgt := 20) d_Mo_width_12 rfl (fun h12 => absurd h12 (nI_nlt (b := 1) h1 (by omega))) (fun h12 => ?_)
  refine zb_iload_n d_Mo_width_15 rfl rfl ?_
  refine zb_iconst (v := 3) d_Mo_width_16 rfl ?_
  refine zb_icmp_le (tgt := 24) d_Mo_width_17 rfl (fun h17 => ?_) (fun h17 => absurd (nI_le (b := 3) h3 (by decide)) h17)
  refine zb_iconst (v := 0) d_Mo_width_24 rfl ?_
  refine zb_callV (rest := []) (c_refuse_n l G) (lk_Mo_28.cw rfl rfl ⟨Nat.le_of_ble_eq_true rfl, Nat.le_of_ble_eq_true rfl⟩) zgM rfl rfl rfl rfl (Nat.le_of_ble_eq_true rfl) d_Mo_width_25 ⟨Nat.le_of_ble_eq_true rfl, Nat.le_of_ble_eq_true rfl⟩ ?_
  rintro _ _ ⟨rfl, rfl⟩
  refine zb_st (st' := [.int 0]) rfl ?_
  refine zb_if_eq (tgt := 33) d_Mo_width_28 rfl (fun h28 => ?_) (fun h28 => absurd rfl h28)
  refine zb_aload_n d_Mo_width_33 rfl rfl ?_
  refine zb_iload_n d_Mo_width_34 rfl rfl ?_
  refine zb_callV (rest := []) (c_in l G (z1.mw hm) hr) (lk_Mo_40.cw rfl rfl ⟨Nat.le_of_ble_eq_true rfl, Nat.le_of_ble_eq_true rfl⟩) zgM rfl rfl rfl rfl (Nat.le_of_ble_eq_true rfl) d_Mo_width_35 ⟨Nat.le_of_ble_eq_true rfl, Nat.le_of_ble_eq_true rfl⟩ ?_
  rintro _ _ ⟨rfl, rfl⟩
  refine zb_st (st' := [.int (nI (zct (M r) 4096))]) rfl ?_
  refine zb_istore_n (lv' := [(3, .int (nI (zct (M r) 4096))), (0, .ref (zad G 30)), (1, .int (nI r)), (2, .int (nI u))]) d_Mo_width_38 rfl (by decide) rfl ?_
  refine zb_aload_n d_Mo_width_39 rfl rfl ?_
  refine zm_width d_Mo_width_40 fl_Mo_13 ?_
  refine zb_iload_n d_Mo_width_43 rfl rfl ?_
  refine zb_iload_n d_Mo_width_44 rfl rfl ?_
  refine zb_iastN (q := 31) (j := r) d_Mo_width_45 (ia31) (show r < 8 from hr) ?_
  refine zb_iconst (v := 0) d_Mo_width_46 rfl ?_
  refine zb_istore (lv' := [(4, .int 0), (3, .int (nI (zct (M r) 4096))), (0, .ref (zad G 30)), (1, .int (nI r)), (2, .int (nI u))]) d_Mo_width_47 (by decide) rfl ?_
  refine zb_lv (lv' := [(4, .int (nI 0)), (3, .int (nI (zct (M r) 4096))), (0, .ref (zad G 30)), (1, .int (nI r)), (2, .int (nI u))]) rfl ?_
  refine zb_sub [0, 1, 2, 3, 4] rfl ?_
  refine lp_mwidth l G (σ := zu σ1 31 (upd (σ1.1 31) r (nI u))) hr (fun τ hc => ?_) 4096 0 _ rfl (zc_0 _ r _)
  refine zb_iload_n d_Mo_width_77 rfl rfl ?_
  exact zb_iret d_Mo_width_78 rfl ⟨rfl, by rw [(zc_j hc).2]; exact z1.1, zc_mw (z1.mw hm) hc, z1.j.tr (zc_j hc).1⟩
set_option maxHeartbeats 4000000 in
set_option maxRecDepth 100000 in
theorem c_mcount_ns (l : Launch) (G : zG) {σ : zS} {x y : Int32} (h : ¬ zgr x) : zC l G y_Mo_count w_Mo_count (zrm 2 60) 0 0 [.ref (zad G 30), .int x, .int y] σ (fun v σ' => v = some (.int 0) ∧ zt σ σ' 1) := by
  refine zC_of (cc := c_Mo_count) (nL := 3) (ret := (some .int)) (own := R_Mo) (by decide +kernel) rfl rfl (Nat.le_of_ble_eq_true rfl) ?_
  refine zb_lv (lv' := [(0, .ref (zad G 30)), (1, .int x), (2, .int y)]) rfl ?_
  by_cases hx : zgr x
  · exact absurd hx h
  · refine zb_aload_n d_Mo_count_0 rfl rfl ?_
    refine zb_iload_n d_Mo_count_1 rfl rfl ?_
    refine zb_callV (rest := []) (c_none_y l G hx) (lk_Mo_36.cw rfl rfl ⟨Nat.le_of_ble_eq_true rfl, Nat.le_of_ble_eq_true rfl⟩) zgM rfl rfl rfl rfl (Nat.le_of_ble_eq_true rfl) d_Mo_count_2 ⟨Nat.le_of_ble_eq_true rfl, Nat.le_of_ble_eq_true rfl⟩ ?_
    rintro _ _ ⟨rfl, y9⟩
    rename_i σ9
    refine zb_st (st' := [.int 1]) rfl ?_
    refine zb_if_ne (tgt := 34) d_Mo_count_5 rfl (fun h5 => ?_) (fun h5 => absurd h5 (by decide))
    refine zb_iconst (v := 0) d_Mo_count_34 rfl ?_
    exact zb_iret d_Mo_count_35 rfl ⟨rfl, y9⟩
set_option maxHeartbeats 4000000 in
set_option maxRecDepth 100000 in
theorem c_mcount_ia (l : Launch) (G : zG) {σ : zS} {r : Nat} {y : Int32} {M : Nat → Nat → Int32} {w : Nat → Nat} (hm : zmw σ M w) (hr : r < 8) (h1 : 1 ≤ w r) (h3 : w r ≤ 3) (ht : ¬ ztp y (w r)) : zC l G y_Mo_count w_Mo_count (zrm 2 60) 0 0 [.ref (zad G 30), .int (nI r), .int y] σ (fun v σ' => v = some (.int 0) ∧ zt σ σ' 2) := by
  refine zC_of (cc := c_Mo_count) (nL := 3) (ret := (some .int)) (own := R_Mo) (by decide +kernel) rfl rfl (Nat.le_of_ble_eq_true rfl) ?_
  refine zb_lv (lv' := [(0, .ref (zad G 30)), (1, .int (nI r)), (2, .int y)]) rfl ?_
  refine zb_aload_n d_Mo_count_0 rfl rfl ?_
  refine zb_iload_n d_Mo_count_1 rfl rfl ?_
  refine zb_callV (rest := []) (c_none_n l G hr) (lk_Mo_36.cw rfl rfl ⟨Nat.le_of_ble_eq_true rfl, Nat.le_of_ble_eq_true rfl⟩) zgM rfl rfl rfl rfl (Nat.le_of_ble_eq_true rfl) d_Mo_count_2 ⟨Nat.le_of_ble_eq_true rfl, Nat.le_of_ble_eq_true rfl⟩ ?_
  rintro _ _ ⟨rfl, y1⟩
  rename_i σ1
  have z1 : zt σ σ1 0 := y1
  refine zb_st (st' := [.int 0]) rfl ?_
  refine zb_if_ne (tgt := 34) d_Mo_count_5 rfl (fun h5 => absurd h5 (fun z => z rfl)) (fun h5 => ?_)
  refine zb_aload_n d_Mo_count_8 rfl rfl ?_
  refine zb_iconst (v := 2) d_Mo_count_9 rfl ?_
  refine zb_iload_n d_Mo_count_10 rfl rfl ?_
  refine zb_aload_n d_Mo_count_11 rfl rfl ?_
  refine zm_width d_Mo_count_12 fl_Mo_13 ?_
  refine zb_iload_n d_Mo_count_15 rfl rfl ?_
  refine zb_ialdN (q := 31) (j := r) d_Mo_count_16 (ia31) (show r < 8 from hr) ?_
  refine zb_top (y := nI (w r)) ((z1.mw hm).1 r hr) ?_
  refine zb_callS (rest := [.int 2, .ref (zad G 30)]) (c_mT_n l G h1 h3 ht) (lk_Mo_44.cw rfl rfl ⟨Nat.le_of_ble_eq_true rfl, Nat.le_of_ble_eq_true rfl⟩) rfl rfl (Nat.le_of_ble_eq_true rfl) d_Mo_count_17 ⟨Nat.le_of_ble_eq_true rfl, Nat.le_of_ble_eq_true rfl⟩ ?_
  rintro _ _ ⟨rfl, rfl⟩
  refine zb_st (st' := [.int 0, .int 2, .ref (zad G 30)]) rfl ?_
  refine zb_if_ne (tgt := 27) d_Mo_count_20 rfl (fun h20 => absurd h20 (fun z => z rfl)) (fun h20 => ?_)
  refine zb_iconst (v := 1) d_Mo_count_23 rfl ?_
  refine zb_goto (tgt := 28) d_Mo_count_24 rfl ?_
  refine zb_callV (rest := []) (c_refuse_y l G) (lk_Mo_28.cw rfl rfl ⟨Nat.le_of_ble_eq_true rfl, Nat.le_of_ble_eq_true rfl⟩) zgM rfl rfl rfl rfl (Nat.le_of_ble_eq_true rfl) d_Mo_count_28 ⟨Nat.le_of_ble_eq_true rfl, Nat.le_of_ble_eq_true rfl⟩ ?_
  rintro _ _ ⟨rfl, y9⟩
  rename_i σ9
  refine zb_st (st' := [.int 1]) rfl ?_
  refine zb_if_eq (tgt := 36) d_Mo_count_31 rfl (fun h31 => absurd h31 (by decide)) (fun h31 => ?_)
  refine zb_iconst (v := 0) d_Mo_count_34 rfl ?_
  exact zb_iret d_Mo_count_35 rfl ⟨rfl, z1.tr y9⟩
set_option maxHeartbeats 4000000 in
set_option maxRecDepth 100000 in
/-- count(r, t) -/
theorem c_mcount (l : Launch) (G : zG) {σ : zS} {r t : Nat} {M : Nat → Nat → Int32} {w : Nat → Nat} (hm : zmw σ M w) (hr : r < 8) (h1 : 1 ≤ w r) (h3 : w r ≤ 3) (ht : t < 4096) (hd : t % 2 ^ (12 - 4 * w r) = 0) : zC l G y_Mo_count w_Mo_count (zrm 2 60) 0 0 [.ref (zad G 30), .int (nI r), .int (nI t)] σ (fun v σ' => v = some (.int (M r t)) ∧ zt σ σ' 0) := by
  refine zC_of (cc := c_Mo_count) (nL := 3) (ret := (some .int)) (own := R_Mo) (by decide +kernel) rfl rfl (Nat.le_of_ble_eq_true rfl) ?_
  refine zb_lv (lv' := [(0, .ref (zad G 30)), (1, .int (nI r)), (2, .int (nI t))]) rfl ?_
  refine zb_aload_n d_Mo_count_0 rfl rfl ?_
  refine zb_iload_n d_Mo_count_1 rfl rfl ?_
  refine zb_callV (rest := []) (c_none_n l G hr) (lk_Mo_36.cw rfl rfl ⟨Nat.le_of_ble_eq_true rfl, Nat.le_of_ble_eq_true rfl⟩) zgM rfl rfl rfl rfl (Nat.le_of_ble_eq_true rfl) d_Mo_count_2 ⟨Nat.le_of_ble_eq_true rfl, Nat.le_of_ble_eq_true rfl⟩ ?_
  rintro _ _ ⟨rfl, y1⟩
  rename_i σ1
  have z1 : zt σ σ1 0 := y1
  refine zb_st (st' := [.int 0]) rfl ?_
  refine zb_if_ne (tgt := 34) d_Mo_count_5 rfl (fun h5 => absurd h5 (fun z => z rfl)) (fun h5 => ?_)
  refine zb_aload_n d_Mo_count_8 rfl rfl ?_
  refine zb_iconst (v := 2) d_Mo_count_9 rfl ?_
  refine zb_iload_n d_Mo_count_10 rfl rfl ?_
  refine zb_aload_n d_Mo_count_11 rfl rfl ?_
  refine zm_width d_Mo_count_12 fl_Mo_13 ?_
  refine zb_iload_n d_Mo_count_15 rfl rfl ?_
  refine zb_ialdN (q := 31) (j := r) d_Mo_count_16 (ia31) (show r < 8 from hr) ?_
  refine zb_top (y := nI (w r)) ((z1.mw hm).1 r hr) ?_
  refine zb_callS (rest := [.int 2, .ref (zad G 30)]) (c_mT_y l G h1 h3 ht hd) (lk_Mo_44.cw rfl rfl ⟨Nat.le_of_ble_eq_true rfl, Nat.le_of_ble_eq_true rfl⟩) rfl rfl (Nat.le_of_ble_eq_true rfl) d_Mo_count_17 ⟨Nat.le_of_ble_eq_true rfl, Nat.le_of_ble_eq_true rfl⟩ ?_
  rintro _ _ ⟨rfl, rfl⟩
  refine zb_st (st' := [.int 1, .int 2, .ref (zad G 30)]) rfl ?_
  refine zb_if_ne (tgt := 27) d_Mo_count_20 rfl (fun h20 => ?_) (fun h20 => absurd h20 (by decide))
  refine zb_iconst (v := 0) d_Mo_count_27 rfl ?_
  refine zb_callV (rest := []) (c_refuse_n l G) (lk_Mo_28.cw rfl rfl ⟨Nat.le_of_ble_eq_true rfl, Nat.le_of_ble_eq_true rfl⟩) zgM rfl rfl rfl rfl (Nat.le_of_ble_eq_true rfl) d_Mo_count_28 ⟨Nat.le_of_ble_eq_true rfl, Nat.le_of_ble_eq_true rfl⟩ ?_
  rintro _ _ ⟨rfl, rfl⟩
  refine zb_st (st' := [.int 0]) rfl ?_
  refine zb_if_eq (tgt := 36) d_Mo_count_31 rfl (fun h31 => ?_) (fun h31 => absurd rfl h31)
  refine zb_aload_n d_Mo_count_36 rfl rfl ?_
  refine zb_iload_n d_Mo_count_37 rfl rfl ?_
  refine zb_iload_n d_Mo_count_38 rfl rfl ?_
  refine zb_callV (rest := []) (c_of l G (z1.mw hm) hr ht) (lk_Mo_48.cw rfl rfl ⟨Nat.le_of_ble_eq_true rfl, Nat.le_of_ble_eq_true rfl⟩) zgM rfl rfl rfl rfl (Nat.le_of_ble_eq_true rfl) d_Mo_count_39 ⟨Nat.le_of_ble_eq_true rfl, Nat.le_of_ble_eq_true rfl⟩ ?_
  rintro _ _ ⟨rfl, rfl⟩
  refine zb_st (st' := [.int (M r t)]) rfl ?_
  exact zb_iret d_Mo_count_42 rfl ⟨rfl, z1⟩
set_option maxHeartbeats 4000000 in
set_option maxRecDepth 100000 in
theorem c_mput_ns (l : Launch) (G : zG) {σ : zS} {x y : Int32} {b : Int32} (h : ¬ zgr x) : zC l G y_Mo_put w_Mo_put (zrm 2 60) 0 0 [.ref (zad G 30), .int x, .int y, .int b] σ (fun v σ' => v = some (.int 0) ∧ zt σ σ' 1) := by
  refine zC_of (cc := c_Mo_put) (nL := 5) (ret := (some .int)) (own := R_Mo) (by decide +kernel) rfl rfl (Nat.le_of_ble_eq_true rfl) ?_
  refine zb_lv (lv' := [(0, .ref (zad G 30)), (1, .int x), (2, .int y), (3, .int b)]) rfl ?_
  by_cases hx : zgr x
  · exact absurd hx h
  · refine zb_aload_n d_Mo_put_0 rfl rfl ?_
    refine zb_iload_n d_Mo_put_1 rfl rfl ?_
    refine zb_callV (rest := []) (c_none_y l G hx) (lk_Mo_36.cw rfl rfl ⟨Nat.le_of_ble_eq_true rfl, Nat.le_of_ble_eq_true rfl⟩) zgM rfl rfl rfl rfl (Nat.le_of_ble_eq_true rfl) d_Mo_put_2 ⟨Nat.le_of_ble_eq_true rfl, Nat.le_of_ble_eq_true rfl⟩ ?_
    rintro _ _ ⟨rfl, y9⟩
    rename_i σ9
    refine zb_st (st' := [.int 1]) rfl ?_
    refine zb_if_ne (tgt := 34) d_Mo_put_5 rfl (fun h5 => ?_) (fun h5 => absurd h5 (by decide))
    refine zb_iconst (v := 0) d_Mo_put_34 rfl ?_
    exact zb_iret d_Mo_put_35 rfl ⟨rfl, y9⟩
set_option maxHeartbeats 4000000 in
set_option maxRecDepth 100000 in
theorem c_mput_ia (l : Launch) (G : zG) {σ : zS} {r : Nat} {y : Int32} {b : Int32} {M : Nat → Nat → Int32} {w : Nat → Nat} (hm : zmw σ M w) (hr : r < 8) (h1 : 1 ≤ w r) (h3 : w r ≤ 3) (ht : ¬ ztp y (w r)) : zC l G y_Mo_put w_Mo_put (zrm 2 60) 0 0 [.ref (zad G 30), .int (nI r), .int y, .int b] σ (fun v σ' => v = some (.int 0) ∧ zt σ σ' 2) := by
  refine zC_of (cc := c_Mo_put) (nL := 5) (ret := (some .int)) (own := R_Mo) (by decide +kernel) rfl rfl (Nat.le_of_ble_eq_true rfl) ?_
  refine zb_lv (lv' := [(0, .ref (zad G 30)), (1, .int (nI r)), (2, .int y), (3, .int b)]) rfl ?_
  refine zb_aload_n d_Mo_put_0 rfl rfl ?_
  refine zb_iload_n d_Mo_put_1 rfl rfl ?_
  refine zb_callV (rest := []) (c_none_n l G hr) (lk_Mo_36.cw rfl rfl ⟨Nat.le_of_ble_eq_true rfl, Nat.le_of_ble_eq_true rfl⟩) zgM rfl rfl rfl rfl (Nat.le_of_ble_eq_true rfl) d_Mo_put_2 ⟨Nat.le_of_ble_eq_true rfl, Nat.le_of_ble_eq_true rfl⟩ ?_
  rintro _ _ ⟨rfl, y1⟩
  rename_i σ1
  have z1 : zt σ σ1 0 := y1
  refine zb_st (st' := [.int 0]) rfl ?_
  refine zb_if_ne (tgt := 34) d_Mo_put_5 rfl (fun h5 => absurd h5 (fun z => z rfl)) (fun h5 => ?_)
  refine zb_aload_n d_Mo_put_8 rfl rfl ?_
  refine zb_iconst (v := 2) d_Mo_put_9 rfl ?_
  refine zb_iload_n d_Mo_put_10 rfl rfl ?_
  refine zb_aload_n d_Mo_put_11 rfl rfl ?_
  refine zm_width d_Mo_put_12 fl_Mo_13 ?_
  refine zb_iload_n d_Mo_put_15 rfl rfl ?_
  refine zb_ialdN (q := 31) (j := r) d_Mo_put_16 (ia31) (show r < 8 from hr) ?_
  refine zb_top (y := nI (w r)) ((z1.mw hm).1 r hr) ?_
  refine zb_callS (rest := [.int 2, .ref (zad G 30)]) (c_mT_n l G h1 h3 ht) (lk_Mo_44.cw rfl rfl ⟨Nat.le_of_ble_eq_true rfl, Nat.le_of_ble_eq_true rfl⟩) rfl rfl (Nat.le_of_ble_eq_true rfl) d_Mo_put_17 ⟨Nat.le_of_ble_eq_true rfl, Nat.le_of_ble_eq_true rfl⟩ ?_
  rintro _ _ ⟨rfl, rfl⟩
  refine zb_st (st' := [.int 0, .int 2, .ref (zad G 30)]) rfl ?_
  refine zb_if_ne (tgt := 27) d_Mo_put_20 rfl (fun h20 => absurd h20 (fun z => z rfl)) (fun h20 => ?_)
  refine zb_iconst (v := 1) d_Mo_put_23 rfl ?_
  refine zb_goto (tgt := 28) d_Mo_put_24 rfl ?_
  refine zb_callV (rest := []) (c_refuse_y l G) (lk_Mo_28.cw rfl rfl ⟨Nat.le_of_ble_eq_true rfl, Nat.le_of_ble_eq_true rfl⟩) zgM rfl rfl rfl rfl (Nat.le_of_ble_eq_true rfl) d_Mo_put_28 ⟨Nat.le_of_ble_eq_true rfl, Nat.le_of_ble_eq_true rfl⟩ ?_
  rintro _ _ ⟨rfl, y9⟩
  rename_i σ9
  refine zb_st (st' := [.int 1]) rfl ?_
  refine zb_if_eq (tgt := 36) d_Mo_put_31 rfl (fun h31 => absurd h31 (by decide)) (fun h31 => ?_)
  refine zb_iconst (v := 0) d_Mo_put_34 rfl ?_
  exact zb_iret d_Mo_put_35 rfl ⟨rfl, z1.tr y9⟩
set_option maxHeartbeats 4000000 in
set_option maxRecDepth 100000 in
theorem c_mput_is (l : Launch) (G : zG) {σ : zS} {r t : Nat} {b : Int32} {M : Nat → Nat → Int32} {w : Nat → Nat} (hm : zmw σ M w) (hr : r < 8) (h1 : 1 ≤ w r) (h3 : w r ≤ 3) (ht : t < 4096) (hd : t % 2 ^ (12 - 4 * w r) = 0) (h0 : M r t = 0) (hb : ¬ M r t + b = 0) (hn : zct (M r) 4096 = 300) : zC l G y_Mo_put w_Mo_put (zrm 2 60) 0 0 [.ref (zad G 30), .int (nI r), .int (nI t), .int b] σ (fun v σ' => v = some (.int 0) ∧ zt σ σ' 3) := by
  refine zC_of (cc := c_Mo_put) (nL := 5) (ret := (some .int)) (own := R_Mo) (by decide +kernel) rfl rfl (Nat.le_of_ble_eq_true rfl) ?_
  refine zb_lv (lv' := [(0, .ref (zad G 30)), (1, .int (nI r)), (2, .int (nI t)), (3, .int b)]) rfl ?_
  refine zb_aload_n d_Mo_put_0 rfl rfl ?_
  refine zb_iload_n d_Mo_put_1 rfl rfl ?_
  refine zb_callV (rest := []) (c_none_n l G hr) (lk_Mo_36.cw rfl rfl ⟨Nat.le_of_ble_eq_true rfl, Nat.le_of_ble_eq_true rfl⟩) zgM rfl rfl rfl rfl (Nat.le_of_ble_eq_true rfl) d_Mo_put_2 ⟨Nat.le_of_ble_eq_true rfl, Nat.le_of_ble_eq_true rfl⟩ ?_
  rintro _ _ ⟨rfl, y1⟩
  rename_i σ1
  have z1 : zt σ σ1 0 := y1
  refine zb_st (st' := [.int 0]) rfl ?_
  refine zb_if_ne (tgt := 34) d_Mo_put_5 rfl (fun h5 => absurd h5 (fun z => z rfl)) (fun h5 => ?_)
  refine zb_aload_n d_Mo_put_8 rfl rfl ?_
  refine zb_iconst (v := 2) d_Mo_put_9 rfl ?_
  refine zb_iload_n d_Mo_put_10 rfl rfl ?_
  refine zb_aload_n d_Mo_put_11 rfl rfl ?_
  refine zm_width d_Mo_put_12 fl_Mo_13 ?_
  refine zb_iload_n d_Mo_put_15 rfl rfl ?_
  refine zb_ialdN (q := 31) (j := r) d_Mo_put_16 (ia31) (show r < 8 from hr) ?_
  refine zb_top (y := nI (w r)) ((z1.mw hm).1 r hr) ?_
  refine zb_callS (rest := [.int 2, .ref (zad G 30)]) (c_mT_y l G h1 h3 ht hd) (lk_Mo_44.cw rfl rfl ⟨Nat.le_of_ble_eq_true rfl, Nat.le_of_ble_eq_true rfl⟩) rfl rfl (Nat.le_of_ble_eq_true rfl) d_Mo_put_17 ⟨Nat.le_of_ble_eq_true rfl, Nat.le_of_ble_eq_true rfl⟩ ?_
  rintro _ _ ⟨rfl, rfl⟩
  refine zb_st (st' := [.int 1, .int 2, .ref (zad G 30)]) rfl ?_
  refine zb_if_ne (tgt := 27) d_Mo_put_20 rfl (fun h20 => ?_) (fun h20 => absurd h20 (by decide))
  refine zb_iconst (v := 0) d_Mo_put_27 rfl ?_
  refine zb_callV (rest := []) (c_refuse_n l G) (lk_Mo_28.cw rfl rfl ⟨Nat.le_of_ble_eq_true rfl, Nat.le_of_ble_eq_true rfl⟩) zgM rfl rfl rfl rfl (Nat.le_of_ble_eq_true rfl) d_Mo_put_28 ⟨Nat.le_of_ble_eq_true rfl, Nat.le_of_ble_eq_true rfl⟩ ?_
  rintro _ _ ⟨rfl, rfl⟩
  refine zb_st (st' := [.int 0]) rfl ?_
  refine zb_if_eq (tgt := 36) d_Mo_put_31 rfl (fun h31 => ?_) (fun h31 => absurd rfl h31)
  refine zb_aload_n d_Mo_put_36 rfl rfl ?_
  refine zb_iload_n d_Mo_put_37 rfl rfl ?_
  refine zb_iload_n d_Mo_put_38 rfl rfl ?_
  refine zb_callV (rest := []) (c_of l G (z1.mw hm) hr ht) (lk_Mo_48.cw rfl rfl ⟨Nat.le_of_ble_eq_true rfl, Nat.le_of_ble_eq_true rfl⟩) zgM rfl rfl rfl rfl (Nat.le_of_ble_eq_true rfl) d_Mo_put_39 ⟨Nat.le_of_ble_eq_true rfl, Nat.le_of_ble_eq_true rfl⟩ ?_
  rintro _ _ ⟨rfl, rfl⟩
  refine zb_st (st' := [.int (M r t)]) rfl ?_
  refine zb_iload_n d_Mo_put_42 rfl rfl ?_
  refine zb_iadd d_Mo_put_43 ?_
  refine zb_istore (lv' := [(4, .int ((M r t) + b)), (0, .ref (zad G 30)), (1, .int (nI r)), (2, .int (nI t)), (3, .int b)]) d_Mo_put_44 (by decide) rfl ?_
  refine zb_aload_n d_Mo_put_46 rfl rfl ?_
  refine zb_iconst (v := 3) d_Mo_put_47 rfl ?_
  refine zb_aload_n d_Mo_put_48 rfl rfl ?_
  refine zb_iload_n d_Mo_put_49 rfl rfl ?_
  refine zb_iload_n d_Mo_put_50 rfl rfl ?_
  refine zb_callV (rest := [.int 3, .ref (zad G 30)]) (c_of l G (z1.mw hm) hr ht) (lk_Mo_48.cw rfl rfl ⟨Nat.le_of_ble_eq_true rfl, Nat.le_of_ble_eq_true rfl⟩) zgM rfl rfl rfl rfl (Nat.le_of_ble_eq_true rfl) d_Mo_put_51 ⟨Nat.le_of_ble_eq_true rfl, Nat.le_of_ble_eq_true rfl⟩ ?_
  rintro _ _ ⟨rfl, rfl⟩
  refine zb_st (st' := [.int (M r t), .int 3, .ref (zad G 30)]) rfl ?_
  refine zb_if_ne (tgt := 77) d_Mo_put_54 rfl (fun h54 => absurd h54 (fun z => z h0)) (fun h54 => ?_)
  refine zb_iload d_Mo_put_57 rfl ?_
  refine zb_if_eq (tgt := 77) d_Mo_put_59 rfl (fun h59 => absurd h59 hb) (fun h59 => ?_)
  refine zb_aload_n d_Mo_put_62 rfl rfl ?_
  refine zb_iload_n d_Mo_put_63 rfl rfl ?_
  refine zb_callV (rest := [.int 3, .ref (zad G 30)]) (c_in l G (z1.mw hm) hr) (lk_Mo_40.cw rfl rfl ⟨Nat.le_of_ble_eq_true rfl, Nat.le_of_ble_eq_true rfl⟩) zgM rfl rfl rfl rfl (Nat.le_of_ble_eq_true rfl) d_Mo_put_64 ⟨Nat.le_of_ble_eq_true rfl, Nat.le_of_ble_eq_true rfl⟩ ?_
  rintro _ _ ⟨rfl, rfl⟩
  refine zb_st (st' := [.int (nI (zct (M r) 4096)), .int 3, .ref (zad G 30)]) rfl ?_
  refine zb_sipush (v := 300) d_Mo_put_67 rfl ?_
  refine zb_icmp_ne (tgt := 77) d_Mo_put_70 rfl (fun h70 => absurd h70 (fun z => z (by rw [hn]; rfl))) (fun h70 => ?_)
  refine zb_iconst (v := 1) d_Mo_put_73 rfl ?_
  refine zb_goto (tgt := 78) d_Mo_put_74 rfl ?_
  refine zb_callV (rest := []) (c_refuse_y l G) (lk_Mo_28.cw rfl rfl ⟨Nat.le_of_ble_eq_true rfl, Nat.le_of_ble_eq_true rfl⟩) zgM rfl rfl rfl rfl (Nat.le_of_ble_eq_true rfl) d_Mo_put_78 ⟨Nat.le_of_ble_eq_true rfl, Nat.le_of_ble_eq_true rfl⟩ ?_
  rintro _ _ ⟨rfl, y9⟩
  rename_i σ9
  refine zb_st (st' := [.int 1]) rfl ?_
  refine zb_if_eq (tgt := 86) d_Mo_put_81 rfl (fun h81 => absurd h81 (by decide)) (fun h81 => ?_)
  refine zb_iconst (v := 0) d_Mo_put_84 rfl ?_
  exact zb_iret d_Mo_put_85 rfl ⟨rfl, z1.tr y9⟩
set_option maxHeartbeats 4000000 in
set_option maxRecDepth 100000 in
theorem c_mput_1 (l : Launch) (G : zG) {σ : zS} {r t : Nat} {b : Int32} {M : Nat → Nat → Int32} {w : Nat → Nat} (hm : zmw σ M w) (hr : r < 8) (h1 : 1 ≤ w r) (h3 : w r ≤ 3) (ht : t < 4096) (hd : t % 2 ^ (12 - 4 * w r) = 0) (h0 : ¬ M r t = 0) : zC l G y_Mo_put w_Mo_put (zrm 2 60) 0 0 [.ref (zad G 30), .int (nI r), .int (nI t), .int b] σ (fun v σ' => v = some (.int (M r t + b)) ∧ σ'.1 30 0 = 0 ∧ zmw σ' (uM M r (upd (M r) t (M r t + b))) w ∧ zj σ σ') := by
  refine zC_of (cc := c_Mo_put) (nL := 5) (ret := (some .int)) (own := R_Mo) (by decide +kernel) rfl rfl (Nat.le_of_ble_eq_true rfl) ?_
  refine zb_lv (lv' := [(0, .ref (zad G 30)), (1, .int (nI r)), (2, .int (nI t)), (3, .int b)]) rfl ?_
  refine zb_aload_n d_Mo_put_0 rfl rfl ?_
  refine zb_iload_n d_Mo_put_1 rfl rfl ?_
  refine zb_callV (rest := []) (c_none_n l G hr) (lk_Mo_36.cw rfl rfl ⟨Nat.le_of_ble_eq_true rfl, Nat.le_of_ble_eq_true rfl⟩) zgM rfl rfl rfl rfl (Nat.le_of_ble_eq_true rfl) d_Mo_put_2 ⟨Nat.le_of_ble_eq_true rfl, Nat.le_of_ble_eq_true rfl⟩ ?_
  rintro _ _ ⟨rfl, y1⟩
  rename_i σ1
  have z1 : zt σ σ1 0 := y1
  refine zb_st (st' := [.int 0]) rfl ?_
  refine zb_if_ne (tgt := 34) d_Mo_put_5 rfl (fun h5 => absurd h5 (fun z => z rfl)) (fun h5 => ?_)
  refine zb_aload_n d_Mo_put_8 rfl rfl ?_
  refine zb_iconst (v := 2) d_Mo_put_9 rfl ?_
  refine zb_iload_n d_Mo_put_10 rfl rfl ?_
  refine zb_aload_n d_Mo_put_11 rfl rfl ?_
  refine zm_width d_Mo_put_12 fl_Mo_13 ?_
  refine zb_iload_n d_Mo_put_15 rfl rfl ?_
  refine zb_ialdN (q := 31) (j := r) d_Mo_put_16 (ia31) (show r < 8 from hr) ?_
  refine zb_top (y := nI (w r)) ((z1.mw hm).1 r hr) ?_
  refine zb_callS (rest := [.int 2, .ref (zad G 30)]) (c_mT_y l G h1 h3 ht hd) (lk_Mo_44.cw rfl rfl ⟨Nat.le_of_ble_eq_true rfl, Nat.le_of_ble_eq_true rfl⟩) rfl rfl (Nat.le_of_ble_eq_true rfl) d_Mo_put_17 ⟨Nat.le_of_ble_eq_true rfl, Nat.le_of_ble_eq_true rfl⟩ ?_
  rintro _ _ ⟨rfl, rfl⟩
  refine zb_st (st' := [.int 1, .int 2, .ref (zad G 30)]) rfl ?_
  refine zb_if_ne (tgt := 27) d_Mo_put_20 rfl (fun h20 => ?_) (fun h20 => absurd h20 (by decide))
  refine zb_iconst (v := 0) d_Mo_put_27 rfl ?_
  refine zb_callV (rest := []) (c_refuse_n l G) (lk_Mo_28.cw rfl rfl ⟨Nat.le_of_ble_eq_true rfl, Nat.le_of_ble_eq_true rfl⟩) zgM rfl rfl rfl rfl (Nat.le_of_ble_eq_true rfl) d_Mo_put_28 ⟨Nat.le_of_ble_eq_true rfl, Nat.le_of_ble_eq_true rfl⟩ ?_
  rintro _ _ ⟨rfl, rfl⟩
  refine zb_st (st' := [.int 0]) rfl ?_
  refine zb_if_eq (tgt := 36) d_Mo_put_31 rfl (fun h31 => ?_) (fun h31 => absurd rfl h31)
  refine zb_aload_n d_Mo_put_36 rfl rfl ?_
  refine zb_iload_n d_Mo_put_37 rfl rfl ?_
  refine zb_iload_n d_Mo_put_38 rfl rfl ?_
  refine zb_callV (rest := []) (c_of l G (z1.mw hm) hr ht) (lk_Mo_48.cw rfl rfl ⟨Nat.le_of_ble_eq_true rfl, Nat.le_of_ble_eq_true rfl⟩) zgM rfl rfl rfl rfl (Nat.le_of_ble_eq_true rfl) d_Mo_put_39 ⟨Nat.le_of_ble_eq_true rfl, Nat.le_of_ble_eq_true rfl⟩ ?_
  rintro _ _ ⟨rfl, rfl⟩
  refine zb_st (st' := [.int (M r t)]) rfl ?_
  refine zb_iload_n d_Mo_put_42 rfl rfl ?_
  refine zb_iadd d_Mo_put_43 ?_
  refine zb_istore (lv' := [(4, .int ((M r t) + b)), (0, .ref (zad G 30)), (1, .int (nI r)), (2, .int (nI t)), (3, .int b)]) d_Mo_put_44 (by decide) rfl ?_
  refine zb_aload_n d_Mo_put_46 rfl rfl ?_
  refine zb_iconst (v := 3) d_Mo_put_47 rfl ?_
  refine zb_aload_n d_Mo_put_48 rfl rfl ?_
  refine zb_iload_n d_Mo_put_49 rfl rfl ?_
  refine zb_iload_n d_Mo_put_50 rfl rfl ?_
  refine zb_callV (rest := [.int 3, .ref (zad G 30)]) (c_of l G (z1.mw hm) hr ht) (lk_Mo_48.cw rfl rfl ⟨Nat.le_of_ble_eq_true rfl, Nat.le_of_ble_eq_true rfl⟩) zgM rfl rfl rfl rfl (Nat.le_of_ble_eq_true rfl) d_Mo_put_51 ⟨Nat.le_of_ble_eq_true rfl, Nat.le_of_ble_eq_true rfl⟩ ?_
  rintro _ _ ⟨rfl, rfl⟩
  refine zb_st (st' := [.int (M r t), .int 3, .ref (zad G 30)]) rfl ?_
  refine zb_if_ne (tgt := 77) d_Mo_put_54 rfl (fun h54 => ?_) (fun h54 => absurd h54 h0)
  refine zb_iconst (v := 0) d_Mo_put_77 rfl ?_
  refine zb_callV (rest := []) (c_refuse_n l G) (lk_Mo_28.cw rfl rfl ⟨Nat.le_of_ble_eq_true rfl, Nat.le_of_ble_eq_true rfl⟩) zgM rfl rfl rfl rfl (Nat.le_of_ble_eq_true rfl) d_Mo_put_78 ⟨Nat.le_of_ble_eq_true rfl, Nat.le_of_ble_eq_true rfl⟩ ?_
  rintro _ _ ⟨rfl, rfl⟩
  refine zb_st (st' := [.int 0]) rfl ?_
  refine zb_if_eq (tgt := 86) d_Mo_put_81 rfl (fun h81 => ?_) (fun h81 => absurd rfl h81)
  refine zb_aload_n d_Mo_put_86 rfl rfl ?_
  refine zm_counts d_Mo_put_87 fl_Mo_18 ?_
  refine zb_sipush (v := 4096) d_Mo_put_90 rfl ?_
  refine zb_iload_n d_Mo_put_93 rfl rfl ?_
  refine zb_imul d_Mo_put_94 ?_
  refine zb_top (y := nI (4096 * r)) (pk_mul 4096 r) ?_
  refine zb_iload_n d_Mo_put_95 rfl rfl ?_
  refine zb_iadd d_Mo_put_96 ?_
  refine zb_top (y := nI (4096 * r + t)) (nI_add _ _) ?_
  refine zb_iload d_Mo_put_97 rfl ?_
  refine zb_iastN (q := 32) (j := (4096 * r + t)) d_Mo_put_99 (ia32) (show 4096 * r + t < 32768 by omega) ?_
  refine zb_iload d_Mo_put_100 rfl ?_
  refine zb_iret d_Mo_put_102 rfl ⟨rfl, by rw [zu_ne σ1 _ (by decide)]; exact z1.1, ⟨fun k hk => by rw [zu_ne σ1 _ (by decide)]; exact (z1.mw hm).1 k hk, fun k i hk hi => ?_⟩, z1.j.tr ⟨fun q hq => zu_ne σ1 _ (by omega), rfl⟩⟩
  rw [zu_self]
  by_cases e : k = r
  · subst e
    rw [uM_s]
    by_cases e2 : i = t
    · rw [e2, pk_us, pk_us]
    · rw [pk_un e2, pk_un (by omega)]; exact (z1.mw hm).2 k i hk hi
  · rw [uM_n _ _ e, pk_un (by omega)]; exact (z1.mw hm).2 k i hk hi
set_option maxHeartbeats 4000000 in
set_option maxRecDepth 100000 in
theorem c_mput_2 (l : Launch) (G : zG) {σ : zS} {r t : Nat} {b : Int32} {M : Nat → Nat → Int32} {w : Nat → Nat} (hm : zmw σ M w) (hr : r < 8) (h1 : 1 ≤ w r) (h3 : w r ≤ 3) (ht : t < 4096) (hd : t % 2 ^ (12 - 4 * w r) = 0) (h0 : M r t = 0) (hb : M r t + b = 0) : zC l G y_Mo_put w_Mo_put (zrm 2 60) 0 0 [.ref (zad G 30), .int (nI r), .int (nI t), .int b] σ (fun v σ' => v = some (.int (M r t + b)) ∧ σ'.1 30 0 = 0 ∧ zmw σ' (uM M r (upd (M r) t (M r t + b))) w ∧ zj σ σ') := by
  refine zC_of (cc := c_Mo_put) (nL := 5) (ret := (some .int)) (own := R_Mo) (by decide +kernel) rfl rfl (Nat.le_of_ble_eq_true rfl) ?_
  refine zb_lv (lv' := [(0, .ref (zad G 30)), (1, .int (nI r)), (2, .int (nI t)), (3, .int b)]) rfl ?_
  refine zb_aload_n d_Mo_put_0 rfl rfl ?_
  refine zb_iload_n d_Mo_put_1 rfl rfl ?_
  refine zb_callV (rest := []) (c_none_n l G hr) (lk_Mo_36.cw rfl rfl ⟨Nat.le_of_ble_eq_true rfl, Nat.le_of_ble_eq_true rfl⟩) zgM rfl rfl rfl rfl (Nat.le_of_ble_eq_true rfl) d_Mo_put_2 ⟨Nat.le_of_ble_eq_true rfl, Nat.le_of_ble_eq_true rfl⟩ ?_
  rintro _ _ ⟨rfl, y1⟩
  rename_i σ1
  have z1 : zt σ σ1 0 := y1
  refine zb_st (st' := [.int 0]) rfl ?_
  refine zb_if_ne (tgt := 34) d_Mo_put_5 rfl (fun h5 => absurd h5 (fun z => z rfl)) (fun h5 => ?_)
  refine zb_aload_n d_Mo_put_8 rfl rfl ?_
  refine zb_iconst (v := 2) d_Mo_put_9 rfl ?_
  refine zb_iload_n d_Mo_put_10 rfl rfl ?_
  refine zb_aload_n d_Mo_put_11 rfl rfl ?_
  refine zm_width d_Mo_put_12 fl_Mo_13 ?_
  refine zb_iload_n d_Mo_put_15 rfl rfl ?_
  refine zb_ialdN (q := 31) (j := r) d_Mo_put_16 (ia31) (show r < 8 from hr) ?_
  refine zb_top (y := nI (w r)) ((z1.mw hm).1 r hr) ?_
  refine zb_callS (rest := [.int 2, .ref (zad G 30)]) (c_mT_y l G h1 h3 ht hd) (lk_Mo_44.cw rfl rfl ⟨Nat.le_of_ble_eq_true rfl, Nat.le_of_ble_eq_true rfl⟩) rfl rfl (Nat.le_of_ble_eq_true rfl) d_Mo_put_17 ⟨Nat.le_of_ble_eq_true rfl, Nat.le_of_ble_eq_true rfl⟩ ?_
  rintro _ _ ⟨rfl, rfl⟩
  refine zb_st (st' := [.int 1, .int 2, .ref (zad G 30)]) rfl ?_
  refine zb_if_ne (tgt := 27) d_Mo_put_20 rfl (fun h20 => ?_) (fun h20 => absurd h20 (by decide))
  refine zb_iconst (v := 0) d_Mo_put_27 rfl ?_
  refine zb_callV (rest := []) (c_refuse_n l G) (lk_Mo_28.cw rfl rfl ⟨Nat.le_of_ble_eq_true rfl, Nat.le_of_ble_eq_true rfl⟩) zgM rfl rfl rfl rfl (Nat.le_of_ble_eq_true rfl) d_Mo_put_28 ⟨Nat.le_of_ble_eq_true rfl, Nat.le_of_ble_eq_true rfl⟩ ?_
  rintro _ _ ⟨rfl, rfl⟩
  refine zb_st (st' := [.int 0]) rfl ?_
  refine zb_if_eq (tgt := 36) d_Mo_put_31 rfl (fun h31 => ?_) (fun h31 => absurd rfl h31)
  refine zb_aload_n d_Mo_put_36 rfl rfl ?_
  refine zb_iload_n d_Mo_put_37 rfl rfl ?_
  refine zb_iload_n d_Mo_put_38 rfl rfl ?_
  refine zb_callV (rest := []) (c_of l G (z1.mw hm) hr ht) (lk_Mo_48.cw rfl rfl ⟨Nat.le_of_ble_eq_true rfl, Nat.le_of_ble_eq_true rfl⟩) zgM rfl rfl rfl rfl (Nat.le_of_ble_eq_true rfl) d_Mo_put_39 ⟨Nat.le_of_ble_eq_true rfl, Nat.le_of_ble_eq_true rfl⟩ ?_
  rintro _ _ ⟨rfl, rfl⟩
  refine zb_st (st' := [.int (M r t)]) rfl ?_
  refine zb_iload_n d_Mo_put_42 rfl rfl ?_
  refine zb_iadd d_Mo_put_43 ?_
  refine zb_istore (lv' := [(4, .int ((M r t) + b)), (0, .ref (zad G 30)), (1, .int (nI r)), (2, .int (nI t)), (3, .int b)]) d_Mo_put_44 (by decide) rfl ?_
  refine zb_aload_n d_Mo_put_46 rfl rfl ?_
  refine zb_iconst (v := 3) d_Mo_put_47 rfl ?_
  refine zb_aload_n d_Mo_put_48 rfl rfl ?_
  refine zb_iload_n d_Mo_put_49 rfl rfl ?_
  refine zb_iload_n d_Mo_put_50 rfl rfl ?_
  refine zb_callV (rest := [.int 3, .ref (zad G 30)]) (c_of l G (z1.mw hm) hr ht) (lk_Mo_48.cw rfl rfl ⟨Nat.le_of_ble_eq_true rfl, Nat.le_of_ble_eq_true rfl⟩) zgM rfl rfl rfl rfl (Nat.le_of_ble_eq_true rfl) d_Mo_put_51 ⟨Nat.le_of_ble_eq_true rfl, Nat.le_of_ble_eq_true rfl⟩ ?_
  rintro _ _ ⟨rfl, rfl⟩
  refine zb_st (st' := [.int (M r t), .int 3, .ref (zad G 30)]) rfl ?_
  refine zb_if_ne (tgt := 77) d_Mo_put_54 rfl (fun h54 => absurd h54 (fun z => z h0)) (fun h54 => ?_)
  refine zb_iload d_Mo_put_57 rfl ?_
  refine zb_if_eq (tgt := 77) d_Mo_put_59 rfl (fun h59 => ?_) (fun h59 => absurd hb h59)
  refine zb_iconst (v := 0) d_Mo_put_77 rfl ?_
  refine zb_callV (rest := []) (c_refuse_n l G) (lk_Mo_28.cw rfl rfl ⟨Nat.le_of_ble_eq_true rfl, Nat.le_of_ble_eq_true rfl⟩) zgM rfl rfl rfl rfl (Nat.le_of_ble_eq_true rfl) d_Mo_put_78 ⟨Nat.le_of_ble_eq_true rfl, Nat.le_of_ble_eq_true rfl⟩ ?_
  rintro _ _ ⟨rfl, rfl⟩
  refine zb_st (st' := [.int 0]) rfl ?_
  refine zb_if_eq (tgt := 86) d_Mo_put_81 rfl (fun h81 => ?_) (fun h81 => absurd rfl h81)
  refine zb_aload_n d_Mo_put_86 rfl rfl ?_
  refine zm_counts d_Mo_put_87 fl_Mo_18 ?_
  refine zb_sipush (v := 4096) d_Mo_put_90 rfl ?_
  refine zb_iload_n d_Mo_put_93 rfl rfl ?_
  refine zb_imul d_Mo_put_94 ?_
  refine zb_top (y := nI (4096 * r)) (pk_mul 4096 r) ?_
  refine zb_iload_n d_Mo_put_95 rfl rfl ?_
  refine zb_iadd d_Mo_put_96 ?_
  refine zb_top (y := nI (4096 * r + t)) (nI_add _ _) ?_
  refine zb_iload d_Mo_put_97 rfl ?_
  refine zb_iastN (q := 32) (j := (4096 * r + t)) d_Mo_put_99 (ia32) (show 4096 * r + t < 32768 by omega) ?_
  refine zb_iload d_Mo_put_100 rfl ?_
  refine zb_iret d_Mo_put_102 rfl ⟨rfl, by rw [zu_ne σ1 _ (by decide)]; exact z1.1, ⟨fun k hk => by rw [zu_ne σ1 _ (by decide)]; exact (z1.mw hm).1 k hk, fun k i hk hi => ?_⟩, z1.j.tr ⟨fun q hq => zu_ne σ1 _ (by omega), rfl⟩⟩
  rw [zu_self]
  by_cases e : k = r
  · subst e
    rw [uM_s]
    by_cases e2 : i = t
    · rw [e2, pk_us, pk_us]
    · rw [pk_un e2, pk_un (by omega)]; exact (z1.mw hm).2 k i hk hi
  · rw [uM_n _ _ e, pk_un (by omega)]; exact (z1.mw hm).2 k i hk hi
set_option maxHeartbeats 4000000 in
set_option maxRecDepth 100000 in
theorem c_mput_3 (l : Launch) (G : zG) {σ : zS} {r t : Nat} {b : Int32} {M : Nat → Nat → Int32} {w : Nat → Nat} (hm : zmw σ M w) (hr : r < 8) (h1 : 1 ≤ w r) (h3 : w r ≤ 3) (ht : t < 4096) (hd : t % 2 ^ (12 - 4 * w r) = 0) (h0 : M r t = 0) (hb : ¬ M r t + b = 0) (hn : zct (M r) 4096 ≠ 300) : zC l G y_Mo_put w_Mo_put (zrm 2 60) 0 0 [.ref (zad G 30), .int (nI r), .int (nI t), .int b] σ (fun v σ' => v = some (.int (M r t + b)) ∧ σ'.1 30 0 = 0 ∧ zmw σ' (uM M r (upd (M r) t (M r t + b))) w ∧ zj σ σ') := by
  refine zC_of (cc := c_Mo_put) (nL := 5) (ret := (some .int)) (own := R_Mo) (by decide +kernel) rfl rfl (Nat.le_of_ble_eq_true rfl) ?_
  refine zb_lv (lv' := [(0, .ref (zad G 30)), (1, .int (nI r)), (2, .int (nI t)), (3, .int b)]) rfl ?_
  refine zb_aload_n d_Mo_put_0 rfl rfl ?_
  refine zb_iload_n d_Mo_put_1 rfl rfl ?_
  refine zb_callV (rest := []) (c_none_n l G hr) (lk_Mo_36.cw rfl rfl ⟨Nat.le_of_ble_eq_true rfl, Nat.le_of_ble_eq_true rfl⟩) zgM rfl rfl rfl rfl (Nat.le_of_ble_eq_true rfl) d_Mo_put_2 ⟨Nat.le_of_ble_eq_true rfl, Nat.le_of_ble_eq_true rfl⟩ ?_
  rintro _ _ ⟨rfl, y1⟩
  rename_i σ1
  have z1 : zt σ σ1 0 := y1
  refine zb_st (st' := [.int 0]) rfl ?_
  refine zb_if_ne (tgt := 34) d_Mo_put_5 rfl (fun h5 => absurd h5 (fun z => z rfl)) (fun h5 => ?_)
  refine zb_aload_n d_Mo_put_8 rfl rfl ?_
  refine zb_iconst (v := 2) d_Mo_put_9 rfl ?_
  refine zb_iload_n d_Mo_put_10 rfl rfl ?_
  refine zb_aload_n d_Mo_put_11 rfl rfl ?_
  refine zm_width d_Mo_put_12 fl_Mo_13 ?_
  refine zb_iload_n d_Mo_put_15 rfl rfl ?_
  refine zb_ialdN (q := 31) (j := r) d_Mo_put_16 (ia31) (show r < 8 from hr) ?_
  refine zb_top (y := nI (w r)) ((z1.mw hm).1 r hr) ?_
  refine zb_callS (rest := [.int 2, .ref (zad G 30)]) (c_mT_y l G h1 h3 ht hd) (lk_Mo_44.cw rfl rfl ⟨Nat.le_of_ble_eq_true rfl, Nat.le_of_ble_eq_true rfl⟩) rfl rfl (Nat.le_of_ble_eq_true rfl) d_Mo_put_17 ⟨Nat.le_of_ble_eq_true rfl, Nat.le_of_ble_eq_true rfl⟩ ?_
  rintro _ _ ⟨rfl, rfl⟩
  refine zb_st (st' := [.int 1, .int 2, .ref (zad G 30)]) rfl ?_
  refine zb_if_ne (tgt := 27) d_Mo_put_20 rfl (fun h20 => ?_) (fun h20 => absurd h20 (by decide))
  refine zb_iconst (v := 0) d_Mo_put_27 rfl ?_
  refine zb_callV (rest := []) (c_refuse_n l G) (lk_Mo_28.cw rfl rfl ⟨Nat.le_of_ble_eq_true rfl, Nat.le_of_ble_eq_true rfl⟩) zgM rfl rfl rfl rfl (Nat.le_of_ble_eq_true rfl) d_Mo_put_28 ⟨Nat.le_of_ble_eq_true rfl, Nat.le_of_ble_eq_true rfl⟩ ?_
  rintro _ _ ⟨rfl, rfl⟩
  refine zb_st (st' := [.int 0]) rfl ?_
  refine zb_if_eq (tgt := 36) d_Mo_put_31 rfl (fun h31 => ?_) (fun h31 => absurd rfl h31)
  refine zb_aload_n d_Mo_put_36 rfl rfl ?_
  refine zb_iload_n d_Mo_put_37 rfl rfl ?_
  refine zb_iload_n d_Mo_put_38 rfl rfl ?_
  refine zb_callV (rest := []) (c_of l G (z1.mw hm) hr ht) (lk_Mo_48.cw rfl rfl ⟨Nat.le_of_ble_eq_true rfl, Nat.le_of_ble_eq_true rfl⟩) zgM rfl rfl rfl rfl (Nat.le_of_ble_eq_true rfl) d_Mo_put_39 ⟨Nat.le_of_ble_eq_true rfl, Nat.le_of_ble_eq_true rfl⟩ ?_
  rintro _ _ ⟨rfl, rfl⟩
  refine zb_st (st' := [.int (M r t)]) rfl ?_
  refine zb_iload_n d_Mo_put_42 rfl rfl ?_
  refine zb_iadd d_Mo_put_43 ?_
  refine zb_istore (lv' := [(4, .int ((M r t) + b)), (0, .ref (zad G 30)), (1, .int (nI r)), (2, .int (nI t)), (3, .int b)]) d_Mo_put_44 (by decide) rfl ?_
  refine zb_aload_n d_Mo_put_46 rfl rfl ?_
  refine zb_iconst (v := 3) d_Mo_put_47 rfl ?_
  refine zb_aload_n d_Mo_put_48 rfl rfl ?_
  refine zb_iload_n d_Mo_put_49 rfl rfl ?_
  refine zb_iload_n d_Mo_put_50 rfl rfl ?_
  refine zb_callV (rest := [.int 3, .ref (zad G 30)]) (c_of l G (z1.mw hm) hr ht) (lk_Mo_48.cw rfl rfl ⟨Nat.le_of_ble_eq_true rfl, Nat.le_of_ble_eq_true rfl⟩) zgM rfl rfl rfl rfl (Nat.le_of_ble_eq_true rfl) d_Mo_put_51 ⟨Nat.le_of_ble_eq_true rfl, Nat.le_of_ble_eq_true rfl⟩ ?_
  rintro _ _ ⟨rfl, rfl⟩
  refine zb_st (st' := [.int (M r t), .int 3, .ref (zad G 30)]) rfl ?_
  refine zb_if_ne (tgt := 77) d_Mo_put_54 rfl (fun h54 => absurd h54 (fun z => z h0)) (fun h54 => ?_)
  refine zb_iload d_Mo_put_57 rfl ?_
  refine zb_if_eq (tgt := 77) d_Mo_put_59 rfl (fun h59 => absurd h59 hb) (fun h59 => ?_)
  refine zb_aload_n d_Mo_put_62 rfl rfl ?_
  refine zb_iload_n d_Mo_put_63 rfl rfl ?_
  refine zb_callV (rest := [.int 3, .ref (zad G 30)]) (c_in l G (z1.mw hm) hr) (lk_Mo_40.cw rfl rfl ⟨Nat.le_of_ble_eq_true rfl, Nat.le_of_ble_eq_true rfl⟩) zgM rfl rfl rfl rfl (Nat.le_of_ble_eq_true rfl) d_Mo_put_64 ⟨Nat.le_of_ble_eq_true rfl, Nat.le_of_ble_eq_true rfl⟩ ?_
  rintro _ _ ⟨rfl, rfl⟩
  refine zb_st (st' := [.int (nI (zct (M r) 4096)), .int 3, .ref (zad G 30)]) rfl ?_
  refine zb_sipush (v := 300) d_Mo_put_67 rfl ?_
  refine zb_icmp_ne (tgt := 77) d_Mo_put_70 rfl (fun h70 => ?_) (fun h70 => absurd ((nI_eq (b := 300) (by have := zct_le (M r) 4096; omega) (by decide)).mp h70) hn)
  refine zb_iconst (v := 0) d_Mo_put_77 rfl ?_
  refine zb_callV (rest := []) (c_refuse_n l G) (lk_Mo_28.cw rfl rfl ⟨Nat.le_of_ble_eq_true rfl, Nat.le_of_ble_eq_true rfl⟩) zgM rfl rfl rfl rfl (Nat.le_of_ble_eq_true rfl) d_Mo_put_78 ⟨Nat.le_of_ble_eq_true rfl, Nat.le_of_ble_eq_true rfl⟩ ?_
  rintro _ _ ⟨rfl, rfl⟩
  refine zb_st (st' := [.int 0]) rfl ?_
  refine zb_if_eq (tgt := 86) d_Mo_put_81 rfl (fun h81 => ?_) (fun h81 => absurd rfl h81)
  refine zb_aload_n d_Mo_put_86 rfl rfl ?_
  refine zm_counts d_Mo_put_87 fl_Mo_18 ?_
  refine zb_sipush (v := 4096) d_Mo_put_90 rfl ?_
  refine zb_iload_n d_Mo_put_93 rfl rfl ?_
  refine zb_imul d_Mo_put_94 ?_
  refine zb_top (y := nI (4096 * r)) (pk_mul 4096 r) ?_
  refine zb_iload_n d_Mo_put_95 rfl rfl ?_
  refine zb_iadd d_Mo_put_96 ?_
  refine zb_top (y := nI (4096 * r + t)) (nI_add _ _) ?_
  refine zb_iload d_Mo_put_97 rfl ?_
  refine zb_iastN (q := 32) (j := (4096 * r + t)) d_Mo_put_99 (ia32) (show 4096 * r + t < 32768 by omega) ?_
  refine zb_iload d_Mo_put_100 rfl ?_
  refine zb_iret d_Mo_put_102 rfl ⟨rfl, by rw [zu_ne σ1 _ (by decide)]; exact z1.1, ⟨fun k hk => by rw [zu_ne σ1 _ (by decide)]; exact (z1.mw hm).1 k hk, fun k i hk hi => ?_⟩, z1.j.tr ⟨fun q hq => zu_ne σ1 _ (by omega), rfl⟩⟩
  rw [zu_self]
  by_cases e : k = r
  · subst e
    rw [uM_s]
    by_cases e2 : i = t
    · rw [e2, pk_us, pk_us]
    · rw [pk_un e2, pk_un (by omega)]; exact (z1.mw hm).2 k i hk hi
  · rw [uM_n _ _ e, pk_un (by omega)]; exact (z1.mw hm).2 k i hk hi
set_option maxHeartbeats 4000000 in
set_option maxRecDepth 100000 in
theorem c_mat_ns (l : Launch) (G : zG) {σ : zS} {x y : Int32} (h : ¬ zgr x) : zC l G y_Mo_at w_Mo_at (zrm 2 60) 0 0 [.ref (zad G 30), .int x, .int y] σ (fun v σ' => v = some (.int 0) ∧ zt σ σ' 1) := by
  refine zC_of (cc := c_Mo_at) (nL := 5) (ret := (some .int)) (own := R_Mo) (by decide +kernel) rfl rfl (Nat.le_of_ble_eq_true rfl) ?_
  refine zb_lv (lv' := [(0, .ref (zad G 30)), (1, .int x), (2, .int y)]) rfl ?_
  by_cases hx : zgr x
  · exact absurd hx h
  · refine zb_aload_n d_Mo_at_0 rfl rfl ?_
    refine zb_iload_n d_Mo_at_1 rfl rfl ?_
    refine zb_callV (rest := []) (c_none_y l G hx) (lk_Mo_36.cw rfl rfl ⟨Nat.le_of_ble_eq_true rfl, Nat.le_of_ble_eq_true rfl⟩) zgM rfl rfl rfl rfl (Nat.le_of_ble_eq_true rfl) d_Mo_at_2 ⟨Nat.le_of_ble_eq_true rfl, Nat.le_of_ble_eq_true rfl⟩ ?_
    rintro _ _ ⟨rfl, y9⟩
    rename_i σ9
    refine zb_st (st' := [.int 1]) rfl ?_
    refine zb_if_eq (tgt := 10) d_Mo_at_5 rfl (fun h5 => absurd h5 (by decide)) (fun h5 => ?_)
    refine zb_iconst (v := 0) d_Mo_at_8 rfl ?_
    exact zb_iret d_Mo_at_9 rfl ⟨rfl, y9⟩
theorem zct_s (m : Nat → Int32) (k : Nat) : zct m (k + 1) = if m k = 0 then zct m k else zct m k + 1 := rfl
theorem zct_up (m : Nat → Int32) {i : Nat} : ∀ j, i ≤ j → zct m i ≤ zct m j := by
  intro j
  induction j with
  | zero => intro h; rw [Nat.le_zero.mp h]; exact Nat.le_refl _
  | succ j ih =>
    intro h
    rcases Nat.lt_or_eq_of_le h with z | z
    · rw [zct_s]
      have := ih (by omega)
      split <;> omega
    · rw [z]; exact Nat.le_refl _
theorem i_subs (y : Int32) (c : Nat) : y - nI c + (-1) = y - nI (c + 1) := by
  rw [nI_succ]
  apply Int32.toBitVec_inj.mp
  simp only [Int32.toBitVec_add, Int32.toBitVec_sub]
  show y.toBitVec - (nI c).toBitVec + (-1#32) = y.toBitVec - ((nI c).toBitVec + 1#32)
  generalize y.toBitVec = a
  generalize (nI c).toBitVec = b
  bv_omega
theorem i_sub0 {y : Int32} {c : Nat} (h : y - nI c = 0) : y = nI c := by
  have : y.toBitVec - (nI c).toBitVec = 0#32 := congrArg Int32.toBitVec h
  apply Int32.toBitVec_inj.mp
  generalize y.toBitVec = a at this ⊢
  generalize (nI c).toBitVec = b at this ⊢
  bv_omega
set_option maxHeartbeats 4000000 in
set_option maxRecDepth 100000 in
theorem lp_at1 (l : Launch) (G : zG) {σ : zS} {r t k : Nat} {y : Int32} {M : Nat → Nat → Int32} {w : Nat → Nat} (hm : zmw σ M w) (hr : r < 8) (ht4 : t < 4096) (ht : ¬ M r t = 0) (hk : zct (M r) t = k) (hy : y = nI k) {φ : Option Value → zS → Prop} (hφ : φ (some (.int (nI t))) σ) : ∀ d i : Nat, i + d = t → zB l G w_Mo_at R_Mo c_Mo_at 5 (some .int) [] (zrm 2 60) (zR G φ 0 0) 0 0 15 [(4, .int (nI i)), (3, .int (y - nI (zct (M r) i))), (0, .ref (zad G 30)), (1, .int (nI r)), (2, .int y)] [] σ := by
  intro d
  induction d with
  | zero =>
    intro i hi
    have e : i = t := by omega
    have hlt : i < 4096 := by omega
    refine zb_iload d_Mo_at_15 rfl ?_
    refine zb_sipush (v := 4096) d_Mo_at_17 rfl ?_
    refine zb_icmp_ge (tgt := 52) d_Mo_at_20 rfl (fun h20 => absurd h20 (nI_ge (a := i) (b := 4096) (by omega) (by omega))) (fun h20 => ?_)
    refine zb_aload_n d_Mo_at_23 rfl rfl ?_
    refine zb_iload_n d_Mo_at_24 rfl rfl ?_
    refine zb_iload d_Mo_at_25 rfl ?_
    refine zb_callV (rest := []) (c_of l G hm hr (show i < 4096 by omega)) (lk_Mo_48.cw rfl rfl ⟨Nat.le_of_ble_eq_true rfl, Nat.le_of_ble_eq_true rfl⟩) zgM rfl rfl rfl rfl (Nat.le_of_ble_eq_true rfl) d_Mo_at_27 ⟨Nat.le_of_ble_eq_true rfl, Nat.le_of_ble_eq_true rfl⟩ ?_
    rintro _ _ ⟨rfl, rfl⟩
    refine zb_st (st' := [.int (M r i)]) rfl ?_
    refine zb_if_ne (tgt := 36) d_Mo_at_30 rfl (fun h30 => ?_) (fun h30 => absurd h30 (by rw [e]; exact ht))
    refine zb_iload_n d_Mo_at_36 rfl rfl ?_
    refine zb_if_ne (tgt := 43) d_Mo_at_37 rfl (fun h37 => absurd h37 (fun z => z (by rw [hy, e, hk]; exact Int32.sub_self _))) (fun h37 => ?_)
    refine zb_iload d_Mo_at_40 rfl ?_
    exact zb_iret d_Mo_at_42 rfl (by rw [e]; exact hφ)
  | succ d ih =>
    intro i hi
    have hlt : i < 4096 := by omega
    have hle := zct_le (M r) t
    have hup : ¬ M r i = 0 → zct (M r) i + 1 ≤ k := fun z => by
      have h9 := zct_up (M r) (i := i + 1) t (by omega)
      rw [zct_s, if_neg z] at h9
      omega
    refine zb_iload d_Mo_at_15 rfl ?_
    refine zb_sipush (v := 4096) d_Mo_at_17 rfl ?_
    refine zb_icmp_ge (tgt := 52) d_Mo_at_20 rfl (fun h20 => absurd h20 (nI_ge (a := i) (b := 4096) (by omega) (by omega))) (fun h20 => ?_)
    refine zb_aload_n d_Mo_at_23 rfl rfl ?_
    refine zb_iload_n d_Mo_at_24 rfl rfl ?_
    refine zb_iload d_Mo_at_25 rfl ?_
    refine zb_callV (rest := []) (c_of l G hm hr (show i < 4096 by omega)) (lk_Mo_48.cw rfl rfl ⟨Nat.le_of_ble_eq_true rfl, Nat.le_of_ble_eq_true rfl⟩) zgM rfl rfl rfl rfl (Nat.le_of_ble_eq_true rfl) d_Mo_at_27 ⟨Nat.le_of_ble_eq_true rfl, Nat.le_of_ble_eq_true rfl⟩ ?_
    rintro _ _ ⟨rfl, rfl⟩
    refine zb_st (st' := [.int (M r i)]) rfl ?_
    refine zb_if_ne (tgt := 36) d_Mo_at_30 rfl (fun h30 => ?_) (fun h30 => ?_)
    · refine zb_iload_n d_Mo_at_36 rfl rfl ?_
      refine zb_if_ne (tgt := 43) d_Mo_at_37 rfl (fun h37 => ?_) (fun h37 => absurd (hy.symm.trans (i_sub0 h37)) (fun z => by have h8 := hup h30; have := (nI_eq (by omega) (by omega)).mp z; omega))
      refine zb_iinc (v := y - nI (zct (M r) i + 1)) (lv' := [(3, .int (y - nI (zct (M r) i + 1))), (4, .int (nI i)), (0, .ref (zad G 30)), (1, .int (nI r)), (2, .int y)]) d_Mo_at_43 rfl (i_subs _ _) (by decide) rfl ?_
      refine zb_iinc (v := nI (i + 1)) (lv' := [(4, .int (nI (i + 1))), (3, .int (y - nI (zct (M r) i + 1))), (0, .ref (zad G 30)), (1, .int (nI r)), (2, .int y)]) d_Mo_at_46 rfl (nI_1 i) (by decide) rfl ?_
      refine zb_goto (tgt := 15) d_Mo_at_49 rfl ?_
      have e9 : zct (M r) (i + 1) = zct (M r) i + 1 := if_neg h30
      refine zb_sub [0, 1, 2, 3, 4] rfl ?_
      have hh := ih (i + 1) (by omega)
      rw [e9] at hh
      exact hh
    · refine zb_goto (tgt := 46) d_Mo_at_33 rfl ?_
      refine zb_iinc (v := nI (i + 1)) (lv' := [(4, .int (nI (i + 1))), (3, .int (y - nI (zct (M r) i))), (0, .ref (zad G 30)), (1, .int (nI r)), (2, .int y)]) d_Mo_at_46 rfl (nI_1 i) (by decide) rfl ?_
      refine zb_goto (tgt := 15) d_Mo_at_49 rfl ?_
      have e9 : zct (M r) (i + 1) = zct (M r) i := if_pos h30
      refine zb_sub [0, 1, 2, 3, 4] rfl ?_
      have hh := ih (i + 1) (by omega)
      rw [e9] at hh
      exact hh
set_option maxHeartbeats 4000000 in
set_option maxRecDepth 100000 in
theorem lp_at2 (l : Launch) (G : zG) {σ : zS} {r : Nat} {y : Int32} {M : Nat → Nat → Int32} {w : Nat → Nat} (hm : zmw σ M w) (hr : r < 8) (hy : ∀ c, c < zct (M r) 4096 → ¬ y = nI c) {φ : Option Value → zS → Prop} (hφ : φ (some (.int 0)) (zu σ 30 (upd (σ.1 30) 0 1))) : ∀ d i : Nat, i + d = 4096 → zB l G w_Mo_at R_Mo c_Mo_at 5 (some .int) [] (zrm 2 60) (zR G φ 0 0) 0 0 15 [(4, .int (nI i)), (3, .int (y - nI (zct (M r) i))), (0, .ref (zad G 30)), (1, .int (nI r)), (2, .int y)] [] σ := by
  intro d
  induction d with
  | zero =>
    intro i hi
    have e : i = 4096 := by omega
    refine zb_iload d_Mo_at_15 rfl ?_
    refine zb_sipush (v := 4096) d_Mo_at_17 rfl ?_
    refine zb_icmp_ge (tgt := 52) d_Mo_at_20 rfl (fun h20 => ?_) (fun h20 => absurd (nI_le (a := 4096) (b := i) (by omega) (by omega)) h20)
    refine zb_aload_n d_Mo_at_52 rfl rfl ?_
    refine zb_iconst (v := 1) d_Mo_at_53 rfl ?_
    refine zm_put_thrown d_Mo_at_54 fl_Mo_7 ?_
    refine zb_iconst (v := 0) d_Mo_at_57 rfl ?_
    exact zb_iret d_Mo_at_58 rfl hφ
  | succ d ih =>
    intro i hi
    have hlt : i < 4096 := by omega
    have hup : ¬ M r i = 0 → zct (M r) i < zct (M r) 4096 := fun z => by
      have h9 := zct_up (M r) (i := i + 1) 4096 (by omega)
      rw [zct_s, if_neg z] at h9
      omega
    refine zb_iload d_Mo_at_15 rfl ?_
    refine zb_sipush (v := 4096) d_Mo_at_17 rfl ?_
    refine zb_icmp_ge (tgt := 52) d_Mo_at_20 rfl (fun h20 => absurd h20 (nI_ge (a := i) (b := 4096) (by omega) (by omega))) (fun h20 => ?_)
    refine zb_aload_n d_Mo_at_23 rfl rfl ?_
    refine zb_iload_n d_Mo_at_24 rfl rfl ?_
    refine zb_iload d_Mo_at_25 rfl ?_
    refine zb_callV (rest := []) (c_of l G hm hr (show i < 4096 by omega)) (lk_Mo_48.cw rfl rfl ⟨Nat.le_of_ble_eq_true rfl, Nat.le_of_ble_eq_true rfl⟩) zgM rfl rfl rfl rfl (Nat.le_of_ble_eq_true rfl) d_Mo_at_27 ⟨Nat.le_of_ble_eq_true rfl, Nat.le_of_ble_eq_true rfl⟩ ?_
    rintro _ _ ⟨rfl, rfl⟩
    refine zb_st (st' := [.int (M r i)]) rfl ?_
    refine zb_if_ne (tgt := 36) d_Mo_at_30 rfl (fun h30 => ?_) (fun h30 => ?_)
    · refine zb_iload_n d_Mo_at_36 rfl rfl ?_
      refine zb_if_ne (tgt := 43) d_Mo_at_37 rfl (fun h37 => ?_) (fun h37 => absurd (i_sub0 h37) (hy _ (hup h30)))
      refine zb_iinc (v := y - nI (zct (M r) i + 1)) (lv' := [(3, .int (y - nI (zct (M r) i + 1))), (4, .int (nI i)), (0, .ref (zad G 30)), (1, .int (nI r)), (2, .int y)]) d_Mo_at_43 rfl (i_subs _ _) (by decide) rfl ?_
      refine zb_iinc (v := nI (i + 1)) (lv' := [(4, .int (nI (i + 1))), (3, .int (y - nI (zct (M r) i + 1))), (0, .ref (zad G 30)), (1, .int (nI r)), (2, .int y)]) d_Mo_at_46 rfl (nI_1 i) (by decide) rfl ?_
      refine zb_goto (tgt := 15) d_Mo_at_49 rfl ?_
      have e9 : zct (M r) (i + 1) = zct (M r) i + 1 := if_neg h30
      refine zb_sub [0, 1, 2, 3, 4] rfl ?_
      have hh := ih (i + 1) (by omega)
      rw [e9] at hh
      exact hh
    · refine zb_goto (tgt := 46) d_Mo_at_33 rfl ?_
      refine zb_iinc (v := nI (i + 1)) (lv' := [(4, .int (nI (i + 1))), (3, .int (y - nI (zct (M r) i))), (0, .ref (zad G 30)), (1, .int (nI r)), (2, .int y)]) d_Mo_at_46 rfl (nI_1 i) (by decide) rfl ?_
      refine zb_goto (tgt := 15) d_Mo_at_49 rfl ?_
      have e9 : zct (M r) (i + 1) = zct (M r) i := if_pos h30
      refine zb_sub [0, 1, 2, 3, 4] rfl ?_
      have hh := ih (i + 1) (by omega)
      rw [e9] at hh
      exact hh
set_option maxHeartbeats 4000000 in
set_option maxRecDepth 100000 in
/-- at(r, k) -/
theorem c_mat (l : Launch) (G : zG) {σ : zS} {r t k : Nat} {y : Int32} {M : Nat → Nat → Int32} {w : Nat → Nat} (hm : zmw σ M w) (hr : r < 8) (ht4 : t < 4096) (ht : ¬ M r t = 0) (hk : zct (M r) t = k) (hy : y = nI k) : zC l G y_Mo_at w_Mo_at (zrm 2 60) 0 0 [.ref (zad G 30), .int (nI r), .int y] σ (fun v σ' => v = some (.int (nI t)) ∧ zt σ σ' 0) := by
  refine zC_of (cc := c_Mo_at) (nL := 5) (ret := (some .int)) (own := R_Mo) (by decide +kernel) rfl rfl (Nat.le_of_ble_eq_true rfl) ?_
  refine zb_lv (lv' := [(0, .ref (zad G 30)), (1, .int (nI r)), (2, .int y)]) rfl ?_
  refine zb_aload_n d_Mo_at_0 rfl rfl ?_
  refine zb_iload_n d_Mo_at_1 rfl rfl ?_
  refine zb_callV (rest := []) (c_none_n l G hr) (lk_Mo_36.cw rfl rfl ⟨Nat.le_of_ble_eq_true rfl, Nat.le_of_ble_eq_true rfl⟩) zgM rfl rfl rfl rfl (Nat.le_of_ble_eq_true rfl) d_Mo_at_2 ⟨Nat.le_of_ble_eq_true rfl, Nat.le_of_ble_eq_true rfl⟩ ?_
  rintro _ _ ⟨rfl, y1⟩
  rename_i σ1
  have z1 : zt σ σ1 0 := y1
  refine zb_st (st' := [.int 0]) rfl ?_
  refine zb_if_eq (tgt := 10) d_Mo_at_5 rfl (fun h5 => ?_) (fun h5 => absurd rfl h5)
  refine zb_iload_n d_Mo_at_10 rfl rfl ?_
  refine zb_istore_n (lv' := [(3, .int y), (0, .ref (zad G 30)), (1, .int (nI r)), (2, .int y)]) d_Mo_at_11 rfl (by decide) rfl ?_
  refine zb_iconst (v := 0) d_Mo_at_12 rfl ?_
  refine zb_istore (lv' := [(4, .int 0), (3, .int y), (0, .ref (zad G 30)), (1, .int (nI r)), (2, .int y)]) d_Mo_at_13 (by decide) rfl ?_
  refine zb_lv (lv' := [(4, .int (nI 0)), (3, .int (y - nI (zct (M r) 0))), (0, .ref (zad G 30)), (1, .int (nI r)), (2, .int y)]) (by rw [show y - nI (zct (M r) 0) = y from Int32.sub_zero y]; rfl) ?_
  exact lp_at1 l G (z1.mw hm) hr ht4 ht hk hy ⟨rfl, z1⟩ t 0 (by omega)
set_option maxHeartbeats 4000000 in
set_option maxRecDepth 100000 in
theorem c_mat_no (l : Launch) (G : zG) {σ : zS} {r : Nat} {y : Int32} {M : Nat → Nat → Int32} {w : Nat → Nat} (hm : zmw σ M w) (hr : r < 8) (hy : ∀ c, c < zct (M r) 4096 → ¬ y = nI c) : zC l G y_Mo_at w_Mo_at (zrm 2 60) 0 0 [.ref (zad G 30), .int (nI r), .int y] σ (fun v σ' => v = some (.int 0) ∧ zt σ σ' 1) := by
  refine zC_of (cc := c_Mo_at) (nL := 5) (ret := (some .int)) (own := R_Mo) (by decide +kernel) rfl rfl (Nat.le_of_ble_eq_true rfl) ?_
  refine zb_lv (lv' := [(0, .ref (zad G 30)), (1, .int (nI r)), (2, .int y)]) rfl ?_
  refine zb_aload_n d_Mo_at_0 rfl rfl ?_
  refine zb_iload_n d_Mo_at_1 rfl rfl ?_
  refine zb_callV (rest := []) (c_none_n l G hr) (lk_Mo_36.cw rfl rfl ⟨Nat.le_of_ble_eq_true rfl, Nat.le_of_ble_eq_true rfl⟩) zgM rfl rfl rfl rfl (Nat.le_of_ble_eq_true rfl) d_Mo_at_2 ⟨Nat.le_of_ble_eq_true rfl, Nat.le_of_ble_eq_true rfl⟩ ?_
  rintro _ _ ⟨rfl, y1⟩
  rename_i σ1
  have z1 : zt σ σ1 0 := y1
  refine zb_st (st' := [.int 0]) rfl ?_
  refine zb_if_eq (tgt := 10) d_Mo_at_5 rfl (fun h5 => ?_) (fun h5 => absurd rfl h5)
  refine zb_iload_n d_Mo_at_10 rfl rfl ?_
  refine zb_istore_n (lv' := [(3, .int y), (0, .ref (zad G 30)), (1, .int (nI r)), (2, .int y)]) d_Mo_at_11 rfl (by decide) rfl ?_
  refine zb_iconst (v := 0) d_Mo_at_12 rfl ?_
  refine zb_istore (lv' := [(4, .int 0), (3, .int y), (0, .ref (zad G 30)), (1, .int (nI r)), (2, .int y)]) d_Mo_at_13 (by decide) rfl ?_
  refine zb_lv (lv' := [(4, .int (nI 0)), (3, .int (y - nI (zct (M r) 0))), (0, .ref (zad G 30)), (1, .int (nI r)), (2, .int y)]) (by rw [show y - nI (zct (M r) 0) = y from Int32.sub_zero y]; rfl) ?_
  exact lp_at2 l G (z1.mw hm) hr hy ⟨rfl, z1.tr (zt_zu σ1 1)⟩ 4096 0 (by omega)
