/-! THE REFERENCE: thrown is set; what is left alone; its tables stand for M and w -/
def zt (σ σ' : zS) (k : Int32) : Prop := σ'.1 30 0 = k ∧ (∀ q, q ≠ 30 → σ'.1 q = σ.1 q) ∧ σ'.2 = σ.2
def zj (σ σ' : zS) : Prop := (∀ q, q < 30 → σ'.1 q = σ.1 q) ∧ σ'.2 = σ.2
def zmw (σ : zS) (M : Nat → Nat → Int32) (w : Nat → Nat) : Prop := (∀ r, r < 8 → σ.1 31 r = nI (w r)) ∧ ∀ r t, r < 8 → t < 4096 → σ.1 32 (4096 * r + t) = M r t
theorem zj.rf (σ : zS) : zj σ σ := ⟨fun _ _ => rfl, rfl⟩
theorem zj.tr {a b c : zS} (h : zj a b) (h2 : zj b c) : zj a c := ⟨fun q hq => (h2.1 q hq).trans (h.1 q hq), h2.2.trans h.2⟩
theorem zt.j {a b : zS} {k : Int32} (h : zt a b k) : zj a b := ⟨fun q hq => h.2.1 q (by omega), h.2.2⟩
theorem zt.tr {a b c : zS} {k k' : Int32} (h : zt a b k) (h2 : zt b c k') : zt a c k' := ⟨h2.1, fun q hq => (h2.2.1 q hq).trans (h.2.1 q hq), h2.2.2.trans h.2.2⟩
theorem zmw.same {σ σ' : zS} {M : Nat → Nat → Int32} {w : Nat → Nat} (h : zmw σ M w) (h1 : σ'.1 31 = σ.1 31) (h2 : σ'.1 32 = σ.1 32) : zmw σ' M w := ⟨fun r hr => by rw [h1]; exact h.1 r hr, fun r t hr ht => by rw [h2]; exact h.2 r t hr ht⟩
theorem zt.mw {σ σ' : zS} {k : Int32} {M : Nat → Nat → Int32} {w : Nat → Nat} (h : zt σ σ' k) (hm : zmw σ M w) : zmw σ' M w := hm.same (h.2.1 31 (by decide)) (h.2.1 32 (by decide))
theorem zt_zu (σ : zS) (k : Int32) : zt σ (zu σ 30 (upd (σ.1 30) 0 k)) k := ⟨by rw [zu_self]; exact pk_us, fun q hq => zu_ne σ _ hq, rfl⟩
theorem ia31 : zia 31 := by unfold zia; omega
theorem ia32 : zia 32 := by unfold zia; omega
theorem ia33 : zia 33 := by unfold zia; omega
theorem zct_congr {m m' : Nat → Int32} : ∀ k, (∀ t, t < k → m t = m' t) → zct m k = zct m' k := by
  intro k
  induction k with
  | zero => intro _; rfl
  | succ k ih =>
    intro h
    have h1 := ih (fun t ht => h t (by omega))
    have h2 := h k (by omega)
    unfold zct at h1 ⊢
    simp only [fm, h1, h2]
theorem zct_le (m : Nat → Int32) : ∀ k, zct m k ≤ k := by
  intro k
  induction k with
  | zero => exact Nat.le_refl _
  | succ k ih =>
    unfold zct at ih ⊢
    simp only [fm]
    split <;> omega
theorem zgr7 {x : Int32} (h0 : ¬ x < 0) (h7 : x ≤ 7) : zgr x := by
  obtain ⟨j, hj, rfl⟩ := nI_of h0
  exact ⟨j, by have := (nI_leI (b := 7) hj (by decide)).mp h7; omega, rfl⟩
set_option maxHeartbeats 4000000 in
set_option maxRecDepth 100000 in
theorem c_mthrown (l : Launch) (G : zG) {σ : zS}  : zC l G y_Mo_thrown w_Mo_thrown (zrm 0 0) 0 0 [.ref (zad G 30)] σ (fun v σ' => v = some (.int (σ.1 30 0)) ∧ σ = σ') := by
  refine zC_of (cc := c_Mo_thrown) (nL := 1) (ret := (some .int)) (own := R_Mo) (by decide +kernel) rfl rfl (Nat.le_of_ble_eq_true rfl) ?_
  refine zb_lv (lv' := [(0, .ref (zad G 30))]) rfl ?_
  refine zb_aload_n d_Mo_thrown_0 rfl rfl ?_
  refine zm_thrown d_Mo_thrown_1 fl_Mo_7 ?_
  exact zb_iret d_Mo_thrown_4 rfl ⟨rfl, rfl⟩
set_option maxHeartbeats 4000000 in
set_option maxRecDepth 100000 in
theorem c_refuse_y (l : Launch) (G : zG) {σ : zS} {k : Int32} : zC l G y_Mo_refuse w_Mo_refuse (zrm 0 0) 0 0 [.ref (zad G 30), .int k, .int 1] σ (fun v σ' => v = some (.int 1) ∧ zt σ σ' k) := by
  refine zC_of (cc := c_Mo_refuse) (nL := 3) (ret := (some .boolean)) (own := R_Mo) (by decide +kernel) rfl rfl (Nat.le_of_ble_eq_true rfl) ?_
  refine zb_lv (lv' := [(0, .ref (zad G 30)), (1, .int k), (2, .int 1)]) rfl ?_
  refine zb_iload_n d_Mo_refuse_0 rfl rfl ?_
  refine zb_if_eq (tgt := 9) d_Mo_refuse_1 rfl (fun h1 => absurd h1 (by decide)) (fun h1 => ?_)
  refine zb_aload_n d_Mo_refuse_4 rfl rfl ?_
  refine zb_iload_n d_Mo_refuse_5 rfl rfl ?_
  refine zm_put_thrown d_Mo_refuse_6 fl_Mo_7 ?_
  refine zb_iload_n d_Mo_refuse_9 rfl rfl ?_
  exact zb_zret d_Mo_refuse_10 rfl rfl ⟨rfl, zt_zu σ k⟩
set_option maxHeartbeats 4000000 in
set_option maxRecDepth 100000 in
theorem c_refuse_n (l : Launch) (G : zG) {σ : zS} {k : Int32} : zC l G y_Mo_refuse w_Mo_refuse (zrm 0 0) 0 0 [.ref (zad G 30), .int k, .int 0] σ (fun v σ' => v = some (.int 0) ∧ σ = σ') := by
  refine zC_of (cc := c_Mo_refuse) (nL := 3) (ret := (some .boolean)) (own := R_Mo) (by decide +kernel) rfl rfl (Nat.le_of_ble_eq_true rfl) ?_
  refine zb_lv (lv' := [(0, .ref (zad G 30)), (1, .int k), (2, .int 0)]) rfl ?_
  refine zb_iload_n d_Mo_refuse_0 rfl rfl ?_
  refine zb_if_eq (tgt := 9) d_Mo_refuse_1 rfl (fun h1 => ?_) (fun h1 => absurd rfl h1)
  refine zb_iload_n d_Mo_refuse_9 rfl rfl ?_
  exact zb_zret d_Mo_refuse_10 rfl rfl ⟨rfl, rfl⟩
set_option maxHeartbeats 4000000 in
set_option maxRecDepth 100000 in
theorem c_none_y (l : Launch) (G : zG) {σ : zS} {x : Int32} (h : ¬ zgr x) : zC l G y_Mo_none w_Mo_none (zrm 1 22) 0 0 [.ref (zad G 30), .int x] σ (fun v σ' => v = some (.int 1) ∧ zt σ σ' 1) := by
  refine zC_of (cc := c_Mo_none) (nL := 2) (ret := (some .boolean)) (own := R_Mo) (by decide +kernel) rfl rfl (Nat.le_of_ble_eq_true rfl) ?_
  refine zb_lv (lv' := [(0, .ref (zad G 30)), (1, .int x)]) rfl ?_
  refine zb_aload_n d_Mo_none_0 rfl rfl ?_
  refine zb_iconst (v := 0) d_Mo_none_1 rfl ?_
  refine zm_put_thrown d_Mo_none_2 fl_Mo_7 ?_
  refine zb_aload_n d_Mo_none_5 rfl rfl ?_
  refine zb_iconst (v := 1) d_Mo_none_6 rfl ?_
  refine zb_iload_n d_Mo_none_7 rfl rfl ?_
  refine zb_if_lt (tgt := 17) d_Mo_none_8 rfl (fun h8 => ?_) (fun h8 => ?_)
  · refine zb_iconst (v := 1) d_Mo_none_17 rfl ?_
    refine zb_goto (tgt := 22) d_Mo_none_18 rfl ?_
    refine zb_callV (rest := []) (c_refuse_y l G) (lk_Mo_28.cw rfl rfl ⟨Nat.le_of_ble_eq_true rfl, Nat.le_of_ble_eq_true rfl⟩) zgM rfl rfl rfl rfl (Nat.le_of_ble_eq_true rfl) d_Mo_none_22 ⟨Nat.le_of_ble_eq_true rfl, Nat.le_of_ble_eq_true rfl⟩ ?_
    rintro _ _ ⟨rfl, z1⟩
    rename_i σ9
    refine zb_st (st' := [.int 1]) rfl ?_
    exact zb_zret d_Mo_none_25 rfl rfl ⟨rfl, (zt_zu σ 0).tr z1⟩
  · refine zb_iload_n d_Mo_none_11 rfl rfl ?_
    refine zb_bipush (v := 7) d_Mo_none_12 rfl ?_
    refine zb_icmp_le (tgt := 21) d_Mo_none_14 rfl (fun h14 => absurd h14 (fun z => h (zgr7 h8 z))) (fun h14 => ?_)
    refine zb_iconst (v := 1) d_Mo_none_17 rfl ?_
    refine zb_goto (tgt := 22) d_Mo_none_18 rfl ?_
    refine zb_callV (rest := []) (c_refuse_y l G) (lk_Mo_28.cw rfl rfl ⟨Nat.le_of_ble_eq_true rfl, Nat.le_of_ble_eq_true rfl⟩) zgM rfl rfl rfl rfl (Nat.le_of_ble_eq_true rfl) d_Mo_none_22 ⟨Nat.le_of_ble_eq_true rfl, Nat.le_of_ble_eq_true rfl⟩ ?_
    rintro _ _ ⟨rfl, z1⟩
    rename_i σ9
    refine zb_st (st' := [.int 1]) rfl ?_
    exact zb_zret d_Mo_none_25 rfl rfl ⟨rfl, (zt_zu σ 0).tr z1⟩
set_option maxHeartbeats 4000000 in
set_option maxRecDepth 100000 in
theorem c_none_n (l : Launch) (G : zG) {σ : zS} {r : Nat} (hr : r < 8) : zC l G y_Mo_none w_Mo_none (zrm 1 22) 0 0 [.ref (zad G 30), .int (nI r)] σ (fun v σ' => v = some (.int 0) ∧ zt σ σ' 0) := by
  refine zC_of (cc := c_Mo_none) (nL := 2) (ret := (some .boolean)) (own := R_Mo) (by decide +kernel) rfl rfl (Nat.le_of_ble_eq_true rfl) ?_
  refine zb_lv (lv' := [(0, .ref (zad G 30)), (1, .int (nI r))]) rfl ?_
  refine zb_aload_n d_Mo_none_0 rfl rfl ?_
  refine zb_iconst (v := 0) d_Mo_none_1 rfl ?_
  refine zm_put_thrown d_Mo_none_2 fl_Mo_7 ?_
  refine zb_aload_n d_Mo_none_5 rfl rfl ?_
  refine zb_iconst (v := 1) d_Mo_none_6 rfl ?_
  refine zb_iload_n d_Mo_none_7 rfl rfl ?_
  refine zb_if_lt (tgt := 17) d_Mo_none_8 rfl (fun h8 => absurd h8 (nI_pos (by omega))) (fun h8 => ?_)
  refine zb_iload_n d_Mo_none_11 rfl rfl ?_
  refine zb_bipush (v := 7) d_Mo_none_12 rfl ?_
  refine zb_icmp_le (tgt := 21) d_Mo_none_14 rfl (fun h14 => ?_) (fun h14 => absurd (nI_le (b := 7) (show r ≤ 7 by omega) (by decide)) h14)
  refine zb_iconst (v := 0) d_Mo_none_21 rfl ?_
  refine zb_callV (rest := []) (c_refuse_n l G) (lk_Mo_28.cw rfl rfl ⟨Nat.le_of_ble_eq_true rfl, Nat.le_of_ble_eq_true rfl⟩) zgM rfl rfl rfl rfl (Nat.le_of_ble_eq_true rfl) d_Mo_none_22 ⟨Nat.le_of_ble_eq_true rfl, Nat.le_of_ble_eq_true rfl⟩ ?_
  rintro _ _ ⟨rfl, rfl⟩
  refine zb_st (st' := [.int 0]) rfl ?_
  exact zb_zret d_Mo_none_25 rfl rfl ⟨rfl, zt_zu σ 0⟩
set_option maxHeartbeats 4000000 in
set_option maxRecDepth 100000 in
theorem lp_many (l : Launch) (G : zG) {σ : zS} {q f : Nat} (hq : zia q) (hf : f + 4096 ≤ zn q) : ∀ k i : Nat, i + k = 4096 → zB l G w_Mo_many R_Mo c_Mo_many 4 (some .int) [] (zrm 0 0) (zR G (fun v σ' => v = some (.int (nI (zct (fun t => σ.1 q (f + t)) 4096))) ∧ σ = σ') 0 0) 0 0 4 [(3, .int (nI i)), (2, .int (nI (zct (fun t => σ.1 q (f + t)) i))), (0, .ref (zad G q)), (1, .int (nI f))] [] σ := by
  intro k
  induction k with
  | zero =>
    intro i hi
    have e : i = 4096 := by omega
    refine zb_iload_n d_Mo_many_4 rfl rfl ?_
    refine zb_sipush (v := 4096) d_Mo_many_5 rfl ?_
    refine zb_icmp_ge (tgt := 28) d_Mo_many_8 rfl (fun h8 => ?_) (fun h8 => absurd (nI_le (a := 4096) (b := i) (by omega) (by omega)) h8)
    refine zb_iload_n d_Mo_many_28 rfl rfl ?_
    exact zb_iret d_Mo_many_29 rfl ⟨by rw [e], rfl⟩
  | succ k ih =>
    intro i hi
    have hlt : i < 4096 := by omega
    refine zb_iload_n d_Mo_many_4 rfl rfl ?_
    refine zb_sipush (v := 4096) d_Mo_many_5 rfl ?_
    refine zb_icmp_ge (tgt := 28) d_Mo_many_8 rfl (fun h8 => absurd h8 (nI_ge (a := i) (b := 4096) (by omega) (by omega))) (fun h8 => ?_)
    refine zb_aload_n d_Mo_many_11 rfl rfl ?_
    refine zb_iload_n d_Mo_many_12 rfl rfl ?_
    refine zb_iload_n d_Mo_many_13 rfl rfl ?_
    refine zb_iadd d_Mo_many_14 ?_
    refine zb_top (y := nI (f + i)) (nI_add _ _) ?_
    refine zb_ialdN (q := q) (j := (f + i)) d_Mo_many_15 (hq) (by omega) ?_
    refine zb_if_eq (tgt := 22) d_Mo_many_16 rfl (fun h16 => ?_) (fun h16 => ?_)
    · refine zb_iinc (v := nI (i + 1)) (lv' := [(3, .int (nI (i + 1))), (2, .int (nI (zct (fun t => σ.1 q (f + t)) i))), (0, .ref (zad G q)), (1, .int (nI f))]) d_Mo_many_22 rfl (nI_1 i) (by decide) rfl ?_
      refine zb_goto (tgt := 4) d_Mo_many_25 rfl ?_
      have e : zct (fun t => σ.1 q (f + t)) (i + 1) = zct (fun t => σ.1 q (f + t)) i := if_pos h16
      refine zb_sub [0, 1, 2, 3] rfl ?_
      have hh := ih (i + 1) (by omega)
      rw [e] at hh
      exact hh
    · refine zb_iinc (v := nI (zct (fun t => σ.1 q (f + t)) i + 1)) (lv' := [(2, .int (nI (zct (fun t => σ.1 q (f + t)) i + 1))), (3, .int (nI i)), (0, .ref (zad G q)), (1, .int (nI f))]) d_Mo_many_19 rfl (nI_1 _) (by decide) rfl ?_
      refine zb_iinc (v := nI (i + 1)) (lv' := [(3, .int (nI (i + 1))), (2, .int (nI (zct (fun t => σ.1 q (f + t)) i + 1))), (0, .ref (zad G q)), (1, .int (nI f))]) d_Mo_many_22 rfl (nI_1 i) (by decide) rfl ?_
      refine zb_goto (tgt := 4) d_Mo_many_25 rfl ?_
      have e : zct (fun t => σ.1 q (f + t)) (i + 1) = zct (fun t => σ.1 q (f + t)) i + 1 := if_neg h16
      refine zb_sub [0, 1, 2, 3] rfl ?_
      have hh := ih (i + 1) (by omega)
      rw [e] at hh
      exact hh
set_option maxHeartbeats 4000000 in
set_option maxRecDepth 100000 in
/-- many(of, from) -/
theorem c_many (l : Launch) (G : zG) {σ : zS} {q f : Nat} (hq : zia q) (hf : f + 4096 ≤ zn q) : zC l G y_Mo_many w_Mo_many (zrm 0 0) 0 0 [.ref (zad G q), .int (nI f)] σ (fun v σ' => v = some (.int (nI (zct (fun t => σ.1 q (f + t)) 4096))) ∧ σ = σ') := by
  refine zC_of (cc := c_Mo_many) (nL := 4) (ret := (some .int)) (own := R_Mo) (by decide +kernel) rfl rfl (Nat.le_of_ble_eq_true rfl) ?_
  refine zb_lv (lv' := [(0, .ref (zad G q)), (1, .int (nI f))]) rfl ?_
  refine zb_iconst (v := 0) d_Mo_many_0 rfl ?_
  refine zb_istore_n (lv' := [(2, .int 0), (0, .ref (zad G q)), (1, .int (nI f))]) d_Mo_many_1 rfl (by decide) rfl ?_
  refine zb_iconst (v := 0) d_Mo_many_2 rfl ?_
  refine zb_istore_n (lv' := [(3, .int 0), (2, .int 0), (0, .ref (zad G q)), (1, .int (nI f))]) d_Mo_many_3 rfl (by decide) rfl ?_
  refine zb_lv (lv' := [(3, .int (nI 0)), (2, .int (nI 0)), (0, .ref (zad G q)), (1, .int (nI f))]) rfl ?_
  exact lp_many l G hq hf 4096 0 rfl
set_option maxHeartbeats 4000000 in
set_option maxRecDepth 100000 in
theorem c_in (l : Launch) (G : zG) {σ : zS} {r : Nat} {M : Nat → Nat → Int32} {w : Nat → Nat} (hm : zmw σ M w) (hr : r < 8) : zC l G y_Mo_in w_Mo_in (zrm 1 24) 0 0 [.ref (zad G 30), .int (nI r)] σ (fun v σ' => v = some (.int (nI (zct (M r) 4096))) ∧ σ = σ') := by
  refine zC_of (cc := c_Mo_in) (nL := 2) (ret := (some .int)) (own := R_Mo) (by decide +kernel) rfl rfl (Nat.le_of_ble_eq_true rfl) ?_
  refine zb_lv (lv' := [(0, .ref (zad G 30)), (1, .int (nI r))]) rfl ?_
  refine zb_aload_n d_Mo_in_0 rfl rfl ?_
  refine zm_counts d_Mo_in_1 fl_Mo_18 ?_
  refine zb_sipush (v := 4096) d_Mo_in_4 rfl ?_
  refine zb_iload_n d_Mo_in_7 rfl rfl ?_
  refine zb_imul d_Mo_in_8 ?_
  refine zb_top (y := nI (4096 * r)) (pk_mul 4096 r) ?_
  refine zb_callS (rest := []) (c_many l G (q := 32) (f := 4096 * r) ia32 (show 4096 * r + 4096 ≤ 32768 by omega)) (lk_Mo_32.cw rfl rfl ⟨Nat.le_of_ble_eq_true rfl, Nat.le_of_ble_eq_true rfl⟩) rfl rfl (Nat.le_of_ble_eq_true rfl) d_Mo_in_9 ⟨Nat.le_of_ble_eq_true rfl, Nat.le_of_ble_eq_true rfl⟩ ?_
  rintro _ _ ⟨rfl, rfl⟩
  refine zb_st (st' := [.int (nI (zct (fun t => σ.1 32 (4096 * r + t)) 4096))]) rfl ?_
  refine zb_top (y := nI (zct (M r) 4096)) (by rw [zct_congr 4096 (fun t ht => hm.2 r t hr ht)]) ?_
  exact zb_iret d_Mo_in_12 rfl ⟨rfl, rfl⟩
set_option maxHeartbeats 4000000 in
set_option maxRecDepth 100000 in
theorem c_of (l : Launch) (G : zG) {σ : zS} {r t : Nat} {M : Nat → Nat → Int32} {w : Nat → Nat} (hm : zmw σ M w) (hr : r < 8) (ht : t < 4096) : zC l G y_Mo_of w_Mo_of (zrm 0 0) 0 0 [.ref (zad G 30), .int (nI r), .int (nI t)] σ (fun v σ' => v = some (.int (M r t)) ∧ σ = σ') := by
  refine zC_of (cc := c_Mo_of) (nL := 3) (ret := (some .int)) (own := R_Mo) (by decide +kernel) rfl rfl (Nat.le_of_ble_eq_true rfl) ?_
  refine zb_lv (lv' := [(0, .ref (zad G 30)), (1, .int (nI r)), (2, .int (nI t))]) rfl ?_
  refine zb_aload_n d_Mo_of_0 rfl rfl ?_
  refine zm_counts d_Mo_of_1 fl_Mo_18 ?_
  refine zb_sipush (v := 4096) d_Mo_of_4 rfl ?_
  refine zb_iload_n d_Mo_of_7 rfl rfl ?_
  refine zb_imul d_Mo_of_8 ?_
  refine zb_top (y := nI (4096 * r)) (pk_mul 4096 r) ?_
  refine zb_iload_n d_Mo_of_9 rfl rfl ?_
  refine zb_iadd d_Mo_of_10 ?_
  refine zb_top (y := nI (4096 * r + t)) (nI_add _ _) ?_
  refine zb_ialdN (q := 32) (j := (4096 * r + t)) d_Mo_of_11 (ia32) (show 4096 * r + t < 32768 by omega) ?_
  refine zb_top (y := M r t) (hm.2 r t hr ht) ?_
  exact zb_iret d_Mo_of_12 rfl ⟨rfl, rfl⟩
def pcs (k : Nat) : Nat → Nat
  | 0 => 0
  | i + 1 => pcs k i + k / 2 ^ i % 2
theorem pcs_16 (k : Nat) : pcs k 16 = pc16 k := by simp only [pcs, pc16, Nat.pow_zero, Nat.div_one, Nat.zero_add, Nat.reducePow]
set_option maxHeartbeats 4000000 in
set_option maxRecDepth 100000 in
theorem lp_bits (l : Launch) (G : zG) {σ : zS} {k : Nat} (hk : k < 65536) : ∀ d i : Nat, i + d = 16 → zB l G w_Mo_bits R_Mo c_Mo_bits 3 (some .int) [] (zrm 0 0) (zR G (fun v σ' => v = some (.int (nI (pc16 k))) ∧ σ = σ') 0 0) 0 0 4 [(2, .int (nI i)), (1, .int (nI (pcs k i))), (0, .int (nI k))] [] σ := by
  intro d
  induction d with
  | zero =>
    intro i hi
    have e : i = 16 := by omega
    refine zb_iload_n d_Mo_bits_4 rfl rfl ?_
    refine zb_bipush (v := 16) d_Mo_bits_5 rfl ?_
    refine zb_icmp_ge (tgt := 24) d_Mo_bits_7 rfl (fun h7 => ?_) (fun h7 => absurd (nI_le (a := 16) (b := i) (by omega) (by omega)) h7)
    refine zb_iload_n d_Mo_bits_24 rfl rfl ?_
    exact zb_iret d_Mo_bits_25 rfl ⟨by rw [e, pcs_16], rfl⟩
  | succ d ih =>
    intro i hi
    have hlt : i < 16 := by omega
    refine zb_iload_n d_Mo_bits_4 rfl rfl ?_
    refine zb_bipush (v := 16) d_Mo_bits_5 rfl ?_
    refine zb_icmp_ge (tgt := 24) d_Mo_bits_7 rfl (fun h7 => absurd h7 (nI_ge (a := i) (b := 16) (by omega) (by omega))) (fun h7 => ?_)
    refine zb_iload_n d_Mo_bits_10 rfl rfl ?_
    refine zb_iload_n d_Mo_bits_11 rfl rfl ?_
    refine zb_iload_n d_Mo_bits_12 rfl rfl ?_
    refine zb_ishr d_Mo_bits_13 ?_
    refine zb_top (y := nI (k / 2 ^ i)) (sh_r (by omega) (by omega)) ?_
    refine zb_iconst (v := 1) d_Mo_bits_14 rfl ?_
    refine zb_iand d_Mo_bits_15 ?_
    refine zb_top (y := nI (k / 2 ^ i % 2)) (pk_andN (Nat.lt_of_le_of_lt (Nat.div_le_self _ _) (by omega)) 1 rfl) ?_
    refine zb_iadd d_Mo_bits_16 ?_
    refine zb_top (y := nI (pcs k i + k / 2 ^ i % 2)) (nI_add _ _) ?_
    refine zb_istore_n (lv' := [(1, .int (nI (pcs k i + k / 2 ^ i % 2))), (2, .int (nI i)), (0, .int (nI k))]) d_Mo_bits_17 rfl (by decide) rfl ?_
    refine zb_iinc (v := nI (i + 1)) (lv' := [(2, .int (nI (i + 1))), (1, .int (nI (pcs k i + k / 2 ^ i % 2))), (0, .int (nI k))]) d_Mo_bits_18 rfl (nI_1 i) (by decide) rfl ?_
    refine zb_goto (tgt := 4) d_Mo_bits_21 rfl ?_
    refine zb_sub [0, 1, 2] rfl ?_
    exact ih (i + 1) (by omega)
set_option maxHeartbeats 4000000 in
set_option maxRecDepth 100000 in
/-- bits(set) -/
theorem c_bits (l : Launch) (G : zG) {σ : zS} {k : Nat} (hk : k < 65536) : zC l G y_Mo_bits w_Mo_bits (zrm 0 0) 0 0 [.int (nI k)] σ (fun v σ' => v = some (.int (nI (pc16 k))) ∧ σ = σ') := by
  refine zC_of (cc := c_Mo_bits) (nL := 3) (ret := (some .int)) (own := R_Mo) (by decide +kernel) rfl rfl (Nat.le_of_ble_eq_true rfl) ?_
  refine zb_lv (lv' := [(0, .int (nI k))]) rfl ?_
  refine zb_iconst (v := 0) d_Mo_bits_0 rfl ?_
  refine zb_istore_n (lv' := [(1, .int 0), (0, .int (nI k))]) d_Mo_bits_1 rfl (by decide) rfl ?_
  refine zb_iconst (v := 0) d_Mo_bits_2 rfl ?_
  refine zb_istore_n (lv' := [(2, .int 0), (1, .int 0), (0, .int (nI k))]) d_Mo_bits_3 rfl (by decide) rfl ?_
  refine zb_lv (lv' := [(2, .int (nI 0)), (1, .int (nI 0)), (0, .int (nI k))]) rfl ?_
  exact lp_bits l G hk 16 0 rfl
set_option maxHeartbeats 4000000 in
set_option maxRecDepth 100000 in
theorem c_mT_y (l : Launch) (G : zG) {σ : zS} {t u : Nat} (h1 : 1 ≤ u) (h3 : u ≤ 3) (ht : t < 4096) (hd : t % 2 ^ (12 - 4 * u) = 0) : zC l G y_Mo_isTuple w_Mo_isTuple (zrm 0 0) 0 0 [.int (nI t), .int (nI u)] σ (fun v σ' => v = some (.int 1) ∧ σ = σ') := by
  refine zC_of (cc := c_Mo_isTuple) (nL := 2) (ret := (some .boolean)) (own := R_Mo) (by decide +kernel) rfl rfl (Nat.le_of_ble_eq_true rfl) ?_
  refine zb_lv (lv' := [(0, .int (nI t)), (1, .int (nI u))]) rfl ?_
  refine zb_iload_n d_Mo_isTuple_0 rfl rfl ?_
  refine zb_if_lt (tgt := 42) d_Mo_isTuple_1 rfl (fun h1 => absurd h1 (nI_pos (by omega))) (fun h1 => ?_)
  refine zb_iload_n d_Mo_isTuple_4 rfl rfl ?_
  refine zb_sipush (v := 4096) d_Mo_isTuple_5 rfl ?_
  refine zb_icmp_ge (tgt := 42) d_Mo_isTuple_8 rfl (fun h8 => absurd h8 (nI_ge (b := 4096) ht (by decide))) (fun h8 => ?_)
  rcases (show u = 1 ∨ u = 2 ∨ u = 3 by omega) with rfl | rfl | rfl
  · refine zb_lv (lv' := [(0, .int (nI t)), (1, .int (nI 1))]) rfl ?_
    refine zb_iload_n d_Mo_isTuple_11 rfl rfl ?_
    refine zb_iload_n d_Mo_isTuple_12 rfl rfl ?_
    refine zb_iconst (v := 1) d_Mo_isTuple_13 rfl ?_
    refine zb_icmp_ne (tgt := 23) d_Mo_isTuple_14 rfl (fun h14 => absurd h14 (by decide)) (fun h14 => ?_)
    refine zb_sipush (v := 256) d_Mo_isTuple_17 rfl ?_
    refine zb_goto (tgt := 34) d_Mo_isTuple_20 rfl ?_
    refine zb_irem d_Mo_isTuple_34 (by decide) ?_
    refine zb_top (y := nI (t % 256)) (pk_rem (d := 256) (by omega) (by decide) (by decide)) ?_
    refine zb_if_ne (tgt := 42) d_Mo_isTuple_35 rfl (fun h35 => absurd h35 (fun z => z (by rw [show t % 256 = 0 from hd]; rfl))) (fun h35 => ?_)
    refine zb_iconst (v := 1) d_Mo_isTuple_38 rfl ?_
    refine zb_goto (tgt := 43) d_Mo_isTuple_39 rfl ?_
    exact zb_zret d_Mo_isTuple_43 rfl rfl ⟨rfl, rfl⟩
  · refine zb_lv (lv' := [(0, .int (nI t)), (1, .int (nI 2))]) rfl ?_
    refine zb_iload_n d_Mo_isTuple_11 rfl rfl ?_
    refine zb_iload_n d_Mo_isTuple_12 rfl rfl ?_
    refine zb_iconst (v := 1) d_Mo_isTuple_13 rfl ?_
    refine zb_icmp_ne (tgt := 23) d_Mo_isTuple_14 rfl (fun h14 => ?_) (fun h14 => absurd h14 (by decide))
    refine zb_iload_n d_Mo_isTuple_23 rfl rfl ?_
    refine zb_iconst (v := 2) d_Mo_isTuple_24 rfl ?_
    refine zb_icmp_ne (tgt := 33) d_Mo_isTuple_25 rfl (fun h25 => absurd h25 (by decide)) (fun h25 => ?_)
    refine zb_bipush (v := 16) d_Mo_isTuple_28 rfl ?_
    refine zb_goto (tgt := 34) d_Mo_isTuple_30 rfl ?_
    refine zb_irem d_Mo_isTuple_34 (by decide) ?_
    refine zb_top (y := nI (t % 16)) (pk_rem (d := 16) (by omega) (by decide) (by decide)) ?_
    refine zb_if_ne (tgt := 42) d_Mo_isTuple_35 rfl (fun h35 => absurd h35 (fun z => z (by rw [show t % 16 = 0 from hd]; rfl))) (fun h35 => ?_)
    refine zb_iconst (v := 1) d_Mo_isTuple_38 rfl ?_
    refine zb_goto (tgt := 43) d_Mo_isTuple_39 rfl ?_
    exact zb_zret d_Mo_isTuple_43 rfl rfl ⟨rfl, rfl⟩
  · refine zb_lv (lv' := [(0, .int (nI t)), (1, .int (nI 3))]) rfl ?_
    refine zb_iload_n d_Mo_isTuple_11 rfl rfl ?_
    refine zb_iload_n d_Mo_isTuple_12 rfl rfl ?_
    refine zb_iconst (v := 1) d_Mo_isTuple_13 rfl ?_
    refine zb_icmp_ne (tgt := 23) d_Mo_isTuple_14 rfl (fun h14 => ?_) (fun h14 => absurd h14 (by decide))
    refine zb_iload_n d_Mo_isTuple_23 rfl rfl ?_
    refine zb_iconst (v := 2) d_Mo_isTuple_24 rfl ?_
    refine zb_icmp_ne (tgt := 33) d_Mo_isTuple_25 rfl (fun h25 => ?_) (fun h25 => absurd h25 (by decide))
    refine zb_iconst (v := 1) d_Mo_isTuple_33 rfl ?_
    refine zb_irem d_Mo_isTuple_34 (by decide) ?_
    refine zb_top (y := nI (t % 1)) (pk_rem (d := 1) (by omega) (by decide) (by decide)) ?_
    refine zb_if_ne (tgt := 42) d_Mo_isTuple_35 rfl (fun h35 => absurd h35 (fun z => z (by rw [show t % 1 = 0 from hd]; rfl))) (fun h35 => ?_)
    refine zb_iconst (v := 1) d_Mo_isTuple_38 rfl ?_
    refine zb_goto (tgt := 43) d_Mo_isTuple_39 rfl ?_
    exact zb_zret d_Mo_isTuple_43 rfl rfl ⟨rfl, rfl⟩
set_option maxHeartbeats 4000000 in
set_option maxRecDepth 100000 in
theorem c_mT_d (l : Launch) (G : zG) {σ : zS} {t u : Nat} (h1 : 1 ≤ u) (h3 : u ≤ 3) (ht : t < 4096) (hd : ¬ t % 2 ^ (12 - 4 * u) = 0) : zC l G y_Mo_isTuple w_Mo_isTuple (zrm 0 0) 0 0 [.int (nI t), .int (nI u)] σ (fun v σ' => v = some (.int 0) ∧ σ = σ') := by
  refine zC_of (cc := c_Mo_isTuple) (nL := 2) (ret := (some .boolean)) (own := R_Mo) (by decide +kernel) rfl rfl (Nat.le_of_ble_eq_true rfl) ?_
  refine zb_lv (lv' := [(0, .int (nI t)), (1, .int (nI u))]) rfl ?_
  refine zb_iload_n d_Mo_isTuple_0 rfl rfl ?_
  refine zb_if_lt (tgt := 42) d_Mo_isTuple_1 rfl (fun h1 => absurd h1 (nI_pos (by omega))) (fun h1 => ?_)
  refine zb_iload_n d_Mo_isTuple_4 rfl rfl ?_
  refine zb_sipush (v := 4096) d_Mo_isTuple_5 rfl ?_
  refine zb_icmp_ge (tgt := 42) d_Mo_isTuple_8 rfl (fun h8 => absurd h8 (nI_ge (b := 4096) ht (by decide))) (fun h8 => ?_)
  rcases (show u = 1 ∨ u = 2 ∨ u = 3 by omega) with rfl | rfl | rfl
  · refine zb_lv (lv' := [(0, .int (nI t)), (1, .int (nI 1))]) rfl ?_
    refine zb_iload_n d_Mo_isTuple_11 rfl rfl ?_
    refine zb_iload_n d_Mo_isTuple_12 rfl rfl ?_
    refine zb_iconst (v := 1) d_Mo_isTuple_13 rfl ?_
    refine zb_icmp_ne (tgt := 23) d_Mo_isTuple_14 rfl (fun h14 => absurd h14 (by decide)) (fun h14 => ?_)
    refine zb_sipush (v := 256) d_Mo_isTuple_17 rfl ?_
    refine zb_goto (tgt := 34) d_Mo_isTuple_20 rfl ?_
    refine zb_irem d_Mo_isTuple_34 (by decide) ?_
    refine zb_top (y := nI (t % 256)) (pk_rem (d := 256) (by omega) (by decide) (by decide)) ?_
    refine zb_if_ne (tgt := 42) d_Mo_isTuple_35 rfl (fun h35 => ?_) (fun h35 => absurd h35 (nI_ne0 (Nat.pos_of_ne_zero hd) (by have := Nat.mod_lt t (show 0 < 256 by decide); omega)))
    refine zb_iconst (v := 0) d_Mo_isTuple_42 rfl ?_
    exact zb_zret d_Mo_isTuple_43 rfl rfl ⟨rfl, rfl⟩
  · refine zb_lv (lv' := [(0, .int (nI t)), (1, .int (nI 2))]) rfl ?_
    refine zb_iload_n d_Mo_isTuple_11 rfl rfl ?_
    refine zb_iload_n d_Mo_isTuple_12 rfl rfl ?_
    refine zb_iconst (v := 1) d_Mo_isTuple_13 rfl ?_
    refine zb_icmp_ne (tgt := 23) d_Mo_isTuple_14 rfl (fun h14 => ?_) (fun h14 => absurd h14 (by decide))
    refine zb_iload_n d_Mo_isTuple_23 rfl rfl ?_
    refine zb_iconst (v := 2) d_Mo_isTuple_24 rfl ?_
    refine zb_icmp_ne (tgt := 33) d_Mo_isTuple_25 rfl (fun h25 => absurd h25 (by decide)) (fun h25 => ?_)
    refine zb_bipush (v := 16) d_Mo_isTuple_28 rfl ?_
    refine zb_goto (tgt := 34) d_Mo_isTuple_30 rfl ?_
    refine zb_irem d_Mo_isTuple_34 (by decide) ?_
    refine zb_top (y := nI (t % 16)) (pk_rem (d := 16) (by omega) (by decide) (by decide)) ?_
    refine zb_if_ne (tgt := 42) d_Mo_isTuple_35 rfl (fun h35 => ?_) (fun h35 => absurd h35 (nI_ne0 (Nat.pos_of_ne_zero hd) (by have := Nat.mod_lt t (show 0 < 16 by decide); omega)))
    refine zb_iconst (v := 0) d_Mo_isTuple_42 rfl ?_
    exact zb_zret d_Mo_isTuple_43 rfl rfl ⟨rfl, rfl⟩
  · refine zb_lv (lv' := [(0, .int (nI t)), (1, .int (nI 3))]) rfl ?_
    refine zb_iload_n d_Mo_isTuple_11 rfl rfl ?_
    refine zb_iload_n d_Mo_isTuple_12 rfl rfl ?_
    refine zb_iconst (v := 1) d_Mo_isTuple_13 rfl ?_
    refine zb_icmp_ne (tgt := 23) d_Mo_isTuple_14 rfl (fun h14 => ?_) (fun h14 => absurd h14 (by decide))
    refine zb_iload_n d_Mo_isTuple_23 rfl rfl ?_
    refine zb_iconst (v := 2) d_Mo_isTuple_24 rfl ?_
    refine zb_icmp_ne (tgt := 33) d_Mo_isTuple_25 rfl (fun h25 => ?_) (fun h25 => absurd h25 (by decide))
    refine zb_iconst (v := 1) d_Mo_isTuple_33 rfl ?_
    refine zb_irem d_Mo_isTuple_34 (by decide) ?_
    refine zb_top (y := nI (t % 1)) (pk_rem (d := 1) (by omega) (by decide) (by decide)) ?_
    refine zb_if_ne (tgt := 42) d_Mo_isTuple_35 rfl (fun h35 => ?_) (fun h35 => absurd h35 (nI_ne0 (Nat.pos_of_ne_zero hd) (by have := Nat.mod_lt t (show 0 < 1 by decide); omega)))
    refine zb_iconst (v := 0) d_Mo_isTuple_42 rfl ?_
    exact zb_zret d_Mo_isTuple_43 rfl rfl ⟨rfl, rfl⟩
set_option maxHeartbeats 4000000 in
set_option maxRecDepth 100000 in
theorem c_mT_o (l : Launch) (G : zG) {σ : zS} {t : Int32} {u : Nat} (hb : ¬ t < 0 → 4096 ≤ t) : zC l G y_Mo_isTuple w_Mo_isTuple (zrm 0 0) 0 0 [.int t, .int (nI u)] σ (fun v σ' => v = some (.int 0) ∧ σ = σ') := by
  refine zC_of (cc := c_Mo_isTuple) (nL := 2) (ret := (some .boolean)) (own := R_Mo) (by decide +kernel) rfl rfl (Nat.le_of_ble_eq_true rfl) ?_
  refine zb_lv (lv' := [(0, .int t), (1, .int (nI u))]) rfl ?_
  refine zb_iload_n d_Mo_isTuple_0 rfl rfl ?_
  refine zb_if_lt (tgt := 42) d_Mo_isTuple_1 rfl (fun h1 => ?_) (fun h1 => ?_)
  · refine zb_iconst (v := 0) d_Mo_isTuple_42 rfl ?_
    exact zb_zret d_Mo_isTuple_43 rfl rfl ⟨rfl, rfl⟩
  · refine zb_iload_n d_Mo_isTuple_4 rfl rfl ?_
    refine zb_sipush (v := 4096) d_Mo_isTuple_5 rfl ?_
    refine zb_icmp_ge (tgt := 42) d_Mo_isTuple_8 rfl (fun h8 => ?_) (fun h8 => absurd (hb h1) h8)
    refine zb_iconst (v := 0) d_Mo_isTuple_42 rfl ?_
    exact zb_zret d_Mo_isTuple_43 rfl rfl ⟨rfl, rfl⟩
theorem c_mT_n (l : Launch) (G : zG) {σ : zS} {t : Int32} {u : Nat} (h1 : 1 ≤ u) (h3 : u ≤ 3) (h : ¬ ztp t u) : zC l G y_Mo_isTuple w_Mo_isTuple (zrm 0 0) 0 0 [.int t, .int (nI u)] σ (fun v σ' => v = some (.int 0) ∧ σ = σ') := by
  by_cases h0 : t < 0
  · exact c_mT_o l G (fun z => absurd h0 z)
  · obtain ⟨j, hj, rfl⟩ := nI_of h0
    by_cases h4 : j < 4096
    · exact c_mT_d l G h1 h3 h4 (fun z => h ⟨j, h4, rfl, z⟩)
    · exact c_mT_o l G (fun _ => nI_le (a := 4096) (by omega) hj)
set_option maxHeartbeats 4000000 in
set_option maxRecDepth 100000 in
theorem c_number (l : Launch) (G : zG) {σ : zS} {t p : Nat} (ht : t < 4096) (hp : p < 3) : zC l G y_Mo_number w_Mo_number (zrm 0 0) 0 0 [.int (nI t), .int (nI p)] σ (fun v σ' => v = some (.int (nI (nu t p))) ∧ σ = σ') := by
  refine zC_of (cc := c_Mo_number) (nL := 2) (ret := (some .int)) (own := R_Mo) (by decide +kernel) rfl rfl (Nat.le_of_ble_eq_true rfl) ?_
  refine zb_lv (lv' := [(0, .int (nI t)), (1, .int (nI p))]) rfl ?_
  refine zb_iload_n d_Mo_number_0 rfl rfl ?_
  refine zb_bipush (v := 8) d_Mo_number_1 rfl ?_
  refine zb_iconst (v := 4) d_Mo_number_3 rfl ?_
  refine zb_iload_n d_Mo_number_4 rfl rfl ?_
  refine zb_imul d_Mo_number_5 ?_
  refine zb_top (y := nI (4 * p)) (pk_mul 4 p) ?_
  refine zb_isub d_Mo_number_6 ?_
  refine zb_top (y := nI (8 - 4 * p)) (pk_sub (a := 8) (by omega)) ?_
  refine zb_ishr d_Mo_number_7 ?_
  refine zb_top (y := nI (t / 2 ^ (8 - 4 * p))) (sh_r (by omega) (by omega)) ?_
  refine zb_bipush (v := 15) d_Mo_number_8 rfl ?_
  refine zb_iand d_Mo_number_10 ?_
  refine zb_top (y := nI (nu t p)) ((pk_andN (Nat.lt_of_le_of_lt (Nat.div_le_self _ _) (by omega)) 4 rfl).trans (by unfold nu; rw [show 12 - 4 * (p + 1) = 8 - 4 * p by omega])) ?_
  exact zb_iret d_Mo_number_11 rfl ⟨rfl, rfl⟩
