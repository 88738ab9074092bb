/-- a relation's number -/
def zgr (r : Int32) : Prop := ∃ k : Nat, k < 8 ∧ r = nI k
theorem zgr_of {r : Int32} (h0 : ¬ r < 0) (h8 : r < 8) : zgr r := by
  obtain ⟨j, hj, rfl⟩ := nI_of h0
  exact ⟨j, (nI_ltI hj (by decide)).mp h8, rfl⟩
theorem zgr_lt {r : Int32} (h : zgr r) : ¬ r < 0 ∧ r < 8 := by
  obtain ⟨k, hk, rfl⟩ := h
  exact ⟨nI_pos (by omega), nI_lt hk (by decide)⟩
set_option maxHeartbeats 4000000 in
set_option maxRecDepth 100000 in
/-- mustBeRelation(r) -/
theorem c_mustBe (l : Launch) (G : zG) {σ : zS} {r : Int32} (hl : l.stackTraces = false) : zCX l G y_Sh_mustBeRelation w_Sh_mustBeRelation (zrx 6 81) 1 6 [.int r] σ (fun v σ' => v = none ∧ zgr r ∧ σ = σ') (fun E σ' => E = zNS ∧ ¬ zgr r ∧ σ = σ') := by
  refine zCX_of (cc := c_Sh_mustBeRelation) (nL := 1) (ret := none) (own := R_Sh) (by decide +kernel) rfl rfl (Nat.le_of_ble_eq_true rfl) ?_
  refine zb_lv (lv' := [(0, .int r)]) rfl ?_
  refine zb_iload_n d_Sh_mustBeRelation_0 rfl rfl ?_
  refine zb_if_lt (tgt := 10) d_Sh_mustBeRelation_1 rfl (fun h1 => ?_) (fun h1 => ?_)
  · exact zx_throw xw_NS (Or.inl rfl) hl d_Sh_mustBeRelation_10 d_Sh_mustBeRelation_13 d_Sh_mustBeRelation_14 d_Sh_mustBeRelation_17 (Nat.le_of_ble_eq_true rfl) (Nat.le_of_ble_eq_true rfl) (Nat.le_refl _) (Nat.le_refl _) (Nat.le_refl _) (Nat.le_refl _) (⟨rfl, fun z => (zgr_lt z).1 h1, rfl⟩)
  · refine zb_iload_n d_Sh_mustBeRelation_4 rfl rfl ?_
    refine zb_bipush (v := 8) d_Sh_mustBeRelation_5 rfl ?_
    refine zb_icmp_lt (tgt := 18) d_Sh_mustBeRelation_7 rfl (fun h7 => ?_) (fun h7 => ?_)
    · exact zb_widen (Nat.zero_le 1) (Nat.zero_le 6) (zx_ret (zb_vret d_Sh_mustBeRelation_18 rfl ⟨rfl, zgr_of h1 h7, rfl⟩))
    · exact zx_throw xw_NS (Or.inl rfl) hl d_Sh_mustBeRelation_10 d_Sh_mustBeRelation_13 d_Sh_mustBeRelation_14 d_Sh_mustBeRelation_17 (Nat.le_of_ble_eq_true rfl) (Nat.le_of_ble_eq_true rfl) (Nat.le_refl _) (Nat.le_refl _) (Nat.le_refl _) (Nat.le_refl _) (⟨rfl, fun z => h7 (zgr_lt z).2, rfl⟩)
set_option maxHeartbeats 4000000 in
set_option maxRecDepth 100000 in
/-- Sh_refuseUnless -/
theorem c_refuseUnless (l : Launch) (G : zG) {σ : zS} {x : Int32} (hl : l.stackTraces = false) : zCX l G y_Sh_refuseUnless w_Sh_refuseUnless (zrx 6 81) 1 6 [.int x] σ (fun v σ' => v = none ∧ ¬ x = 0 ∧ σ = σ') (fun E σ' => E = zIA ∧ x = 0 ∧ σ = σ') := by
  refine zCX_of (cc := c_Sh_refuseUnless) (nL := 1) (ret := none) (own := R_Sh) (by decide +kernel) rfl rfl (Nat.le_of_ble_eq_true rfl) ?_
  refine zb_lv (lv' := [(0, .int x)]) rfl ?_
  refine zb_iload_n d_Sh_refuseUnless_0 rfl rfl ?_
  refine zb_if_ne (tgt := 12) d_Sh_refuseUnless_1 rfl (fun h1 => ?_) (fun h1 => ?_)
  · exact zb_widen (Nat.zero_le 1) (Nat.zero_le 6) (zx_ret (zb_vret d_Sh_refuseUnless_12 rfl ⟨rfl, h1, rfl⟩))
  · exact zx_throw xw_IA (Or.inr (Or.inl rfl)) hl d_Sh_refuseUnless_4 d_Sh_refuseUnless_7 d_Sh_refuseUnless_8 d_Sh_refuseUnless_11 (Nat.le_of_ble_eq_true rfl) (Nat.le_of_ble_eq_true rfl) (Nat.le_refl _) (Nat.le_refl _) (Nat.le_refl _) (Nat.le_refl _) (⟨rfl, h1, rfl⟩)
set_option maxHeartbeats 4000000 in
set_option maxRecDepth 100000 in
/-- Sh_refuseIfFull -/
theorem c_refuseIfFull (l : Launch) (G : zG) {σ : zS} {x : Int32} (hl : l.stackTraces = false) : zCX l G y_Sh_refuseIfFull w_Sh_refuseIfFull (zrx 6 81) 1 6 [.int x] σ (fun v σ' => v = none ∧ ¬ x = 0 ∧ σ = σ') (fun E σ' => E = zIS ∧ x = 0 ∧ σ = σ') := by
  refine zCX_of (cc := c_Sh_refuseIfFull) (nL := 1) (ret := none) (own := R_Sh) (by decide +kernel) rfl rfl (Nat.le_of_ble_eq_true rfl) ?_
  refine zb_lv (lv' := [(0, .int x)]) rfl ?_
  refine zb_iload_n d_Sh_refuseIfFull_0 rfl rfl ?_
  refine zb_if_ne (tgt := 12) d_Sh_refuseIfFull_1 rfl (fun h1 => ?_) (fun h1 => ?_)
  · exact zb_widen (Nat.zero_le 1) (Nat.zero_le 6) (zx_ret (zb_vret d_Sh_refuseIfFull_12 rfl ⟨rfl, h1, rfl⟩))
  · exact zx_throw xw_IS (Or.inr (Or.inr rfl)) hl d_Sh_refuseIfFull_4 d_Sh_refuseIfFull_7 d_Sh_refuseIfFull_8 d_Sh_refuseIfFull_11 (Nat.le_of_ble_eq_true rfl) (Nat.le_of_ble_eq_true rfl) (Nat.le_refl _) (Nat.le_refl _) (Nat.le_refl _) (Nat.le_refl _) (⟨rfl, h1, rfl⟩)
set_option maxHeartbeats 4000000 in
set_option maxRecDepth 100000 in
/-- relationOf(r) -/
theorem c_relationOf (l : Launch) (G : zG) {σ : zS} {r : Int32} (hl : l.stackTraces = false) : zCX l G y_Sh_relationOf w_Sh_relationOf (zrx 7 101) 1 6 [.ref (zad G 0), .int r] σ (fun v σ' => ∃ k : Nat, k < 8 ∧ r = nI k ∧ v = some (.ref (zad G (zN (σ.1 1 k)))) ∧ σ = σ') (fun E σ' => E = zNS ∧ ¬ zgr r ∧ σ = σ') := by
  refine zCX_of (cc := c_Sh_relationOf) (nL := 2) (ret := (some (.object "TupleShelf$Relation"))) (own := R_Sh) (by decide +kernel) rfl rfl (Nat.le_of_ble_eq_true rfl) ?_
  refine zb_lv (lv' := [(0, .ref (zad G 0)), (1, .int r)]) rfl ?_
  refine zb_iload_n d_Sh_relationOf_0 rfl rfl ?_
  refine zx_callS (rest := []) (c_mustBe l G hl) (lk_Sh_63.cw rfl rfl ⟨Nat.le_of_ble_eq_true rfl, Nat.le_of_ble_eq_true rfl⟩) rfl rfl (Nat.le_of_ble_eq_true rfl) d_Sh_relationOf_1 ⟨Nat.le_of_ble_eq_true rfl, Nat.le_of_ble_eq_true rfl⟩ ?_ ?_
  rotate_left
  · rintro E _ ⟨rfl, hx, rfl⟩; exact zx_out ⟨rfl, hx, rfl⟩ (Nat.le_refl _) (Nat.le_refl _)
  rintro _ _ ⟨rfl, ⟨k, hk, rfl⟩, rfl⟩
  refine zb_st (st' := []) rfl ?_
  refine zb_aload_n d_Sh_relationOf_4 rfl rfl ?_
  refine zs_relations d_Sh_relationOf_5 fl_Sh_11 ?_
  refine zb_lv (lv' := [(0, .ref (zad G 0)), (1, .int (nI k))]) (rfl) ?_
  refine zb_iload_n d_Sh_relationOf_8 rfl rfl ?_
  refine zb_aaldN (j := k) d_Sh_relationOf_9 (hk) ?_
  exact zx_ret (zb_aret d_Sh_relationOf_10 rfl (Or.inl ⟨_, rfl⟩) ⟨k, hk, rfl, rfl, rfl⟩)
set_option maxHeartbeats 4000000 in
set_option maxRecDepth 100000 in
theorem c_bitsBehind (l : Launch) (G : zG) {σ : zS} {k : Nat} (hk : k ≤ 3) : zC l G y_Sh_bitsBehind w_Sh_bitsBehind (zrm 0 0) 0 0 [.int (nI k)] σ (fun v σ' => v = some (.int (nI (12 - 4 * k))) ∧ σ = σ') := by
  refine zC_of (cc := c_Sh_bitsBehind) (nL := 1) (ret := (some .int)) (own := R_Sh) (by decide +kernel) rfl rfl (Nat.le_of_ble_eq_true rfl) ?_
  refine zb_lv (lv' := [(0, .int (nI k))]) rfl ?_
  refine zb_bipush (v := 12) d_Sh_bitsBehind_0 rfl ?_
  refine zb_iconst (v := 4) d_Sh_bitsBehind_2 rfl ?_
  refine zb_iload_n d_Sh_bitsBehind_3 rfl rfl ?_
  refine zb_imul d_Sh_bitsBehind_4 ?_
  refine zb_top (y := nI (4 * k)) (pk_mul 4 k) ?_
  refine zb_isub d_Sh_bitsBehind_5 ?_
  refine zb_top (y := nI (12 - 4 * k)) (pk_sub (a := 12) (by omega)) ?_
  exact zb_iret d_Sh_bitsBehind_6 rfl ⟨rfl, rfl⟩
set_option maxHeartbeats 4000000 in
set_option maxRecDepth 100000 in
/-- numberAt(t, p) -/
theorem c_numberAt (l : Launch) (G : zG) {σ : zS} {t p : Nat} (ht : t < 4096) (hp : p < 3) : zC l G y_Sh_numberAt w_Sh_numberAt (zrm 1 20) 0 0 [.int (nI t), .int (nI p)] σ (fun v σ' => v = some (.int (nI (t / 2 ^ (12 - 4 * (p + 1)) % 16))) ∧ σ = σ') := by
  refine zC_of (cc := c_Sh_numberAt) (nL := 2) (ret := (some .int)) (own := R_Sh) (by decide +kernel) rfl rfl (Nat.le_of_ble_eq_true rfl) ?_
  refine zb_lv (lv' := [(0, .int (nI t)), (1, .int (nI p))]) rfl ?_
  refine zb_iload_n d_Sh_numberAt_0 rfl rfl ?_
  refine zb_iload_n d_Sh_numberAt_1 rfl rfl ?_
  refine zb_iconst (v := 1) d_Sh_numberAt_2 rfl ?_
  refine zb_iadd d_Sh_numberAt_3 ?_
  refine zb_top (y := nI (p + 1)) (nI_1 p) ?_
  refine zb_callS (rest := [.int (nI t)]) (c_bitsBehind l G (k := p + 1) (by omega)) (lk_Sh_132.cw rfl rfl ⟨Nat.le_of_ble_eq_true rfl, Nat.le_of_ble_eq_true rfl⟩) rfl rfl (Nat.le_of_ble_eq_true rfl) d_Sh_numberAt_4 ⟨Nat.le_of_ble_eq_true rfl, Nat.le_of_ble_eq_true rfl⟩ ?_
  rintro _ _ ⟨rfl, rfl⟩
  refine zb_st (st' := [.int (nI (12 - 4 * (p + 1))), .int (nI t)]) rfl ?_
  refine zb_ishr d_Sh_numberAt_7 ?_
  refine zb_top (y := nI (t / 2 ^ (12 - 4 * (p + 1)))) (sh_r (by omega) (by omega)) ?_
  refine zb_bipush (v := 15) d_Sh_numberAt_8 rfl ?_
  refine zb_iand d_Sh_numberAt_10 ?_
  refine zb_top (y := nI (t / 2 ^ (12 - 4 * (p + 1)) % 16)) (pk_andN (Nat.lt_of_le_of_lt (Nat.div_le_self _ _) (by omega)) 4 (by decide)) ?_
  exact zb_iret d_Sh_numberAt_11 rfl ⟨rfl, rfl⟩
set_option maxHeartbeats 4000000 in
set_option maxRecDepth 100000 in
/-- withNumber(x, p) -/
theorem c_withNumber (l : Launch) (G : zG) {σ : zS} {x p : Nat} (hx : x < 16) (hp : p < 3) : zC l G y_Sh_withNumber w_Sh_withNumber (zrm 1 20) 0 0 [.int (nI x), .int (nI p)] σ (fun v σ' => v = some (.int (nI (x * 2 ^ (12 - 4 * (p + 1))))) ∧ σ = σ') := by
  refine zC_of (cc := c_Sh_withNumber) (nL := 2) (ret := (some .int)) (own := R_Sh) (by decide +kernel) rfl rfl (Nat.le_of_ble_eq_true rfl) ?_
  refine zb_lv (lv' := [(0, .int (nI x)), (1, .int (nI p))]) rfl ?_
  refine zb_iload_n d_Sh_withNumber_0 rfl rfl ?_
  refine zb_iload_n d_Sh_withNumber_1 rfl rfl ?_
  refine zb_iconst (v := 1) d_Sh_withNumber_2 rfl ?_
  refine zb_iadd d_Sh_withNumber_3 ?_
  refine zb_top (y := nI (p + 1)) (nI_1 p) ?_
  refine zb_callS (rest := [.int (nI x)]) (c_bitsBehind l G (k := p + 1) (by omega)) (lk_Sh_132.cw rfl rfl ⟨Nat.le_of_ble_eq_true rfl, Nat.le_of_ble_eq_true rfl⟩) rfl rfl (Nat.le_of_ble_eq_true rfl) d_Sh_withNumber_4 ⟨Nat.le_of_ble_eq_true rfl, Nat.le_of_ble_eq_true rfl⟩ ?_
  rintro _ _ ⟨rfl, rfl⟩
  refine zb_st (st' := [.int (nI (12 - 4 * (p + 1))), .int (nI x)]) rfl ?_
  refine zb_ishl d_Sh_withNumber_7 ?_
  refine zb_top (y := nI (x * 2 ^ (12 - 4 * (p + 1)))) (sh_lN (by omega) (Nat.lt_of_le_of_lt (Nat.mul_le_mul (Nat.le_of_lt hx) (Nat.pow_le_pow_right (by decide) (show 12 - 4 * (p + 1) ≤ 8 by omega))) (by decide))) ?_
  exact zb_iret d_Sh_withNumber_8 rfl ⟨rfl, rfl⟩
theorem ln_m : ∀ k, k ≤ 3 → ((1 : Int32) <<< (nI (4 * k) &&& 31) - 1).toBitVec.toNat = 2 ^ (4 * k) - 1 := by decide +kernel
set_option maxHeartbeats 4000000 in
set_option maxRecDepth 100000 in
/-- lastNumbers(t, w, k) -/
theorem c_lastNumbers (l : Launch) (G : zG) {σ : zS} {t w k : Nat} (ht : t < 4096) (hw : w ≤ 3) (hk : k ≤ 3) : zC l G y_Sh_lastNumbers w_Sh_lastNumbers (zrm 1 20) 0 0 [.int (nI t), .int (nI w), .int (nI k)] σ (fun v σ' => v = some (.int (nI (t / 2 ^ (12 - 4 * w) % 2 ^ (4 * k)))) ∧ σ = σ') := by
  refine zC_of (cc := c_Sh_lastNumbers) (nL := 3) (ret := (some .int)) (own := R_Sh) (by decide +kernel) rfl rfl (Nat.le_of_ble_eq_true rfl) ?_
  refine zb_lv (lv' := [(0, .int (nI t)), (1, .int (nI w)), (2, .int (nI k))]) rfl ?_
  refine zb_iload_n d_Sh_lastNumbers_0 rfl rfl ?_
  refine zb_iload_n d_Sh_lastNumbers_1 rfl rfl ?_
  refine zb_callS (rest := [.int (nI t)]) (c_bitsBehind l G (k := w) hw) (lk_Sh_132.cw rfl rfl ⟨Nat.le_of_ble_eq_true rfl, Nat.le_of_ble_eq_true rfl⟩) rfl rfl (Nat.le_of_ble_eq_true rfl) d_Sh_lastNumbers_2 ⟨Nat.le_of_ble_eq_true rfl, Nat.le_of_ble_eq_true rfl⟩ ?_
  rintro _ _ ⟨rfl, rfl⟩
  refine zb_st (st' := [.int (nI (12 - 4 * w)), .int (nI t)]) rfl ?_
  refine zb_ishr d_Sh_lastNumbers_5 ?_
  refine zb_top (y := nI (t / 2 ^ (12 - 4 * w))) (sh_r (by omega) (by omega)) ?_
  refine zb_iconst (v := 1) d_Sh_lastNumbers_6 rfl ?_
  refine zb_iconst (v := 4) d_Sh_lastNumbers_7 rfl ?_
  refine zb_iload_n d_Sh_lastNumbers_8 rfl rfl ?_
  refine zb_imul d_Sh_lastNumbers_9 ?_
  refine zb_top (y := nI (4 * k)) (pk_mul 4 k) ?_
  refine zb_ishl d_Sh_lastNumbers_10 ?_
  refine zb_iconst (v := 1) d_Sh_lastNumbers_11 rfl ?_
  refine zb_isub d_Sh_lastNumbers_12 ?_
  refine zb_iand d_Sh_lastNumbers_13 ?_
  refine zb_top (y := nI (t / 2 ^ (12 - 4 * w) % 2 ^ (4 * k))) (pk_andN (Nat.lt_of_le_of_lt (Nat.div_le_self _ _) (by omega)) (4 * k) (ln_m k hk)) ?_
  exact zb_iret d_Sh_lastNumbers_14 rfl ⟨rfl, rfl⟩
/-- t is a tuple of width w -/
def ztp (t : Int32) (w : Nat) : Prop := ∃ u : Nat, u < 4096 ∧ t = nI u ∧ u % 2 ^ (12 - 4 * w) = 0
theorem it_m : ∀ w, w ≤ 3 → ((1 : Int32) <<< (nI (12 - 4 * w) &&& 31) - 1).toBitVec.toNat = 2 ^ (12 - 4 * w) - 1 := by decide +kernel
set_option maxHeartbeats 4000000 in
set_option maxRecDepth 100000 in
/-- isTuple(t, w) -/
theorem c_isTuple (l : Launch) (G : zG) {σ : zS} {t : Int32} {w : Nat} (hw : w ≤ 3) : zC l G y_Sh_isTuple w_Sh_isTuple (zrm 1 20) 0 0 [.int t, .int (nI w)] σ (fun v σ' => (ztp t w → v = some (.int 1)) ∧ (¬ ztp t w → v = some (.int 0)) ∧ σ = σ') := by
  refine zC_of (cc := c_Sh_isTuple) (nL := 2) (ret := (some .boolean)) (own := R_Sh) (by decide +kernel) rfl rfl (Nat.le_of_ble_eq_true rfl) ?_
  refine zb_lv (lv' := [(0, .int t), (1, .int (nI w))]) rfl ?_
  refine zb_iload_n d_Sh_isTuple_0 rfl rfl ?_
  refine zb_if_lt (tgt := 28) d_Sh_isTuple_1 rfl (fun h1 => ?_) (fun h1 => ?_)
  · refine zb_iconst (v := 0) d_Sh_isTuple_28 rfl ?_
    exact zb_zret d_Sh_isTuple_29 rfl rfl ⟨fun hh => by obtain ⟨u, hu, rfl, -⟩ := hh; exact absurd h1 (nI_pos (by omega)), fun _ => rfl, rfl⟩
  · refine zb_iload_n d_Sh_isTuple_4 rfl rfl ?_
    refine zb_sipush (v := 4096) d_Sh_isTuple_5 rfl ?_
    refine zb_icmp_ge (tgt := 28) d_Sh_isTuple_8 rfl (fun h8 => ?_) (fun h8 => ?_)
    · refine zb_iconst (v := 0) d_Sh_isTuple_28 rfl ?_
      exact zb_zret d_Sh_isTuple_29 rfl rfl ⟨fun hh => by obtain ⟨u, hu, rfl, -⟩ := hh; exact absurd h8 (Int32.not_le.mpr (nI_lt hu (by decide))), fun _ => rfl, rfl⟩
    · obtain ⟨u, hu31, rfl⟩ := nI_of h1
      have hu : u < 4096 := (nI_ltI hu31 (by decide)).mp (Int32.not_le.mp h8)
      refine zb_lv (lv' := [(0, .int (nI u)), (1, .int (nI w))]) (rfl) ?_
      refine zb_iload_n d_Sh_isTuple_11 rfl rfl ?_
      refine zb_iconst (v := 1) d_Sh_isTuple_12 rfl ?_
      refine zb_iload_n d_Sh_isTuple_13 rfl rfl ?_
      refine zb_callS (rest := [.int 1, .int (nI u)]) (c_bitsBehind l G (k := w) hw) (lk_Sh_132.cw rfl rfl ⟨Nat.le_of_ble_eq_true rfl, Nat.le_of_ble_eq_true rfl⟩) rfl rfl (Nat.le_of_ble_eq_true rfl) d_Sh_isTuple_14 ⟨Nat.le_of_ble_eq_true rfl, Nat.le_of_ble_eq_true rfl⟩ ?_
      rintro _ _ ⟨rfl, rfl⟩
      refine zb_st (st' := [.int (nI (12 - 4 * w)), .int 1, .int (nI u)]) rfl ?_
      refine zb_ishl d_Sh_isTuple_17 ?_
      refine zb_iconst (v := 1) d_Sh_isTuple_18 rfl ?_
      refine zb_isub d_Sh_isTuple_19 ?_
      refine zb_iand d_Sh_isTuple_20 ?_
      refine zb_top (y := nI (u % 2 ^ (12 - 4 * w))) (pk_andN (by omega) (12 - 4 * w) (it_m w hw)) ?_
      refine zb_if_ne (tgt := 28) d_Sh_isTuple_21 rfl (fun h21 => ?_) (fun h21 => ?_)
      · refine zb_iconst (v := 0) d_Sh_isTuple_28 rfl ?_
        exact zb_zret d_Sh_isTuple_29 rfl rfl ⟨fun hh => by obtain ⟨v, hv, e, hm⟩ := hh; rw [(nI_eq (by omega) (by omega)).mp e, hm] at h21; exact absurd rfl h21, fun _ => rfl, rfl⟩
      · refine zb_iconst (v := 1) d_Sh_isTuple_24 rfl ?_
        refine zb_goto (tgt := 29) d_Sh_isTuple_25 rfl ?_
        exact zb_zret d_Sh_isTuple_29 rfl rfl ⟨fun _ => rfl, fun hh => absurd ⟨u, hu, rfl, (nI_eq (Nat.lt_of_le_of_lt (Nat.mod_le _ _) (by omega)) (by decide)).mp h21⟩ hh, rfl⟩
set_option maxHeartbeats 4000000 in
set_option maxRecDepth 100000 in
/-- keepSpareAs(to) -/
theorem c_keepSpareAs (l : Launch) (G : zG) {σ : zS} {k : Nat} (hk : k < 8) (hs : zrl (zN (σ.1 0 0))) (hr : zrl (zN (σ.1 1 k))) : zC l G y_Sh_keepSpareAs w_Sh_keepSpareAs (zrm 0 0) 0 0 [.ref (zad G 0), .int (nI k)] σ (fun v σ' => v = some (.int (σ.1 (zN (σ.1 0 0)) 1)) ∧ σ'.1 0 0 = nI (zN (σ.1 1 k)) ∧ σ'.1 1 = upd (σ.1 1) k (nI (zN (σ.1 0 0))) ∧ (∀ q, q ≠ 0 → q ≠ 1 → σ'.1 q = σ.1 q) ∧ σ'.2 = σ.2) := by
  have hs0 : zN (σ.1 0 0) ≠ 0 := by have := hs.1; omega
  have hs1 : zN (σ.1 0 0) ≠ 1 := by have := hs.1; omega
  refine zC_of (cc := c_Sh_keepSpareAs) (nL := 3) (ret := (some .int)) (own := R_Sh) (by decide +kernel) rfl rfl (Nat.le_of_ble_eq_true rfl) ?_
  refine zb_lv (lv' := [(0, .ref (zad G 0)), (1, .int (nI k))]) rfl ?_
  refine zb_aload_n d_Sh_keepSpareAs_0 rfl rfl ?_
  refine zs_spare d_Sh_keepSpareAs_1 fl_Sh_16 ?_
  refine zb_astore_n (lv' := [(2, .ref (zad G (σ.1 0 0).toNatClampNeg)), (0, .ref (zad G 0)), (1, .int (nI k))]) d_Sh_keepSpareAs_4 rfl (by decide) rfl ?_
  refine zb_aload_n d_Sh_keepSpareAs_5 rfl rfl ?_
  refine zb_aload_n d_Sh_keepSpareAs_6 rfl rfl ?_
  refine zs_relations d_Sh_keepSpareAs_7 fl_Sh_11 ?_
  refine zb_iload_n d_Sh_keepSpareAs_10 rfl rfl ?_
  refine zb_aaldN (j := k) d_Sh_keepSpareAs_11 (hk) ?_
  refine zs_put_spare (q := zN (σ.1 1 k)) d_Sh_keepSpareAs_12 fl_Sh_16 hr ?_
  refine zb_aload_n d_Sh_keepSpareAs_15 rfl rfl ?_
  refine zs_relations d_Sh_keepSpareAs_16 fl_Sh_11 ?_
  refine zb_iload_n d_Sh_keepSpareAs_19 rfl rfl ?_
  refine zb_aload_n d_Sh_keepSpareAs_20 rfl rfl ?_
  refine zb_aastN (j := k) (q := (σ.1 0 0).toNatClampNeg) d_Sh_keepSpareAs_21 (hk) (hs) ?_
  refine zb_aload_n d_Sh_keepSpareAs_22 rfl rfl ?_
  refine zr_size (q := (σ.1 0 0).toNatClampNeg) d_Sh_keepSpareAs_23 fl_Sh_32 hs ?_
  refine zb_top (y := σ.1 (zN (σ.1 0 0)) 1) (by simp [zu, hs0, hs1]) ?_
  exact zb_iret d_Sh_keepSpareAs_26 rfl ⟨rfl, by simp [zu, upd], by simp [zu], fun q h0 h1 => by simp [zu, h0, h1], rfl⟩
