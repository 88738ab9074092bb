def nu (t p : Nat) : Nat := t / 2 ^ (12 - 4 * (p + 1)) % 16
def wn (x p : Nat) : Nat := x * 2 ^ (12 - 4 * (p + 1))
def nar (t mask : Nat) : Nat → Nat × Nat
  | 0 => (0, 0)
  | p + 1 => if mask / 2 ^ p % 2 = 1 then ((nar t mask p).1 ||| wn (nu t p) (nar t mask p).2, (nar t mask p).2 + 1) else nar t mask p
def tur (t w : Nat) : Nat → Nat
  | 0 => 0
  | p + 1 => tur t w p ||| wn (nu t p) (w - 1 - p)
theorem nar_le (t mask p : Nat) : (nar t mask p).2 ≤ p := by
  induction p with
  | zero => exact Nat.le_refl _
  | succ p ih =>
    unfold nar
    split
    · exact Nat.succ_le_succ ih
    · exact Nat.le_succ_of_le ih
theorem nu_lt (t p : Nat) : nu t p < 16 := Nat.mod_lt _ (by decide)
set_option maxHeartbeats 4000000 in
set_option maxRecDepth 100000 in
theorem lp_narrowed (l : Launch) (G : zG) {σ : zS} {t mask : Nat} (ht : t < 4096) (hm : mask < 8) : ∀ k i : Nat, i + k = 3 → zB l G w_Sh_narrowed R_Sh c_Sh_narrowed 5 (some .int) [] (zrm 2 50) (zR G (fun v σ' => v = some (.int (nI (nar t mask 3).1)) ∧ σ = σ') 0 0) 0 0 7 [(4, .int (nI i)), (3, .int (nI (nar t mask i).2)), (2, .int (nI (nar t mask i).1)), (0, .int (nI t)), (1, .int (nI mask))] [] σ := by
  intro k
  induction k with
  | zero =>
    intro i hi
    have e : i = 3 := by omega
    refine zb_iload d_Sh_narrowed_7 rfl ?_
    refine zb_iconst (v := 3) d_Sh_narrowed_9 rfl ?_
    refine zb_icmp_ge (tgt := 45) d_Sh_narrowed_10 rfl (fun h10 => ?_) (fun h10 => absurd (nI_le (a := 3) (b := i) (by omega) (by omega)) h10)
    refine zb_iload_n d_Sh_narrowed_45 rfl rfl ?_
    exact zb_iret d_Sh_narrowed_46 rfl ⟨by rw [e], rfl⟩
  | succ k ih =>
    intro i hi
    have hlt : i < 3 := by omega
    refine zb_iload d_Sh_narrowed_7 rfl ?_
    refine zb_iconst (v := 3) d_Sh_narrowed_9 rfl ?_
    refine zb_icmp_ge (tgt := 45) d_Sh_narrowed_10 rfl (fun h10 => absurd h10 (nI_ge (a := i) (b := 3) (by omega) (by omega))) (fun h10 => ?_)
    refine zb_iload_n d_Sh_narrowed_13 rfl rfl ?_
    refine zb_iload d_Sh_narrowed_14 rfl ?_
    refine zb_ishr d_Sh_narrowed_16 ?_
    refine zb_top (y := nI (mask / 2 ^ i)) (sh_r (by omega) (by omega)) ?_
    refine zb_iconst (v := 1) d_Sh_narrowed_17 rfl ?_
    refine zb_iand d_Sh_narrowed_18 ?_
    refine zb_top (y := nI (mask / 2 ^ i % 2)) (pk_andN (Nat.lt_of_le_of_lt (Nat.div_le_self _ _) (by omega)) 1 (by decide)) ?_
    refine zb_iconst (v := 1) d_Sh_narrowed_19 rfl ?_
    refine zb_icmp_ne (tgt := 39) d_Sh_narrowed_20 rfl (fun h20 => ?_) (fun h20 => ?_)
    · have hb : ¬ mask / 2 ^ i % 2 = 1 := fun e => h20 (by rw [e]; rfl)
      refine zb_iinc (v := nI (i + 1)) (lv' := [(4, .int (nI (i + 1))), (3, .int (nI (nar t mask i).2)), (2, .int (nI (nar t mask i).1)), (0, .int (nI t)), (1, .int (nI mask))]) d_Sh_narrowed_39 rfl (nI_1 i) (by decide) rfl ?_
      refine zb_goto (tgt := 7) d_Sh_narrowed_42 rfl ?_
      refine zb_sub [0, 1, 2, 3, 4] rfl ?_
      refine zb_lv (lv' := [(4, .int (nI (i + 1))), (3, .int (nI (nar t mask (i + 1)).2)), (2, .int (nI (nar t mask (i + 1)).1)), (0, .int (nI t)), (1, .int (nI mask))]) (by rw [nar, if_neg hb]; rfl) ?_
      exact ih (i + 1) (by omega)
    · have hb : mask / 2 ^ i % 2 = 1 := (nI_eq (by omega) (by decide)).mp h20
      refine zb_iload_n d_Sh_narrowed_23 rfl rfl ?_
      refine zb_iload_n d_Sh_narrowed_24 rfl rfl ?_
      refine zb_iload d_Sh_narrowed_25 rfl ?_
      refine zb_callS (rest := [.int (nI (nar t mask i).1)]) (c_numberAt l G ht hlt) (lk_Sh_85.cw rfl rfl ⟨Nat.le_of_ble_eq_true rfl, Nat.le_of_ble_eq_true rfl⟩) rfl rfl (Nat.le_of_ble_eq_true rfl) d_Sh_narrowed_27 ⟨Nat.le_of_ble_eq_true rfl, Nat.le_of_ble_eq_true rfl⟩ ?_
      rintro _ _ ⟨rfl, rfl⟩
      refine zb_st (st' := [.int (nI (nu t i)), .int (nI (nar t mask i).1)]) rfl ?_
      refine zb_iload_n d_Sh_narrowed_30 rfl rfl ?_
      refine zb_callS (rest := [.int (nI (nar t mask i).1)]) (c_withNumber l G (nu_lt t i) (Nat.lt_of_le_of_lt (nar_le t mask i) hlt)) (lk_Sh_102.cw rfl rfl ⟨Nat.le_of_ble_eq_true rfl, Nat.le_of_ble_eq_true rfl⟩) rfl rfl (Nat.le_of_ble_eq_true rfl) d_Sh_narrowed_31 ⟨Nat.le_of_ble_eq_true rfl, Nat.le_of_ble_eq_true rfl⟩ ?_
      rintro _ _ ⟨rfl, rfl⟩
      refine zb_st (st' := [.int (nI (wn (nu t i) (nar t mask i).2)), .int (nI (nar t mask i).1)]) rfl ?_
      refine zb_ior d_Sh_narrowed_34 ?_
      refine zb_top (y := nI ((nar t mask i).1 ||| wn (nu t i) (nar t mask i).2)) (nI_or _ _) ?_
      refine zb_istore_n (lv' := [(2, .int (nI ((nar t mask i).1 ||| wn (nu t i) (nar t mask i).2))), (4, .int (nI i)), (3, .int (nI (nar t mask i).2)), (0, .int (nI t)), (1, .int (nI mask))]) d_Sh_narrowed_35 rfl (by decide) rfl ?_
      refine zb_iinc (v := nI ((nar t mask i).2 + 1)) (lv' := [(3, .int (nI ((nar t mask i).2 + 1))), (2, .int (nI ((nar t mask i).1 ||| wn (nu t i) (nar t mask i).2))), (4, .int (nI i)), (0, .int (nI t)), (1, .int (nI mask))]) d_Sh_narrowed_36 rfl (nI_1 _) (by decide) rfl ?_
      refine zb_iinc (v := nI (i + 1)) (lv' := [(4, .int (nI (i + 1))), (3, .int (nI ((nar t mask i).2 + 1))), (2, .int (nI ((nar t mask i).1 ||| wn (nu t i) (nar t mask i).2))), (0, .int (nI t)), (1, .int (nI mask))]) d_Sh_narrowed_39 rfl (nI_1 i) (by decide) rfl ?_
      refine zb_goto (tgt := 7) d_Sh_narrowed_42 rfl ?_
      refine zb_sub [0, 1, 2, 3, 4] rfl ?_
      refine zb_lv (lv' := [(4, .int (nI (i + 1))), (3, .int (nI (nar t mask (i + 1)).2)), (2, .int (nI (nar t mask (i + 1)).1)), (0, .int (nI t)), (1, .int (nI mask))]) (by rw [nar, if_pos hb]; rfl) ?_
      exact ih (i + 1) (by omega)
set_option maxHeartbeats 4000000 in
set_option maxRecDepth 100000 in
/-- narrowed(t, mask) -/
theorem c_narrowed (l : Launch) (G : zG) {σ : zS} {t mask : Nat} (ht : t < 4096) (hm : mask < 8) : zC l G y_Sh_narrowed w_Sh_narrowed (zrm 2 50) 0 0 [.int (nI t), .int (nI mask)] σ (fun v σ' => v = some (.int (nI (nar t mask 3).1)) ∧ σ = σ') := by
  refine zC_of (cc := c_Sh_narrowed) (nL := 5) (ret := (some .int)) (own := R_Sh) (by decide +kernel) rfl rfl (Nat.le_of_ble_eq_true rfl) ?_
  refine zb_lv (lv' := [(0, .int (nI t)), (1, .int (nI mask))]) rfl ?_
  refine zb_iconst (v := 0) d_Sh_narrowed_0 rfl ?_
  refine zb_istore_n (lv' := [(2, .int 0), (0, .int (nI t)), (1, .int (nI mask))]) d_Sh_narrowed_1 rfl (by decide) rfl ?_
  refine zb_iconst (v := 0) d_Sh_narrowed_2 rfl ?_
  refine zb_istore_n (lv' := [(3, .int 0), (2, .int 0), (0, .int (nI t)), (1, .int (nI mask))]) d_Sh_narrowed_3 rfl (by decide) rfl ?_
  refine zb_iconst (v := 0) d_Sh_narrowed_4 rfl ?_
  refine zb_istore (lv' := [(4, .int 0), (3, .int 0), (2, .int 0), (0, .int (nI t)), (1, .int (nI mask))]) d_Sh_narrowed_5 (by decide) rfl ?_
  refine zb_sub [0, 1, 2, 3, 4] rfl ?_
  exact lp_narrowed l G ht hm 3 0 rfl
set_option maxHeartbeats 4000000 in
set_option maxRecDepth 100000 in
theorem lp_turned (l : Launch) (G : zG) {σ : zS} {t w : Nat} (ht : t < 4096) (hw : w ≤ 3) : ∀ k i : Nat, i + k = w → zB l G w_Sh_turned R_Sh c_Sh_turned 4 (some .int) [] (zrm 2 50) (zR G (fun v σ' => v = some (.int (nI (tur t w w))) ∧ σ = σ') 0 0) 0 0 4 [(3, .int (nI i)), (2, .int (nI (tur t w i))), (0, .int (nI t)), (1, .int (nI w))] [] σ := by
  intro k
  induction k with
  | zero =>
    intro i hi
    have e : i = w := by omega
    refine zb_iload_n d_Sh_turned_4 rfl rfl ?_
    refine zb_iload_n d_Sh_turned_5 rfl rfl ?_
    refine zb_icmp_ge (tgt := 31) d_Sh_turned_6 rfl (fun h6 => ?_) (fun h6 => absurd (nI_le (a := w) (b := i) (by omega) (by omega)) h6)
    refine zb_iload_n d_Sh_turned_31 rfl rfl ?_
    exact zb_iret d_Sh_turned_32 rfl ⟨by rw [e], rfl⟩
  | succ k ih =>
    intro i hi
    have hlt : i < w := by omega
    refine zb_iload_n d_Sh_turned_4 rfl rfl ?_
    refine zb_iload_n d_Sh_turned_5 rfl rfl ?_
    refine zb_icmp_ge (tgt := 31) d_Sh_turned_6 rfl (fun h6 => absurd h6 (nI_ge (a := i) (b := w) (by omega) (by omega))) (fun h6 => ?_)
    refine zb_iload_n d_Sh_turned_9 rfl rfl ?_
    refine zb_iload_n d_Sh_turned_10 rfl rfl ?_
    refine zb_iload_n d_Sh_turned_11 rfl rfl ?_
    refine zb_callS (rest := [.int (nI (tur t w i))]) (c_numberAt l G ht (show i < 3 by omega)) (lk_Sh_85.cw rfl rfl ⟨Nat.le_of_ble_eq_true rfl, Nat.le_of_ble_eq_true rfl⟩) rfl rfl (Nat.le_of_ble_eq_true rfl) d_Sh_turned_12 ⟨Nat.le_of_ble_eq_true rfl, Nat.le_of_ble_eq_true rfl⟩ ?_
    rintro _ _ ⟨rfl, rfl⟩
    refine zb_st (st' := [.int (nI (nu t i)), .int (nI (tur t w i))]) rfl ?_
    refine zb_iload_n d_Sh_turned_15 rfl rfl ?_
    refine zb_iconst (v := 1) d_Sh_turned_16 rfl ?_
    refine zb_isub d_Sh_turned_17 ?_
    refine zb_top (y := nI (w - 1)) (pk_sub (a := w) (b := 1) (by omega)) ?_
    refine zb_iload_n d_Sh_turned_18 rfl rfl ?_
    refine zb_isub d_Sh_turned_19 ?_
    refine zb_top (y := nI (w - 1 - i)) (pk_sub (by omega)) ?_
    refine zb_callS (rest := [.int (nI (tur t w i))]) (c_withNumber l G (nu_lt t i) (show w - 1 - i < 3 by omega)) (lk_Sh_102.cw rfl rfl ⟨Nat.le_of_ble_eq_true rfl, Nat.le_of_ble_eq_true rfl⟩) rfl rfl (Nat.le_of_ble_eq_true rfl) d_Sh_turned_20 ⟨Nat.le_of_ble_eq_true rfl, Nat.le_of_ble_eq_true rfl⟩ ?_
    rintro _ _ ⟨rfl, rfl⟩
    refine zb_st (st' := [.int (nI (wn (nu t i) (w - 1 - i))), .int (nI (tur t w i))]) rfl ?_
    refine zb_ior d_Sh_turned_23 ?_
    refine zb_top (y := nI (tur t w (i + 1))) (nI_or _ _) ?_
    refine zb_istore_n (lv' := [(2, .int (nI (tur t w (i + 1)))), (3, .int (nI i)), (0, .int (nI t)), (1, .int (nI w))]) d_Sh_turned_24 rfl (by decide) rfl ?_
    refine zb_iinc (v := nI (i + 1)) (lv' := [(3, .int (nI (i + 1))), (2, .int (nI (tur t w (i + 1)))), (0, .int (nI t)), (1, .int (nI w))]) d_Sh_turned_25 rfl (nI_1 i) (by decide) rfl ?_
    refine zb_goto (tgt := 4) d_Sh_turned_28 rfl ?_
    refine zb_sub [0, 1, 2, 3] rfl ?_
    exact ih (i + 1) (by omega)
set_option maxHeartbeats 4000000 in
set_option maxRecDepth 100000 in
/-- turned(t, w) -/
theorem c_turned (l : Launch) (G : zG) {σ : zS} {t w : Nat} (ht : t < 4096) (hw : w ≤ 3) : zC l G y_Sh_turned w_Sh_turned (zrm 2 50) 0 0 [.int (nI t), .int (nI w)] σ (fun v σ' => v = some (.int (nI (tur t w w))) ∧ σ = σ') := by
  refine zC_of (cc := c_Sh_turned) (nL := 4) (ret := (some .int)) (own := R_Sh) (by decide +kernel) rfl rfl (Nat.le_of_ble_eq_true rfl) ?_
  refine zb_lv (lv' := [(0, .int (nI t)), (1, .int (nI w))]) rfl ?_
  refine zb_iconst (v := 0) d_Sh_turned_0 rfl ?_
  refine zb_istore_n (lv' := [(2, .int 0), (0, .int (nI t)), (1, .int (nI w))]) d_Sh_turned_1 rfl (by decide) rfl ?_
  refine zb_iconst (v := 0) d_Sh_turned_2 rfl ?_
  refine zb_istore_n (lv' := [(3, .int 0), (2, .int 0), (0, .int (nI t)), (1, .int (nI w))]) d_Sh_turned_3 rfl (by decide) rfl ?_
  refine zb_sub [0, 1, 2, 3] rfl ?_
  exact lp_turned l G ht hw w 0 (by omega)
def alt (op : Nat) (a b : Int32) : Int32 := if op = 0 then a + b else if op = 1 then a - b else if op = 2 then (if b = 0 then 0 else a) else if op = 3 then (if b = 0 then a else 0) else if op = 4 then (if a = 0 ∧ b = 0 then 0 else 1) else if a = 0 ∨ b = 0 then 0 else if b < a then b else a
set_option maxHeartbeats 4000000 in
set_option maxRecDepth 100000 in
/-- altered(op, a, b) -/
theorem c_altered (l : Launch) (G : zG) {σ : zS} {op : Nat} {a b : Int32} (ho : op < 6) : zC l G y_Sh_altered w_Sh_altered (zrm 1 20) 0 0 [.int (nI op), .int a, .int b] σ (fun v σ' => v = some (.int (alt op a b)) ∧ σ = σ') := by
  refine zC_of (cc := c_Sh_altered) (nL := 3) (ret := (some .int)) (own := R_Sh) (by decide +kernel) rfl rfl (Nat.le_of_ble_eq_true rfl) ?_
  rcases (show op = 0 ∨ op = 1 ∨ op = 2 ∨ op = 3 ∨ op = 4 ∨ op = 5 by omega) with rfl | rfl | rfl | rfl | rfl | rfl
  · refine zb_lv (lv' := [(0, .int (nI 0)), (1, .int a), (2, .int b)]) rfl ?_
    refine zb_iload_n d_Sh_altered_0 rfl rfl ?_
    refine zb_tableIn (tgt := 36) d_Sh_altered_1 (by decide) (by decide) rfl rfl ?_
    refine zb_iload_n d_Sh_altered_36 rfl rfl ?_
    refine zb_iload_n d_Sh_altered_37 rfl rfl ?_
    refine zb_iadd d_Sh_altered_38 ?_
    exact zb_iret d_Sh_altered_39 rfl ⟨by simp [alt], rfl⟩
  · refine zb_lv (lv' := [(0, .int (nI 1)), (1, .int a), (2, .int b)]) rfl ?_
    refine zb_iload_n d_Sh_altered_0 rfl rfl ?_
    refine zb_tableIn (tgt := 40) d_Sh_altered_1 (by decide) (by decide) rfl rfl ?_
    refine zb_iload_n d_Sh_altered_40 rfl rfl ?_
    refine zb_iload_n d_Sh_altered_41 rfl rfl ?_
    refine zb_isub d_Sh_altered_42 ?_
    exact zb_iret d_Sh_altered_43 rfl ⟨by simp [alt], rfl⟩
  · refine zb_lv (lv' := [(0, .int (nI 2)), (1, .int a), (2, .int b)]) rfl ?_
    refine zb_iload_n d_Sh_altered_0 rfl rfl ?_
    refine zb_tableIn (tgt := 44) d_Sh_altered_1 (by decide) (by decide) rfl rfl ?_
    refine zb_iload_n d_Sh_altered_44 rfl rfl ?_
    refine zb_if_eq (tgt := 52) d_Sh_altered_45 rfl (fun h45 => ?_) (fun h45 => ?_)
    · refine zb_iconst (v := 0) d_Sh_altered_52 rfl ?_
      exact zb_iret d_Sh_altered_53 rfl ⟨by simp [alt, h45], rfl⟩
    · refine zb_iload_n d_Sh_altered_48 rfl rfl ?_
      refine zb_goto (tgt := 53) d_Sh_altered_49 rfl ?_
      exact zb_iret d_Sh_altered_53 rfl ⟨by simp [alt, h45], rfl⟩
  · refine zb_lv (lv' := [(0, .int (nI 3)), (1, .int a), (2, .int b)]) rfl ?_
    refine zb_iload_n d_Sh_altered_0 rfl rfl ?_
    refine zb_tableIn (tgt := 54) d_Sh_altered_1 (by decide) (by decide) rfl rfl ?_
    refine zb_iload_n d_Sh_altered_54 rfl rfl ?_
    refine zb_if_ne (tgt := 62) d_Sh_altered_55 rfl (fun h55 => ?_) (fun h55 => ?_)
    · refine zb_iconst (v := 0) d_Sh_altered_62 rfl ?_
      exact zb_iret d_Sh_altered_63 rfl ⟨by simp [alt, h55], rfl⟩
    · refine zb_iload_n d_Sh_altered_58 rfl rfl ?_
      refine zb_goto (tgt := 63) d_Sh_altered_59 rfl ?_
      exact zb_iret d_Sh_altered_63 rfl ⟨by simp [alt, h55], rfl⟩
  · refine zb_lv (lv' := [(0, .int (nI 4)), (1, .int a), (2, .int b)]) rfl ?_
    refine zb_iload_n d_Sh_altered_0 rfl rfl ?_
    refine zb_tableIn (tgt := 64) d_Sh_altered_1 (by decide) (by decide) rfl rfl ?_
    refine zb_iload_n d_Sh_altered_64 rfl rfl ?_
    refine zb_if_ne (tgt := 72) d_Sh_altered_65 rfl (fun h65 => ?_) (fun h65 => ?_)
    · refine zb_iconst (v := 1) d_Sh_altered_72 rfl ?_
      refine zb_goto (tgt := 77) d_Sh_altered_73 rfl ?_
      exact zb_iret d_Sh_altered_77 rfl ⟨by simp [alt, h65], rfl⟩
    · refine zb_iload_n d_Sh_altered_68 rfl rfl ?_
      refine zb_if_eq (tgt := 76) d_Sh_altered_69 rfl (fun h69 => ?_) (fun h69 => ?_)
      · refine zb_iconst (v := 0) d_Sh_altered_76 rfl ?_
        exact zb_iret d_Sh_altered_77 rfl ⟨by simp [alt, h65, h69], rfl⟩
      · refine zb_iconst (v := 1) d_Sh_altered_72 rfl ?_
        refine zb_goto (tgt := 77) d_Sh_altered_73 rfl ?_
        exact zb_iret d_Sh_altered_77 rfl ⟨by simp [alt, h65, h69], rfl⟩
  · refine zb_lv (lv' := [(0, .int (nI 5)), (1, .int a), (2, .int b)]) rfl ?_
    refine zb_iload_n d_Sh_altered_0 rfl rfl ?_
    refine zb_tableOut (tgt := 78) d_Sh_altered_1 (by decide) rfl ?_
    refine zb_iload_n d_Sh_altered_78 rfl rfl ?_
    refine zb_if_eq (tgt := 94) d_Sh_altered_79 rfl (fun h79 => ?_) (fun h79 => ?_)
    · refine zb_iconst (v := 0) d_Sh_altered_94 rfl ?_
      exact zb_iret d_Sh_altered_95 rfl ⟨by simp [alt, h79], rfl⟩
    · refine zb_iload_n d_Sh_altered_82 rfl rfl ?_
      refine zb_if_eq (tgt := 94) d_Sh_altered_83 rfl (fun h83 => ?_) (fun h83 => ?_)
      · refine zb_iconst (v := 0) d_Sh_altered_94 rfl ?_
        exact zb_iret d_Sh_altered_95 rfl ⟨by simp [alt, h79, h83], rfl⟩
      · refine zb_iload_n d_Sh_altered_86 rfl rfl ?_
        refine zb_iload_n d_Sh_altered_87 rfl rfl ?_
        refine zb_min lk_Sh_138.2.1 (Nat.le_of_ble_eq_true rfl) (Nat.le_of_ble_eq_true rfl) (Nat.le_refl _) (Nat.le_refl _) d_Sh_altered_88 ?_
        refine zb_goto (tgt := 95) d_Sh_altered_91 rfl ?_
        exact zb_iret d_Sh_altered_95 rfl ⟨by simp [alt, h79, h83], rfl⟩
set_option maxHeartbeats 4000000 in
set_option maxRecDepth 100000 in
/-- isReached(x, y) -/
theorem c_isReached (l : Launch) (G : zG) {σ : zS} {x y : Nat} {R : Nat → Nat} (hx : x < 16) (hy : y < 16) (hR : σ.1 29 x = nI (R x)) (hR2 : R x < 65536) : zC l G y_Sh_isReached w_Sh_isReached (zrm 0 0) 0 0 [.ref (zad G 0), .int (nI x), .int (nI y)] σ (fun v σ' => v = some (.int (if R x / 2 ^ y % 2 = 1 then 1 else 0)) ∧ σ = σ') := by
  refine zC_of (cc := c_Sh_isReached) (nL := 3) (ret := (some .boolean)) (own := R_Sh) (by decide +kernel) rfl rfl (Nat.le_of_ble_eq_true rfl) ?_
  refine zb_lv (lv' := [(0, .ref (zad G 0)), (1, .int (nI x)), (2, .int (nI y))]) rfl ?_
  refine zb_aload_n d_Sh_isReached_0 rfl rfl ?_
  refine zs_reached d_Sh_isReached_1 fl_Sh_20 ?_
  refine zb_iload_n d_Sh_isReached_4 rfl rfl ?_
  refine zb_ialdN (q := 29) (j := x) d_Sh_isReached_5 (by unfold zia; omega) (by show x < 16; omega) ?_
  refine zb_top (y := nI (R x)) (hR) ?_
  refine zb_iload_n d_Sh_isReached_6 rfl rfl ?_
  refine zb_ishr d_Sh_isReached_7 ?_
  refine zb_top (y := nI (R x / 2 ^ y)) (sh_r (by omega) (by omega)) ?_
  refine zb_iconst (v := 1) d_Sh_isReached_8 rfl ?_
  refine zb_iand d_Sh_isReached_9 ?_
  refine zb_top (y := nI (R x / 2 ^ y % 2)) (pk_andN (Nat.lt_of_le_of_lt (Nat.div_le_self _ _) (by omega)) 1 (by decide)) ?_
  refine zb_iconst (v := 1) d_Sh_isReached_10 rfl ?_
  refine zb_icmp_ne (tgt := 18) d_Sh_isReached_11 rfl (fun h11 => ?_) (fun h11 => ?_)
  · refine zb_iconst (v := 0) d_Sh_isReached_18 rfl ?_
    exact zb_zret d_Sh_isReached_19 rfl rfl ⟨by rw [if_neg (fun e => h11 (by rw [e]; rfl))], rfl⟩
  · refine zb_iconst (v := 1) d_Sh_isReached_14 rfl ?_
    refine zb_goto (tgt := 19) d_Sh_isReached_15 rfl ?_
    exact zb_zret d_Sh_isReached_19 rfl rfl ⟨by rw [if_pos ((nI_eq (by omega) (by decide)).mp h11)], rfl⟩
