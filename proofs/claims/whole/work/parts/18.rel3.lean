def R_Int : String := "java/lang/Integer"
set_option maxHeartbeats 4000000 in
set_option maxRecDepth 100000 in
/-- Integer.bitCount -/
theorem c_bitCount (l : Launch) (G : zG) {σ : zS} {k : Nat} (hk : k < 65536) : zC l G y_Jint_bitCount w_Jint_bitCount (zrm 0 0) 0 0 [.int (nI k)] σ (fun v σ' => v = some (.int (nI (pc16 k))) ∧ σ = σ') := by
  refine zC_of (cc := c_Jint_bitCount) (nL := 1) (ret := (some .int)) (own := R_Int) (by decide +kernel) rfl rfl (Nat.le_of_ble_eq_true rfl) ?_
  refine zb_lv (lv' := [(0, .int (nI k))]) rfl ?_
  refine zb_iload_n d_Jint_bitCount_0 rfl rfl ?_
  refine zb_iload_n d_Jint_bitCount_1 rfl rfl ?_
  refine zb_iconst (v := 1) d_Jint_bitCount_2 rfl ?_
  refine zb_iushr d_Jint_bitCount_3 ?_
  refine zb_ldcw (v := 1431655765) (zin 263 (by decide +kernel) (by decide +kernel)) d_Jint_bitCount_4 ?_
  refine zb_iand d_Jint_bitCount_7 ?_
  refine zb_isub d_Jint_bitCount_8 ?_
  refine zb_istore_n (lv' := [(0, .int ((nI k) - ((ush (nI k) 1) &&& 1431655765)))]) d_Jint_bitCount_9 rfl (by decide) rfl ?_
  refine zb_lv (lv' := [(0, .int (bcA (nI k)))]) (rfl) ?_
  refine zb_iload_n d_Jint_bitCount_10 rfl rfl ?_
  refine zb_ldcw (v := 858993459) (zin 264 (by decide +kernel) (by decide +kernel)) d_Jint_bitCount_11 ?_
  refine zb_iand d_Jint_bitCount_14 ?_
  refine zb_iload_n d_Jint_bitCount_15 rfl rfl ?_
  refine zb_iconst (v := 2) d_Jint_bitCount_16 rfl ?_
  refine zb_iushr d_Jint_bitCount_17 ?_
  refine zb_ldcw (v := 858993459) (zin 264 (by decide +kernel) (by decide +kernel)) d_Jint_bitCount_18 ?_
  refine zb_iand d_Jint_bitCount_21 ?_
  refine zb_iadd d_Jint_bitCount_22 ?_
  refine zb_istore_n (lv' := [(0, .int (((bcA (nI k)) &&& 858993459) + ((ush (bcA (nI k)) 2) &&& 858993459)))]) d_Jint_bitCount_23 rfl (by decide) rfl ?_
  refine zb_lv (lv' := [(0, .int (bcB (bcA (nI k))))]) (rfl) ?_
  refine zb_iload_n d_Jint_bitCount_24 rfl rfl ?_
  refine zb_iload_n d_Jint_bitCount_25 rfl rfl ?_
  refine zb_iconst (v := 4) d_Jint_bitCount_26 rfl ?_
  refine zb_iushr d_Jint_bitCount_27 ?_
  refine zb_iadd d_Jint_bitCount_28 ?_
  refine zb_ldcw (v := 252645135) (zin 265 (by decide +kernel) (by decide +kernel)) d_Jint_bitCount_29 ?_
  refine zb_iand d_Jint_bitCount_32 ?_
  refine zb_istore_n (lv' := [(0, .int (((bcB (bcA (nI k))) + (ush (bcB (bcA (nI k))) 4)) &&& 252645135))]) d_Jint_bitCount_33 rfl (by decide) rfl ?_
  refine zb_lv (lv' := [(0, .int (bcC (bcB (bcA (nI k)))))]) (rfl) ?_
  refine zb_iload_n d_Jint_bitCount_34 rfl rfl ?_
  refine zb_iload_n d_Jint_bitCount_35 rfl rfl ?_
  refine zb_bipush (v := 8) d_Jint_bitCount_36 rfl ?_
  refine zb_iushr d_Jint_bitCount_38 ?_
  refine zb_iadd d_Jint_bitCount_39 ?_
  refine zb_istore_n (lv' := [(0, .int ((bcC (bcB (bcA (nI k)))) + (ush (bcC (bcB (bcA (nI k)))) 8)))]) d_Jint_bitCount_40 rfl (by decide) rfl ?_
  refine zb_lv (lv' := [(0, .int (bcD (bcC (bcB (bcA (nI k))))))]) (rfl) ?_
  refine zb_iload_n d_Jint_bitCount_41 rfl rfl ?_
  refine zb_iload_n d_Jint_bitCount_42 rfl rfl ?_
  refine zb_bipush (v := 16) d_Jint_bitCount_43 rfl ?_
  refine zb_iushr d_Jint_bitCount_45 ?_
  refine zb_iadd d_Jint_bitCount_46 ?_
  refine zb_istore_n (lv' := [(0, .int ((bcD (bcC (bcB (bcA (nI k))))) + (ush (bcD (bcC (bcB (bcA (nI k))))) 16)))]) d_Jint_bitCount_47 rfl (by decide) rfl ?_
  refine zb_iload_n d_Jint_bitCount_48 rfl rfl ?_
  refine zb_bipush (v := 63) d_Jint_bitCount_49 rfl ?_
  refine zb_iand d_Jint_bitCount_51 ?_
  refine zb_top (y := nI (pc16 k)) (bc_eq hk) ?_
  exact zb_iret d_Jint_bitCount_52 rfl ⟨rfl, rfl⟩
def fS (a : Int64) (_ : Nat) (c : Int32) : Int64 := a + c.toInt64
def fG (a : Option Int32) (_ : Nat) (c : Int32) : Option Int32 := match a with
  | none => some c
  | some g => some (if g < c then c else g)
def fF (a : Nat) (t : Nat) (_ : Int32) : Nat := a ||| 2 ^ (t / 2 ^ (12 - 4 * (0 + 1)) % 16)
def fL (a : List (Nat × Int32)) (t : Nat) (c : Int32) : List (Nat × Int32) := a ++ [(t, c)]
theorem fF_lt (T C : Nat → Int32) (n : Nat) : fc fF 0 T C n < 65536 := by
  induction n with
  | zero => exact (by decide : 0 < 65536)
  | succ n ih => exact Nat.or_lt_two_pow (n := 16) ih (Nat.pow_lt_pow_right (by decide) (Nat.mod_lt _ (by decide)))
set_option maxHeartbeats 4000000 in
set_option maxRecDepth 100000 in
theorem lp_sum (l : Launch) (G : zG) {σ : zS} {q n : Nat} (hq : zrl q) (hn : σ.1 q 1 = nI n) (hn3 : n ≤ 300) : ∀ k i : Nat, i + k = n → zB l G w_Rel_sum R_Rel c_Rel_sum 4 (some .long) [] (zrm 0 0) (zR G (fun v σ' => v = some (.long (fc fS 0 (σ.1 (q + 1)) (σ.1 (q + 2)) n)) ∧ σ = σ') 0 0) 0 0 4 [(3, .int (nI i)), (1, .long (fc fS 0 (σ.1 (q + 1)) (σ.1 (q + 2)) i)), (0, .ref (zad G q))] [] σ := by
  intro k
  induction k with
  | zero =>
    intro i hi
    have e : i = n := by omega
    refine zb_iload_n d_Rel_sum_4 rfl rfl ?_
    refine zb_aload_n d_Rel_sum_5 rfl rfl ?_
    refine zr_size (q := q) d_Rel_sum_6 fl_Rel_22 hq ?_
    refine zb_top (y := nI n) (hn) ?_
    refine zb_icmp_ge (tgt := 28) d_Rel_sum_9 rfl (fun h9 => ?_) (fun h9 => absurd (nI_le (show n ≤ i by omega) (by omega)) h9)
    refine zb_lload_n d_Rel_sum_28 rfl rfl ?_
    exact zb_lret d_Rel_sum_29 rfl ⟨by rw [e], rfl⟩
  | succ k ih =>
    intro i hi
    have hlt : i < n := by omega
    refine zb_iload_n d_Rel_sum_4 rfl rfl ?_
    refine zb_aload_n d_Rel_sum_5 rfl rfl ?_
    refine zr_size (q := q) d_Rel_sum_6 fl_Rel_22 hq ?_
    refine zb_top (y := nI n) (hn) ?_
    refine zb_icmp_ge (tgt := 28) d_Rel_sum_9 rfl (fun h9 => absurd h9 (nI_ge (show i < n by omega) (by omega))) (fun h9 => ?_)
    refine zb_lload_n d_Rel_sum_12 rfl rfl ?_
    refine zb_aload_n d_Rel_sum_13 rfl rfl ?_
    refine zr_counts (q := q) d_Rel_sum_14 fl_Rel_15 hq ?_
    refine zb_iload_n d_Rel_sum_17 rfl rfl ?_
    refine zb_ialdN (q := q + 2) (j := i) d_Rel_sum_18 (hq.c) (by rw [hq.nc]; omega) ?_
    refine zb_i2l (v := (σ.1 (q + 2) i).toInt64) d_Rel_sum_19 rfl ?_
    refine zb_ladd d_Rel_sum_20 ?_
    refine zb_lstore_n (lv' := [(1, .long ((fc fS 0 (σ.1 (q + 1)) (σ.1 (q + 2)) i) + ((σ.1 (q + 2) i).toInt64))), (3, .int (nI i)), (0, .ref (zad G q))]) d_Rel_sum_21 rfl (by decide) rfl ?_
    refine zb_lv (lv' := [(1, .long (fc fS 0 (σ.1 (q + 1)) (σ.1 (q + 2)) (i + 1))), (3, .int (nI i)), (0, .ref (zad G q))]) (rfl) ?_
    refine zb_iinc (v := nI (i + 1)) (lv' := [(3, .int (nI (i + 1))), (1, .long (fc fS 0 (σ.1 (q + 1)) (σ.1 (q + 2)) (i + 1))), (0, .ref (zad G q))]) d_Rel_sum_22 rfl (nI_1 i) (by decide) rfl ?_
    refine zb_goto (tgt := 4) d_Rel_sum_25 rfl ?_
    refine zb_sub [0, 1, 2] rfl ?_
    exact ih (i + 1) (by omega)
set_option maxHeartbeats 4000000 in
set_option maxRecDepth 100000 in
/-- sum() -/
theorem c_sum (l : Launch) (G : zG) {σ : zS} {q n : Nat} (hq : zrl q) (hn : σ.1 q 1 = nI n) (hn3 : n ≤ 300) : zC l G y_Rel_sum w_Rel_sum (zrm 0 0) 0 0 [.ref (zad G q)] σ (fun v σ' => v = some (.long (fc fS 0 (σ.1 (q + 1)) (σ.1 (q + 2)) n)) ∧ σ = σ') := by
  refine zC_of (cc := c_Rel_sum) (nL := 4) (ret := (some .long)) (own := R_Rel) (by decide +kernel) rfl rfl (Nat.le_of_ble_eq_true rfl) ?_
  refine zb_lv (lv' := [(0, .ref (zad G q))]) rfl ?_
  refine zb_lconst (v := 0) d_Rel_sum_0 rfl ?_
  refine zb_lstore_n (lv' := [(1, .long 0), (0, .ref (zad G q))]) d_Rel_sum_1 rfl (by decide) rfl ?_
  refine zb_iconst (v := 0) d_Rel_sum_2 rfl ?_
  refine zb_istore_n (lv' := [(3, .int 0), (1, .long 0), (0, .ref (zad G q))]) d_Rel_sum_3 rfl (by decide) rfl ?_
  refine zb_sub [0, 1, 2] rfl ?_
  exact lp_sum l G hq hn hn3 n 0 (by omega)
set_option maxHeartbeats 4000000 in
set_option maxRecDepth 100000 in
theorem lp_greatest (l : Launch) (G : zG) {σ : zS} {q n : Nat} (hq : zrl q) (hn : σ.1 q 1 = nI n) (hn3 : n ≤ 300) : ∀ (k i : Nat) (g : Int32), i + k = n → fc fG none (σ.1 (q + 1)) (σ.1 (q + 2)) i = some g → zB l G w_Rel_greatest R_Rel c_Rel_greatest 3 (some .int) [] (zrm 1 20) (zR G (fun v σ' => v = some (.int ((fc fG none (σ.1 (q + 1)) (σ.1 (q + 2)) n).getD 0)) ∧ σ = σ') 0 0) 0 0 18 [(2, .int (nI i)), (1, .int g), (0, .ref (zad G q))] [] σ := by
  intro k
  induction k with
  | zero =>
    intro i g hi hg
    have e : i = n := by omega
    refine zb_iload_n d_Rel_greatest_18 rfl rfl ?_
    refine zb_aload_n d_Rel_greatest_19 rfl rfl ?_
    refine zr_size (q := q) d_Rel_greatest_20 fl_Rel_22 hq ?_
    refine zb_top (y := nI n) (hn) ?_
    refine zb_icmp_ge (tgt := 43) d_Rel_greatest_23 rfl (fun h23 => ?_) (fun h23 => absurd (nI_le (show n ≤ i by omega) (by omega)) h23)
    refine zb_iload_n d_Rel_greatest_43 rfl rfl ?_
    exact zb_iret d_Rel_greatest_44 rfl ⟨by rw [← e, hg]; rfl, rfl⟩
  | succ k ih =>
    intro i g hi hg
    have hlt : i < n := by omega
    refine zb_iload_n d_Rel_greatest_18 rfl rfl ?_
    refine zb_aload_n d_Rel_greatest_19 rfl rfl ?_
    refine zr_size (q := q) d_Rel_greatest_20 fl_Rel_22 hq ?_
    refine zb_top (y := nI n) (hn) ?_
    refine zb_icmp_ge (tgt := 43) d_Rel_greatest_23 rfl (fun h23 => absurd h23 (nI_ge (show i < n by omega) (by omega))) (fun h23 => ?_)
    refine zb_iload_n d_Rel_greatest_26 rfl rfl ?_
    refine zb_aload_n d_Rel_greatest_27 rfl rfl ?_
    refine zr_counts (q := q) d_Rel_greatest_28 fl_Rel_15 hq ?_
    refine zb_iload_n d_Rel_greatest_31 rfl rfl ?_
    refine zb_ialdN (q := q + 2) (j := i) d_Rel_greatest_32 (hq.c) (by rw [hq.nc]; omega) ?_
    refine zb_max lk_Rel_50.2.1 (Nat.le_of_ble_eq_true rfl) (Nat.le_of_ble_eq_true rfl) (Nat.le_refl _) (Nat.le_refl _) d_Rel_greatest_33 ?_
    refine zb_istore_n (lv' := [(1, .int (if g < σ.1 (q + 2) i then σ.1 (q + 2) i else g)), (2, .int (nI i)), (0, .ref (zad G q))]) d_Rel_greatest_36 rfl (by decide) rfl ?_
    refine zb_iinc (v := nI (i + 1)) (lv' := [(2, .int (nI (i + 1))), (1, .int (if g < σ.1 (q + 2) i then σ.1 (q + 2) i else g)), (0, .ref (zad G q))]) d_Rel_greatest_37 rfl (nI_1 i) (by decide) rfl ?_
    refine zb_goto (tgt := 18) d_Rel_greatest_40 rfl ?_
    refine zb_sub [0, 1, 2] rfl ?_
    exact ih (i + 1) _ (by omega) (by show fG (fc fG none (σ.1 (q + 1)) (σ.1 (q + 2)) i) _ _ = _; rw [hg]; rfl)
set_option maxHeartbeats 4000000 in
set_option maxRecDepth 100000 in
/-- greatest() -/
theorem c_greatest (l : Launch) (G : zG) {σ : zS} {q n : Nat} (hq : zrl q) (hn : σ.1 q 1 = nI n) (hn3 : n ≤ 300) : zC l G y_Rel_greatest w_Rel_greatest (zrm 1 20) 0 0 [.ref (zad G q)] σ (fun v σ' => v = some (.int ((fc fG none (σ.1 (q + 1)) (σ.1 (q + 2)) n).getD 0)) ∧ σ = σ') := by
  refine zC_of (cc := c_Rel_greatest) (nL := 3) (ret := (some .int)) (own := R_Rel) (by decide +kernel) rfl rfl (Nat.le_of_ble_eq_true rfl) ?_
  refine zb_lv (lv' := [(0, .ref (zad G q))]) rfl ?_
  refine zb_aload_n d_Rel_greatest_0 rfl rfl ?_
  refine zr_size (q := q) d_Rel_greatest_1 fl_Rel_22 hq ?_
  refine zb_top (y := nI n) (hn) ?_
  refine zb_if_ne (tgt := 9) d_Rel_greatest_4 rfl (fun h4 => ?_) (fun h4 => ?_)
  · have hn0 : 0 < n := Nat.pos_of_ne_zero (fun e => h4 (by rw [e]; rfl))
    refine zb_aload_n d_Rel_greatest_9 rfl rfl ?_
    refine zr_counts (q := q) d_Rel_greatest_10 fl_Rel_15 hq ?_
    refine zb_iconst (v := 0) d_Rel_greatest_13 rfl ?_
    refine zb_top (y := nI 0) (rfl) ?_
    refine zb_ialdN (q := q + 2) (j := 0) d_Rel_greatest_14 (hq.c) (by rw [hq.nc]; omega) ?_
    refine zb_istore_n (lv' := [(1, .int (σ.1 (q + 2) 0)), (0, .ref (zad G q))]) d_Rel_greatest_15 rfl (by decide) rfl ?_
    refine zb_iconst (v := 1) d_Rel_greatest_16 rfl ?_
    refine zb_istore_n (lv' := [(2, .int 1), (1, .int (σ.1 (q + 2) 0)), (0, .ref (zad G q))]) d_Rel_greatest_17 rfl (by decide) rfl ?_
    refine zb_sub [0, 1, 2] rfl ?_
    exact lp_greatest l G hq hn hn3 (n - 1) 1 _ (by omega) rfl
  · refine zb_iconst (v := 0) d_Rel_greatest_7 rfl ?_
    exact zb_iret d_Rel_greatest_8 rfl ⟨by rw [(nI_eq (by omega) (by decide)).mp (h4.trans nI_0.symm)]; rfl, rfl⟩
set_option maxHeartbeats 4000000 in
set_option maxRecDepth 100000 in
theorem lp_first (l : Launch) (G : zG) {σ : zS} {q n : Nat} {m : Nat → Int32} (hq : zrl q) (hn : σ.1 q 1 = nI n) (h : zp (σ.1 (q + 1)) (σ.1 (q + 2)) n m) : ∀ k i : Nat, i + k = n → zB l G w_Rel_firstNumbers R_Rel c_Rel_firstNumbers 3 (some .int) [] (zrm 2 60) (zR G (fun v σ' => v = some (.int (nI (pc16 (fc fF 0 (σ.1 (q + 1)) (σ.1 (q + 2)) n)))) ∧ σ = σ') 0 0) 0 0 4 [(2, .int (nI i)), (1, .int (nI (fc fF 0 (σ.1 (q + 1)) (σ.1 (q + 2)) i))), (0, .ref (zad G q))] [] σ := by
  have hn3 := h.1
  intro k
  induction k with
  | zero =>
    intro i hi
    have e : i = n := by omega
    refine zb_iload_n d_Rel_firstNumbers_4 rfl rfl ?_
    refine zb_aload_n d_Rel_firstNumbers_5 rfl rfl ?_
    refine zr_size (q := q) d_Rel_firstNumbers_6 fl_Rel_22 hq ?_
    refine zb_top (y := nI n) (hn) ?_
    refine zb_icmp_ge (tgt := 33) d_Rel_firstNumbers_9 rfl (fun h9 => ?_) (fun h9 => absurd (nI_le (show n ≤ i by omega) (by omega)) h9)
    refine zb_iload_n d_Rel_firstNumbers_33 rfl rfl ?_
    refine zb_callS (rest := []) (c_bitCount l G (fF_lt _ _ _)) (lk_Rel_45.cw rfl rfl ⟨Nat.le_of_ble_eq_true rfl, Nat.le_of_ble_eq_true rfl⟩) rfl rfl (Nat.le_of_ble_eq_true rfl) d_Rel_firstNumbers_34 ⟨Nat.le_of_ble_eq_true rfl, Nat.le_of_ble_eq_true rfl⟩ ?_
    rintro _ _ ⟨rfl, rfl⟩
    refine zb_st (st' := [.int (nI (pc16 (fc fF 0 (σ.1 (q + 1)) (σ.1 (q + 2)) i)))]) rfl ?_
    exact zb_iret d_Rel_firstNumbers_37 rfl ⟨by rw [e], rfl⟩
  | succ k ih =>
    intro i hi
    have hlt : i < n := by omega
    refine zb_iload_n d_Rel_firstNumbers_4 rfl rfl ?_
    refine zb_aload_n d_Rel_firstNumbers_5 rfl rfl ?_
    refine zr_size (q := q) d_Rel_firstNumbers_6 fl_Rel_22 hq ?_
    refine zb_top (y := nI n) (hn) ?_
    refine zb_icmp_ge (tgt := 33) d_Rel_firstNumbers_9 rfl (fun h9 => absurd h9 (nI_ge (show i < n by omega) (by omega))) (fun h9 => ?_)
    refine zb_iload_n d_Rel_firstNumbers_12 rfl rfl ?_
    refine zb_iconst (v := 1) d_Rel_firstNumbers_13 rfl ?_
    refine zb_aload_n d_Rel_firstNumbers_14 rfl rfl ?_
    refine zr_tuples (q := q) d_Rel_firstNumbers_15 fl_Rel_9 hq ?_
    refine zb_iload_n d_Rel_firstNumbers_18 rfl rfl ?_
    refine zb_ialdN (q := q + 1) (j := i) d_Rel_firstNumbers_19 (hq.t) (by rw [hq.nt]; omega) ?_
    refine zb_iconst (v := 0) d_Rel_firstNumbers_20 rfl ?_
    refine zb_st (st' := [.int (nI 0), .int (nI (zN (σ.1 (q + 1) i))), .int 1, .int (nI (fc fF 0 (σ.1 (q + 1)) (σ.1 (q + 2)) i))]) (by rw [← (h.2.1 i hlt).2]; rfl) ?_
    refine zb_callSN (rest := [.int 1, .int (nI (fc fF 0 (σ.1 (q + 1)) (σ.1 (q + 2)) i))]) (rm := zrm 1 20) (c_numberAt l G (t := zN (σ.1 (q + 1) i)) (p := 0) (h.2.1 i hlt).1 (by decide)) rfl rfl ⟨Nat.le_of_ble_eq_true rfl, Nat.le_of_ble_eq_true rfl⟩ rfl rfl rfl rfl (Nat.le_of_ble_eq_true rfl) d_Rel_firstNumbers_21 ⟨Nat.le_of_ble_eq_true rfl, Nat.le_of_ble_eq_true rfl⟩ ?_
    rintro _ _ ⟨rfl, rfl⟩
    refine zb_st (st' := [.int (nI (zN (σ.1 (q + 1) i) / 2 ^ (12 - 4 * (0 + 1)) % 16)), .int 1, .int (nI (fc fF 0 (σ.1 (q + 1)) (σ.1 (q + 2)) i))]) rfl ?_
    refine zb_ishl d_Rel_firstNumbers_24 ?_
    refine zb_top (y := nI (2 ^ (zN (σ.1 (q + 1) i) / 2 ^ (12 - 4 * (0 + 1)) % 16))) (nI_bit _ (Nat.mod_lt _ (by decide))) ?_
    refine zb_ior d_Rel_firstNumbers_25 ?_
    refine zb_top (y := nI (fc fF 0 (σ.1 (q + 1)) (σ.1 (q + 2)) (i + 1))) (nI_or _ _) ?_
    refine zb_istore_n (lv' := [(1, .int (nI (fc fF 0 (σ.1 (q + 1)) (σ.1 (q + 2)) (i + 1)))), (2, .int (nI i)), (0, .ref (zad G q))]) d_Rel_firstNumbers_26 rfl (by decide) rfl ?_
    refine zb_iinc (v := nI (i + 1)) (lv' := [(2, .int (nI (i + 1))), (1, .int (nI (fc fF 0 (σ.1 (q + 1)) (σ.1 (q + 2)) (i + 1)))), (0, .ref (zad G q))]) d_Rel_firstNumbers_27 rfl (nI_1 i) (by decide) rfl ?_
    refine zb_goto (tgt := 4) d_Rel_firstNumbers_30 rfl ?_
    refine zb_sub [0, 1, 2] rfl ?_
    exact ih (i + 1) (by omega)
set_option maxHeartbeats 4000000 in
set_option maxRecDepth 100000 in
/-- firstNumbers() -/
theorem c_firstNumbers (l : Launch) (G : zG) {σ : zS} {q n : Nat} {m : Nat → Int32} (hq : zrl q) (hn : σ.1 q 1 = nI n) (h : zp (σ.1 (q + 1)) (σ.1 (q + 2)) n m) : zC l G y_Rel_firstNumbers w_Rel_firstNumbers (zrm 2 60) 0 0 [.ref (zad G q)] σ (fun v σ' => v = some (.int (nI (pc16 (fc fF 0 (σ.1 (q + 1)) (σ.1 (q + 2)) n)))) ∧ σ = σ') := by
  refine zC_of (cc := c_Rel_firstNumbers) (nL := 3) (ret := (some .int)) (own := R_Rel) (by decide +kernel) rfl rfl (Nat.le_of_ble_eq_true rfl) ?_
  refine zb_lv (lv' := [(0, .ref (zad G q))]) rfl ?_
  refine zb_iconst (v := 0) d_Rel_firstNumbers_0 rfl ?_
  refine zb_istore_n (lv' := [(1, .int 0), (0, .ref (zad G q))]) d_Rel_firstNumbers_1 rfl (by decide) rfl ?_
  refine zb_iconst (v := 0) d_Rel_firstNumbers_2 rfl ?_
  refine zb_istore_n (lv' := [(2, .int 0), (1, .int 0), (0, .ref (zad G q))]) d_Rel_firstNumbers_3 rfl (by decide) rfl ?_
  refine zb_sub [0, 1, 2] rfl ?_
  exact lp_first l G hq hn h n 0 (by omega)
theorem fc_L (T C : Nat → Int32) (n : Nat) : fc fL [] T C n = (List.range n).map (fun i => (zN (T i), C i)) := by
  induction n with
  | zero => rfl
  | succ n ih => rw [List.range_succ, List.map_append, ← ih]; rfl
theorem zp_same {T C T2 C2 m m2 : Nat → Int32} {n n2 : Nat} (h : zp T C n m) (h2 : zp T2 C2 n2 m2) : m = m2 → n = n2 ∧ ∀ i, i < n → T i = T2 i ∧ C i = C2 i := by
  intro e
  subst e
  have en : n = n2 := (zct_eq h).symm.trans (zct_eq h2)
  subst en
  refine ⟨rfl, fun i hi => ?_⟩
  have el := (fm_eq fL [] h).symm.trans (fm_eq fL [] h2)
  rw [fc_L, fc_L] at el
  have ei : ((List.range n).map (fun i => (zN (T i), C i)))[i]? = ((List.range n).map (fun i => (zN (T2 i), C2 i)))[i]? := by rw [el]
  rw [List.getElem?_map, List.getElem?_map, List.getElem?_range hi] at ei
  have e2 := Prod.mk.inj (Option.some.inj ei)
  exact ⟨by rw [(h.2.1 i hi).2, (h2.2.1 i hi).2, e2.1], e2.2⟩
theorem zp_same2 {T C T2 C2 m m2 : Nat → Int32} {n : Nat} (h : zp T C n m) (h2 : zp T2 C2 n m2) (e : ∀ i, i < n → T i = T2 i ∧ C i = C2 i) : m = m2 := by
  funext t
  by_cases a : m t = 0
  · by_cases b : m2 t = 0
    · rw [a, b]
    · obtain ⟨i, hi, hit⟩ := h2.2.2.2.2 t b
      have h3 := h.2.2.2.1 i hi
      rw [(e i hi).1, hit, a] at h3
      exact absurd h3.2.symm h3.1
  · obtain ⟨i, hi, hit⟩ := h.2.2.2.2 t a
    have h3 := (h.2.2.2.1 i hi).2
    have h4 := (h2.2.2.2.1 i hi).2
    rw [← (e i hi).1, hit] at h4
    rw [hit] at h3
    rw [h3, h4]
    exact (e i hi).2
set_option maxHeartbeats 4000000 in
set_option maxRecDepth 100000 in
theorem lp_holdsWhat (l : Launch) (G : zG) {σ : zS} {q q2 n u u2 : Nat} {m m2 : Nat → Int32} (h : zr σ q n m) (h2 : zr σ q2 n m2) (hu : u = u2) : ∀ k i : Nat, i + k = n → (∀ j, j < i → σ.1 (q + 1) j = σ.1 (q2 + 1) j ∧ σ.1 (q + 2) j = σ.1 (q2 + 2) j) → zB l G w_Rel_holdsWhat R_Rel c_Rel_holdsWhat 3 (some .boolean) [] (zrm 0 0) (zR G (fun v σ' => ((u = u2 ∧ m = m2) → v = some (.int 1)) ∧ (¬ (u = u2 ∧ m = m2) → v = some (.int 0)) ∧ σ = σ') 0 0) 0 0 26 [(2, .int (nI i)), (0, .ref (zad G q)), (1, .ref (zad G q2))] [] σ := by
  have hn3 := h.2.2.1
  intro k
  induction k with
  | zero =>
    intro i hi ha
    have e : i = n := by omega
    refine zb_iload_n d_Rel_holdsWhat_26 rfl rfl ?_
    refine zb_aload_n d_Rel_holdsWhat_27 rfl rfl ?_
    refine zr_size (q := q) d_Rel_holdsWhat_28 fl_Rel_22 h.1 ?_
    refine zb_top (y := nI n) (h.2.1) ?_
    refine zb_icmp_ge (tgt := 72) d_Rel_holdsWhat_31 rfl (fun h31 => ?_) (fun h31 => absurd (nI_le (show n ≤ i by omega) (by omega)) h31)
    refine zb_iconst (v := 1) d_Rel_holdsWhat_72 rfl ?_
    exact zb_zret d_Rel_holdsWhat_73 rfl rfl ⟨fun _ => rfl, fun hh => absurd ⟨hu, zp_same2 h.2.2 h2.2.2 (by rw [← e]; exact ha)⟩ hh, rfl⟩
  | succ k ih =>
    intro i hi ha
    have hlt : i < n := by omega
    refine zb_iload_n d_Rel_holdsWhat_26 rfl rfl ?_
    refine zb_aload_n d_Rel_holdsWhat_27 rfl rfl ?_
    refine zr_size (q := q) d_Rel_holdsWhat_28 fl_Rel_22 h.1 ?_
    refine zb_top (y := nI n) (h.2.1) ?_
    refine zb_icmp_ge (tgt := 72) d_Rel_holdsWhat_31 rfl (fun h31 => absurd h31 (nI_ge (show i < n by omega) (by omega))) (fun h31 => ?_)
    refine zb_aload_n d_Rel_holdsWhat_34 rfl rfl ?_
    refine zr_tuples (q := q) d_Rel_holdsWhat_35 fl_Rel_9 h.1 ?_
    refine zb_iload_n d_Rel_holdsWhat_38 rfl rfl ?_
    refine zb_ialdN (q := q + 1) (j := i) d_Rel_holdsWhat_39 (h.1.t) (by rw [h.1.nt]; omega) ?_
    refine zb_aload_n d_Rel_holdsWhat_40 rfl rfl ?_
    refine zr_tuples (q := q2) d_Rel_holdsWhat_41 fl_Rel_9 h2.1 ?_
    refine zb_iload_n d_Rel_holdsWhat_44 rfl rfl ?_
    refine zb_ialdN (q := q2 + 1) (j := i) d_Rel_holdsWhat_45 (h2.1.t) (by rw [h2.1.nt]; omega) ?_
    refine zb_icmp_ne (tgt := 64) d_Rel_holdsWhat_46 rfl (fun h46 => ?_) (fun h46 => ?_)
    · refine zb_iconst (v := 0) d_Rel_holdsWhat_64 rfl ?_
      exact zb_zret d_Rel_holdsWhat_65 rfl rfl ⟨fun hh => absurd ((zp_same h.2.2 h2.2.2 hh.2).2 i (by omega)).1 h46, fun _ => rfl, rfl⟩
    · refine zb_aload_n d_Rel_holdsWhat_49 rfl rfl ?_
      refine zr_counts (q := q) d_Rel_holdsWhat_50 fl_Rel_15 h.1 ?_
      refine zb_iload_n d_Rel_holdsWhat_53 rfl rfl ?_
      refine zb_ialdN (q := q + 2) (j := i) d_Rel_holdsWhat_54 (h.1.c) (by rw [h.1.nc]; omega) ?_
      refine zb_aload_n d_Rel_holdsWhat_55 rfl rfl ?_
      refine zr_counts (q := q2) d_Rel_holdsWhat_56 fl_Rel_15 h2.1 ?_
      refine zb_iload_n d_Rel_holdsWhat_59 rfl rfl ?_
      refine zb_ialdN (q := q2 + 2) (j := i) d_Rel_holdsWhat_60 (h2.1.c) (by rw [h2.1.nc]; omega) ?_
      refine zb_icmp_eq (tgt := 66) d_Rel_holdsWhat_61 rfl (fun h61 => ?_) (fun h61 => ?_)
      · refine zb_iinc (v := nI (i + 1)) (lv' := [(2, .int (nI (i + 1))), (0, .ref (zad G q)), (1, .ref (zad G q2))]) d_Rel_holdsWhat_66 rfl (nI_1 i) (by decide) rfl ?_
        refine zb_goto (tgt := 26) d_Rel_holdsWhat_69 rfl ?_
        refine zb_sub [0, 1, 2] rfl ?_
        exact ih (i + 1) (by omega) (lt_s ha ⟨h46, h61⟩)
      · refine zb_iconst (v := 0) d_Rel_holdsWhat_64 rfl ?_
        exact zb_zret d_Rel_holdsWhat_65 rfl rfl ⟨fun hh => absurd ((zp_same h.2.2 h2.2.2 hh.2).2 i (by omega)).2 h61, fun _ => rfl, rfl⟩
set_option maxHeartbeats 4000000 in
set_option maxRecDepth 100000 in
/-- holdsWhat(other) -/
theorem c_holdsWhat (l : Launch) (G : zG) {σ : zS} {q q2 n n2 u u2 : Nat} {m m2 : Nat → Int32} (h : zr σ q n m) (h2 : zr σ q2 n2 m2) (hu : σ.1 q 0 = nI u) (hu2 : σ.1 q2 0 = nI u2) (hu3 : u ≤ 3) (hu4 : u2 ≤ 3) : zC l G y_Rel_holdsWhat w_Rel_holdsWhat (zrm 0 0) 0 0 [.ref (zad G q), .ref (zad G q2)] σ (fun v σ' => ((u = u2 ∧ m = m2) → v = some (.int 1)) ∧ (¬ (u = u2 ∧ m = m2) → v = some (.int 0)) ∧ σ = σ') := by
  have hn3 := h.2.2.1
  have hn4 := h2.2.2.1
  refine zC_of (cc := c_Rel_holdsWhat) (nL := 3) (ret := (some .boolean)) (own := R_Rel) (by decide +kernel) rfl rfl (Nat.le_of_ble_eq_true rfl) ?_
  refine zb_lv (lv' := [(0, .ref (zad G q)), (1, .ref (zad G q2))]) rfl ?_
  refine zb_aload_n d_Rel_holdsWhat_0 rfl rfl ?_
  refine zr_width (q := q) d_Rel_holdsWhat_1 fl_Rel_18 h.1 ?_
  refine zb_top (y := nI u) (hu) ?_
  refine zb_aload_n d_Rel_holdsWhat_4 rfl rfl ?_
  refine zr_width (q := q2) d_Rel_holdsWhat_5 fl_Rel_18 h2.1 ?_
  refine zb_top (y := nI u2) (hu2) ?_
  refine zb_icmp_ne (tgt := 22) d_Rel_holdsWhat_8 rfl (fun h8 => ?_) (fun h8 => ?_)
  · refine zb_iconst (v := 0) d_Rel_holdsWhat_22 rfl ?_
    exact zb_zret d_Rel_holdsWhat_23 rfl rfl ⟨fun hh => absurd (by rw [hh.1]) h8, fun _ => rfl, rfl⟩
  · refine zb_aload_n d_Rel_holdsWhat_11 rfl rfl ?_
    refine zr_size (q := q) d_Rel_holdsWhat_12 fl_Rel_22 h.1 ?_
    refine zb_top (y := nI n) (h.2.1) ?_
    refine zb_aload_n d_Rel_holdsWhat_15 rfl rfl ?_
    refine zr_size (q := q2) d_Rel_holdsWhat_16 fl_Rel_22 h2.1 ?_
    refine zb_top (y := nI n2) (h2.2.1) ?_
    refine zb_icmp_eq (tgt := 24) d_Rel_holdsWhat_19 rfl (fun h19 => ?_) (fun h19 => ?_)
    · have en : n = n2 := (nI_eq (by omega) (by omega)).mp h19
      subst en
      have eu : u = u2 := (nI_eq (by omega) (by omega)).mp h8
      refine zb_iconst (v := 0) d_Rel_holdsWhat_24 rfl ?_
      refine zb_istore_n (lv' := [(2, .int 0), (0, .ref (zad G q)), (1, .ref (zad G q2))]) d_Rel_holdsWhat_25 rfl (by decide) rfl ?_
      refine zb_sub [0, 1, 2] rfl ?_
      exact lp_holdsWhat l G h h2 eu n 0 (by omega) lt_0
    · refine zb_iconst (v := 0) d_Rel_holdsWhat_22 rfl ?_
      exact zb_zret d_Rel_holdsWhat_23 rfl rfl ⟨fun hh => absurd (by rw [(zp_same h.2.2 h2.2.2 hh.2).1]) h19, fun _ => rfl, rfl⟩
