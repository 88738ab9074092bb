/-- only the row of the numbers reached has changed -/
def z29 (σ σ' : zS) : Prop := (∀ k, k ≠ 29 → σ'.1 k = σ.1 k) ∧ σ'.2 = σ.2
theorem z29.rf (σ : zS) : z29 σ σ := ⟨fun _ _ => rfl, rfl⟩
theorem z29.tr {a b c : zS} (h : z29 a b) (h2 : z29 b c) : z29 a c := ⟨fun k hk => (h2.1 k hk).trans (h.1 k hk), h2.2.trans h.2⟩
theorem z29_zu (σ : zS) (f : Nat → Int32) : z29 σ (zu σ 29 f) := ⟨fun k hk => zu_ne σ f hk, rfl⟩
def zrow (τ : zS) (R : Nat → Nat) : Prop := ∀ x, x < 16 → τ.1 29 x = nI (R x) ∧ R x < 65536
theorem zrow_up {τ : zS} {R : Nat → Nat} (h : zrow τ R) {x v : Nat} (hv : v < 65536) : zrow (zu τ 29 (upd (τ.1 29) x (nI v))) (uM R x v) := by
  intro y hy
  rw [zu_self]
  by_cases e : y = x
  · subst e; rw [pk_us, uM_s]; exact ⟨rfl, hv⟩
  · rw [pk_un e, uM_n _ _ e]; exact h y hy
theorem ia29 : zia 29 := by unfold zia; omega
def ws (E : Nat → Nat → Prop) : Nat → Nat → Nat → Prop
  | 0 => E
  | k + 1 => fun x y => ws E k x y ∨ (ws E k x k ∧ ws E k k y)
theorem tb_div (a y : Nat) : a.testBit y = true ↔ a / 2 ^ y % 2 = 1 := by rw [Nat.testBit_eq_decide_div_mod_eq]; simp
set_option maxHeartbeats 4000000 in
set_option maxRecDepth 100000 in
theorem lp_take2 (l : Launch) (G : zG) {σ : zS} {q n : Nat} {m : Nat → Int32} (h : zr σ q n m) : ∀ (k i : Nat) (τ : zS) (R : Nat → Nat), i + k = n → z29 σ τ → zrow τ R → (∀ x y, x < 16 → y < 16 → ((R x).testBit y = true ↔ ∃ j, j < i ∧ nu (zN (σ.1 (q + 1) j)) 0 = x ∧ nu (zN (σ.1 (q + 1) j)) 1 = y)) → zB l G w_Sh_takeSteps R_Sh c_Sh_takeSteps 4 none [] (zrm 2 50) (zR G (fun v σ' => v = none ∧ z29 σ σ' ∧ ∃ R : Nat → Nat, zrow σ' R ∧ ∀ x y, x < 16 → y < 16 → ((R x).testBit y = true ↔ ∃ j, j < n ∧ nu (zN (σ.1 (q + 1) j)) 0 = x ∧ nu (zN (σ.1 (q + 1) j)) 1 = y)) 0 0) 0 0 23 [(2, .int (nI i)), (0, .ref (zad G 0)), (1, .ref (zad G q))] [] τ := by
  intro k
  induction k with
  | zero =>
    intro i τ R hi hf hR hI
    have e : i = n := by omega
    have hq := h.1
    have hp := h.2.2
    have hn3 := hp.1
    have ne : q ≠ 29 ∧ q + 1 ≠ 29 := by have := hq; unfold zrl at this; omega
    have eq0 : τ.1 q = σ.1 q := hf.1 q ne.1
    have eq1 : τ.1 (q + 1) = σ.1 (q + 1) := hf.1 _ ne.2
    refine zb_iload_n d_Sh_takeSteps_23 rfl rfl ?_
    refine zb_aload_n d_Sh_takeSteps_24 rfl rfl ?_
    refine zr_size (q := q) d_Sh_takeSteps_25 fl_Sh_32 hq ?_
    refine zb_top (y := nI n) (by rw [eq0]; exact h.2.1) ?_
    refine zb_icmp_ge (tgt := 64) d_Sh_takeSteps_28 rfl (fun h28 => ?_) (fun h28 => absurd (nI_le (a := n) (b := i) (by omega) (by omega)) h28)
    exact zb_vret d_Sh_takeSteps_64 rfl ⟨rfl, hf, R, hR, by rw [← e]; exact hI⟩
  | succ k ih =>
    intro i τ R hi hf hR hI
    have hlt : i < n := by omega
    have hq := h.1
    have hp := h.2.2
    have hn3 := hp.1
    have ne : q ≠ 29 ∧ q + 1 ≠ 29 := by have := hq; unfold zrl at this; omega
    have eq0 : τ.1 q = σ.1 q := hf.1 q ne.1
    have eq1 : τ.1 (q + 1) = σ.1 (q + 1) := hf.1 _ ne.2
    refine zb_iload_n d_Sh_takeSteps_23 rfl rfl ?_
    refine zb_aload_n d_Sh_takeSteps_24 rfl rfl ?_
    refine zr_size (q := q) d_Sh_takeSteps_25 fl_Sh_32 hq ?_
    refine zb_top (y := nI n) (by rw [eq0]; exact h.2.1) ?_
    refine zb_icmp_ge (tgt := 64) d_Sh_takeSteps_28 rfl (fun h28 => absurd h28 (nI_ge (a := i) (b := n) (by omega) (by omega))) (fun h28 => ?_)
    refine zb_aload_n d_Sh_takeSteps_31 rfl rfl ?_
    refine zr_tuples (q := q) d_Sh_takeSteps_32 fl_Sh_60 hq ?_
    refine zb_iload_n d_Sh_takeSteps_35 rfl rfl ?_
    refine zb_ialdN (q := q + 1) (j := i) d_Sh_takeSteps_36 (hq.t) (by rw [hq.nt]; omega) ?_
    refine zb_top (y := nI (zN (σ.1 (q + 1) i))) (by rw [eq1]; exact (hp.2.1 i hlt).2) ?_
    refine zb_istore_n (lv' := [(3, .int (nI (zN (σ.1 (q + 1) i)))), (2, .int (nI i)), (0, .ref (zad G 0)), (1, .ref (zad G q))]) d_Sh_takeSteps_37 rfl (by decide) rfl ?_
    refine zb_aload_n d_Sh_takeSteps_38 rfl rfl ?_
    refine zs_reached d_Sh_takeSteps_39 fl_Sh_20 ?_
    refine zb_iload_n d_Sh_takeSteps_42 rfl rfl ?_
    refine zb_iconst (v := 0) d_Sh_takeSteps_43 rfl ?_
    refine zb_callS (rest := [.ref (zad G 29)]) (c_numberAt l G (t := (zN (σ.1 (q + 1) i))) (p := 0) (hp.2.1 i hlt).1 (by decide)) (lk_Sh_85.cw rfl rfl ⟨Nat.le_of_ble_eq_true rfl, Nat.le_of_ble_eq_true rfl⟩) rfl rfl (Nat.le_of_ble_eq_true rfl) d_Sh_takeSteps_44 ⟨Nat.le_of_ble_eq_true rfl, Nat.le_of_ble_eq_true rfl⟩ ?_
    rintro _ _ ⟨rfl, rfl⟩
    refine zb_st (st' := [.int (nI (nu (zN (σ.1 (q + 1) i)) 0)), .ref (zad G 29)]) rfl ?_
    refine zb_dup2 d_Sh_takeSteps_47 rfl rfl ?_
    refine zb_ialdN (q := 29) (j := (nu (zN (σ.1 (q + 1) i)) 0)) d_Sh_takeSteps_48 (ia29) (nu_lt (zN (σ.1 (q + 1) i)) 0) ?_
    refine zb_top (y := nI (R (nu (zN (σ.1 (q + 1) i)) 0))) ((hR _ (nu_lt (zN (σ.1 (q + 1) i)) 0)).1) ?_
    refine zb_iconst (v := 1) d_Sh_takeSteps_49 rfl ?_
    refine zb_iload_n d_Sh_takeSteps_50 rfl rfl ?_
    refine zb_iconst (v := 1) d_Sh_takeSteps_51 rfl ?_
    refine zb_callS (rest := [.int 1, .int (nI (R (nu (zN (σ.1 (q + 1) i)) 0))), .int (nI (nu (zN (σ.1 (q + 1) i)) 0)), .ref (zad G 29)]) (c_numberAt l G (t := (zN (σ.1 (q + 1) i))) (p := 1) (hp.2.1 i hlt).1 (by decide)) (lk_Sh_85.cw rfl rfl ⟨Nat.le_of_ble_eq_true rfl, Nat.le_of_ble_eq_true rfl⟩) rfl rfl (Nat.le_of_ble_eq_true rfl) d_Sh_takeSteps_52 ⟨Nat.le_of_ble_eq_true rfl, Nat.le_of_ble_eq_true rfl⟩ ?_
    rintro _ _ ⟨rfl, rfl⟩
    refine zb_st (st' := [.int (nI (nu (zN (σ.1 (q + 1) i)) 1)), .int 1, .int (nI (R (nu (zN (σ.1 (q + 1) i)) 0))), .int (nI (nu (zN (σ.1 (q + 1) i)) 0)), .ref (zad G 29)]) rfl ?_
    refine zb_ishl d_Sh_takeSteps_55 ?_
    refine zb_top (y := nI (2 ^ nu (zN (σ.1 (q + 1) i)) 1)) (nI_bit _ (nu_lt (zN (σ.1 (q + 1) i)) 1)) ?_
    refine zb_ior d_Sh_takeSteps_56 ?_
    refine zb_top (y := nI (R (nu (zN (σ.1 (q + 1) i)) 0) ||| 2 ^ nu (zN (σ.1 (q + 1) i)) 1)) (nI_or _ _) ?_
    refine zb_iastN (q := 29) (j := (nu (zN (σ.1 (q + 1) i)) 0)) d_Sh_takeSteps_57 (ia29) (nu_lt (zN (σ.1 (q + 1) i)) 0) ?_
    refine zb_iinc (v := nI (i + 1)) (lv' := [(2, .int (nI (i + 1))), (3, .int (nI (zN (σ.1 (q + 1) i)))), (0, .ref (zad G 0)), (1, .ref (zad G q))]) d_Sh_takeSteps_58 rfl (nI_1 i) (by decide) rfl ?_
    refine zb_goto (tgt := 23) d_Sh_takeSteps_61 rfl ?_
    refine zb_sub [0, 2, 3] rfl ?_
    exact ih (i + 1) _ (uM R (nu (zN (σ.1 (q + 1) i)) 0) (R (nu (zN (σ.1 (q + 1) i)) 0) ||| 2 ^ nu (zN (σ.1 (q + 1) i)) 1)) (by omega) (hf.tr (z29_zu _ _)) (zrow_up hR (Nat.or_lt_two_pow (n := 16) (hR _ (nu_lt (zN (σ.1 (q + 1) i)) 0)).2 (Nat.pow_lt_pow_right (by decide) (nu_lt (zN (σ.1 (q + 1) i)) 1)))) (fun x y hx hy => by
      rw [show (∃ j, j < i + 1 ∧ nu (zN (σ.1 (q + 1) j)) 0 = x ∧ nu (zN (σ.1 (q + 1) j)) 1 = y) ↔ ((∃ j, j < i ∧ nu (zN (σ.1 (q + 1) j)) 0 = x ∧ nu (zN (σ.1 (q + 1) j)) 1 = y) ∨ (nu (zN (σ.1 (q + 1) i)) 0 = x ∧ nu (zN (σ.1 (q + 1) i)) 1 = y)) from ⟨fun ⟨j, h1, h2⟩ => by
        rcases Nat.lt_or_eq_of_le (Nat.le_of_lt_succ h1) with z | z
        · exact Or.inl ⟨j, z, h2⟩
        · subst z; exact Or.inr h2, fun hh => hh.elim (fun ⟨j, h1, h2⟩ => ⟨j, Nat.lt_succ_of_lt h1, h2⟩) (fun h2 => ⟨i, Nat.lt_succ_self _, h2⟩)⟩, ← hI x y hx hy]
      by_cases e : x = nu (zN (σ.1 (q + 1) i)) 0
      · subst e
        rw [uM_s, Nat.testBit_or, Nat.testBit_two_pow]
        simp
      · rw [uM_n _ _ e]
        simp [Ne.symm e])
set_option maxHeartbeats 4000000 in
set_option maxRecDepth 100000 in
theorem lp_take1 (l : Launch) (G : zG) {σ : zS} {q n : Nat} {m : Nat → Int32} (h : zr σ q n m) : ∀ (k i : Nat) (τ : zS), i + k = 16 → z29 σ τ → (∀ x, x < i → τ.1 29 x = nI 0) → zB l G w_Sh_takeSteps R_Sh c_Sh_takeSteps 4 none [] (zrm 2 50) (zR G (fun v σ' => v = none ∧ z29 σ σ' ∧ ∃ R : Nat → Nat, zrow σ' R ∧ ∀ x y, x < 16 → y < 16 → ((R x).testBit y = true ↔ ∃ j, j < n ∧ nu (zN (σ.1 (q + 1) j)) 0 = x ∧ nu (zN (σ.1 (q + 1) j)) 1 = y)) 0 0) 0 0 2 [(2, .int (nI i)), (0, .ref (zad G 0)), (1, .ref (zad G q))] [] τ := by
  intro k
  induction k with
  | zero =>
    intro i τ hi hf hz
    have e : i = 16 := by omega
    refine zb_iload_n d_Sh_takeSteps_2 rfl rfl ?_
    refine zb_bipush (v := 16) d_Sh_takeSteps_3 rfl ?_
    refine zb_icmp_ge (tgt := 21) d_Sh_takeSteps_5 rfl (fun h5 => ?_) (fun h5 => absurd (nI_le (a := 16) (b := i) (by omega) (by omega)) h5)
    refine zb_iconst (v := 0) d_Sh_takeSteps_21 rfl ?_
    refine zb_istore_n (lv' := [(2, .int 0), (0, .ref (zad G 0)), (1, .ref (zad G q))]) d_Sh_takeSteps_22 rfl (by decide) rfl ?_
    refine zb_lv (lv' := [(2, .int (nI 0)), (0, .ref (zad G 0)), (1, .ref (zad G q))]) rfl ?_
    refine zb_sub [0, 1, 2] rfl ?_
    exact lp_take2 l G h n 0 τ (fun _ => 0) (by omega) hf (fun x hx => ⟨hz x (by omega), Nat.zero_lt_succ _⟩) (fun x y _ _ => by simp)
  | succ k ih =>
    intro i τ hi hf hz
    have hlt : i < 16 := by omega
    refine zb_iload_n d_Sh_takeSteps_2 rfl rfl ?_
    refine zb_bipush (v := 16) d_Sh_takeSteps_3 rfl ?_
    refine zb_icmp_ge (tgt := 21) d_Sh_takeSteps_5 rfl (fun h5 => absurd h5 (nI_ge (a := i) (b := 16) (by omega) (by omega))) (fun h5 => ?_)
    refine zb_aload_n d_Sh_takeSteps_8 rfl rfl ?_
    refine zs_reached d_Sh_takeSteps_9 fl_Sh_20 ?_
    refine zb_iload_n d_Sh_takeSteps_12 rfl rfl ?_
    refine zb_iconst (v := 0) d_Sh_takeSteps_13 rfl ?_
    refine zb_iastN (q := 29) (j := i) d_Sh_takeSteps_14 (ia29) (by show i < 16; omega) ?_
    refine zb_iinc (v := nI (i + 1)) (lv' := [(2, .int (nI (i + 1))), (0, .ref (zad G 0)), (1, .ref (zad G q))]) d_Sh_takeSteps_15 rfl (nI_1 i) (by decide) rfl ?_
    refine zb_goto (tgt := 2) d_Sh_takeSteps_18 rfl ?_
    refine zb_sub [0, 1, 2] rfl ?_
    exact ih (i + 1) _ (by omega) (hf.tr (z29_zu _ _)) (fun x hx => by
      rw [zu_self]
      by_cases e : x = i
      · subst e; rw [pk_us]; rfl
      · rw [pk_un e]; exact hz x (by omega))
set_option maxHeartbeats 4000000 in
set_option maxRecDepth 100000 in
/-- takeSteps(steps) -/
theorem c_takeSteps (l : Launch) (G : zG) {σ : zS} {q n : Nat} {m : Nat → Int32} (h : zr σ q n m) : zC l G y_Sh_takeSteps w_Sh_takeSteps (zrm 2 50) 0 0 [.ref (zad G 0), .ref (zad G q)] σ (fun v σ' => v = none ∧ z29 σ σ' ∧ ∃ R : Nat → Nat, zrow σ' R ∧ ∀ x y, x < 16 → y < 16 → ((R x).testBit y = true ↔ ∃ j, j < n ∧ nu (zN (σ.1 (q + 1) j)) 0 = x ∧ nu (zN (σ.1 (q + 1) j)) 1 = y)) := by
  refine zC_of (cc := c_Sh_takeSteps) (nL := 4) (ret := none) (own := R_Sh) (by decide +kernel) rfl rfl (Nat.le_of_ble_eq_true rfl) ?_
  refine zb_lv (lv' := [(0, .ref (zad G 0)), (1, .ref (zad G q))]) rfl ?_
  refine zb_iconst (v := 0) d_Sh_takeSteps_0 rfl ?_
  refine zb_istore_n (lv' := [(2, .int 0), (0, .ref (zad G 0)), (1, .ref (zad G q))]) d_Sh_takeSteps_1 rfl (by decide) rfl ?_
  refine zb_lv (lv' := [(2, .int (nI 0)), (0, .ref (zad G 0)), (1, .ref (zad G q))]) rfl ?_
  refine zb_sub [0, 1, 2] rfl ?_
  exact lp_take1 l G h 16 0 σ rfl (z29.rf σ) (fun x hx => absurd hx (Nat.not_lt_zero x))
def fr (R : Nat → Nat) (k x : Nat) : Nat := if (R x).testBit k = true then R x ||| R k else R x
theorem fr_lt {R : Nat → Nat} {k x : Nat} (h : R x < 65536) (h2 : R k < 65536) : fr R k x < 65536 := by
  unfold fr
  split
  · exact Nat.or_lt_two_pow (n := 16) h h2
  · exact h
theorem fr_self (R : Nat → Nat) (k : Nat) : fr R k k = R k := by
  unfold fr
  split
  · exact Nat.or_self _
  · rfl
theorem fr_tb (R : Nat → Nat) (k x y : Nat) : (fr R k x).testBit y = true ↔ ((R x).testBit y = true ∨ ((R x).testBit k = true ∧ (R k).testBit y = true)) := by
  unfold fr
  by_cases h : (R x).testBit k = true
  · rw [if_pos h, Nat.testBit_or, Bool.or_eq_true]; simp [h]
  · rw [if_neg h]; simp [h]
set_option maxHeartbeats 4000000 in
set_option maxRecDepth 100000 in
theorem lp_follow1 (l : Launch) (G : zG) {σ σ1 : zS} {E : Nat → Nat → Prop} {k : Nat} {R : Nat → Nat} (hk : k < 16) (K : ∀ τ : zS, z29 σ1 τ → zrow τ (fr R k) → zB l G w_Sh_followSteps R_Sh c_Sh_followSteps 3 none [] (zrm 1 30) (zR G (fun v σ' => v = none ∧ z29 σ σ' ∧ ∃ R : Nat → Nat, zrow σ' R ∧ ∀ x y, x < 16 → y < 16 → ((R x).testBit y = true ↔ ws E 16 x y)) 0 0) 0 0 46 [(2, .int (nI 16)), (1, .int (nI k)), (0, .ref (zad G 0))] [] τ) : ∀ (j x : Nat) (τ : zS), x + j = 16 → z29 σ1 τ → zrow τ (fun z => if z < x then fr R k z else R z) → zB l G w_Sh_followSteps R_Sh c_Sh_followSteps 3 none [] (zrm 1 30) (zR G (fun v σ' => v = none ∧ z29 σ σ' ∧ ∃ R : Nat → Nat, zrow σ' R ∧ ∀ x y, x < 16 → y < 16 → ((R x).testBit y = true ↔ ws E 16 x y)) 0 0) 0 0 10 [(2, .int (nI x)), (1, .int (nI k)), (0, .ref (zad G 0))] [] τ := by
  intro j
  induction j with
  | zero =>
    intro x τ hi hf hR
    have e : x = 16 := by omega
    subst e
    refine zb_iload_n d_Sh_followSteps_10 rfl rfl ?_
    refine zb_bipush (v := 16) d_Sh_followSteps_11 rfl ?_
    refine zb_icmp_ge (tgt := 46) d_Sh_followSteps_13 rfl (fun h13 => ?_) (fun h13 => absurd (nI_le (a := 16) (b := 16) (by omega) (by omega)) h13)
    refine zb_sub [0, 1, 2] rfl ?_
    exact K τ hf (fun z hz => by
      have h9 := hR z hz
      simp only [if_pos (show z < 16 by omega)] at h9
      exact h9)
  | succ j ih =>
    intro x τ hi hf hR
    have hlt : x < 16 := by omega
    refine zb_iload_n d_Sh_followSteps_10 rfl rfl ?_
    refine zb_bipush (v := 16) d_Sh_followSteps_11 rfl ?_
    refine zb_icmp_ge (tgt := 46) d_Sh_followSteps_13 rfl (fun h13 => absurd h13 (nI_ge (a := x) (b := 16) (by omega) (by omega))) (fun h13 => ?_)
    refine zb_aload_n d_Sh_followSteps_16 rfl rfl ?_
    refine zb_iload_n d_Sh_followSteps_17 rfl rfl ?_
    refine zb_iload_n d_Sh_followSteps_18 rfl rfl ?_
    refine zb_callV (rest := []) (c_isReached l G (x := x) (y := k) (R := (fun z => if z < x then fr R k z else R z)) (by omega) (by omega) (hR x (by omega)).1 (hR x (by omega)).2) (lk_Sh_99.cw rfl rfl ⟨Nat.le_of_ble_eq_true rfl, Nat.le_of_ble_eq_true rfl⟩) zgS rfl rfl rfl rfl (Nat.le_of_ble_eq_true rfl) d_Sh_followSteps_19 ⟨Nat.le_of_ble_eq_true rfl, Nat.le_of_ble_eq_true rfl⟩ ?_
    rintro _ _ ⟨rfl, rfl⟩
    refine zb_st (st' := [.int (if (fun z => if z < x then fr R k z else R z) x / 2 ^ k % 2 = 1 then 1 else 0)]) rfl ?_
    have hx0 : (fun z => if z < x then fr R k z else R z) x = R x := if_neg (Nat.lt_irrefl _)
    have hk0 : (fun z => if z < x then fr R k z else R z) k = R k := by
      show (if k < x then fr R k k else R k) = R k
      split
      · exact fr_self R k
      · rfl
    by_cases hb : (R x).testBit k = true
    · refine zb_top (y := 1) (by rw [hx0, if_pos ((tb_div _ _).mp hb)]) ?_
      refine zb_if_eq (tgt := 40) d_Sh_followSteps_22 rfl (fun h22 => absurd h22 (by decide)) (fun h22 => ?_)
      refine zb_aload_n d_Sh_followSteps_25 rfl rfl ?_
      refine zs_reached d_Sh_followSteps_26 fl_Sh_20 ?_
      refine zb_iload_n d_Sh_followSteps_29 rfl rfl ?_
      refine zb_dup2 d_Sh_followSteps_30 rfl rfl ?_
      refine zb_ialdN (q := 29) (j := x) d_Sh_followSteps_31 (ia29) (by show x < 16; omega) ?_
      refine zb_top (y := nI (R x)) (by rw [(hR x (by omega)).1, hx0]) ?_
      refine zb_aload_n d_Sh_followSteps_32 rfl rfl ?_
      refine zs_reached d_Sh_followSteps_33 fl_Sh_20 ?_
      refine zb_iload_n d_Sh_followSteps_36 rfl rfl ?_
      refine zb_ialdN (q := 29) (j := k) d_Sh_followSteps_37 (ia29) (by show k < 16; omega) ?_
      refine zb_top (y := nI (R k)) (by rw [(hR k (by omega)).1, hk0]) ?_
      refine zb_ior d_Sh_followSteps_38 ?_
      refine zb_top (y := nI (R x ||| R k)) (nI_or _ _) ?_
      refine zb_iastN (q := 29) (j := x) d_Sh_followSteps_39 (ia29) (by show x < 16; omega) ?_
      refine zb_iinc (v := nI (x + 1)) (lv' := [(2, .int (nI (x + 1))), (1, .int (nI k)), (0, .ref (zad G 0))]) d_Sh_followSteps_40 rfl (nI_1 x) (by decide) rfl ?_
      refine zb_goto (tgt := 10) d_Sh_followSteps_43 rfl ?_
      refine zb_sub [0, 1, 2] rfl ?_
      exact ih (x + 1) _ (by omega) (hf.tr (z29_zu _ _)) (fun z hz => by
        have hzz := hR z hz
        by_cases e : z = x
        · subst e
          show (zu _ 29 _).1 29 z = nI (if z < z + 1 then fr R k z else R z) ∧ _
          rw [zu_self, pk_us, if_pos (Nat.lt_succ_self z)]
          have h9 := hx0 ▸ (hR z hz).2
          have h8 := hk0 ▸ (hR k (by omega)).2
          exact ⟨by rw [fr, if_pos hb], by show (if z < z + 1 then fr R k z else R z) < _; rw [if_pos (Nat.lt_succ_self z)]; exact fr_lt h9 h8⟩
        · show (zu _ 29 _).1 29 z = nI (if z < x + 1 then fr R k z else R z) ∧ (if z < x + 1 then fr R k z else R z) < _
          rw [zu_self, pk_un e]
          by_cases e2 : z < x
          · simp only [if_pos e2] at hzz; rw [if_pos (show z < x + 1 by omega)]; exact hzz
          · simp only [if_neg e2] at hzz; rw [if_neg (show ¬ z < x + 1 by omega)]; exact hzz)
    · refine zb_top (y := 0) (by rw [hx0, if_neg (fun z => hb ((tb_div _ _).mpr z))]) ?_
      refine zb_if_eq (tgt := 40) d_Sh_followSteps_22 rfl (fun h22 => ?_) (fun h22 => absurd rfl h22)
      refine zb_iinc (v := nI (x + 1)) (lv' := [(2, .int (nI (x + 1))), (1, .int (nI k)), (0, .ref (zad G 0))]) d_Sh_followSteps_40 rfl (nI_1 x) (by decide) rfl ?_
      refine zb_goto (tgt := 10) d_Sh_followSteps_43 rfl ?_
      refine zb_sub [0, 1, 2] rfl ?_
      exact ih (x + 1) τ (by omega) hf (fun z hz => by
        have hzz := hR z hz
        by_cases e : z = x
        · subst e
          simp only [if_neg (Nat.lt_irrefl z)] at hzz
          show _ = nI (if z < z + 1 then fr R k z else R z) ∧ (if z < z + 1 then fr R k z else R z) < _
          rw [if_pos (Nat.lt_succ_self z), fr, if_neg hb]
          exact hzz
        · show _ = nI (if z < x + 1 then fr R k z else R z) ∧ (if z < x + 1 then fr R k z else R z) < _
          by_cases e2 : z < x
          · simp only [if_pos e2] at hzz; rw [if_pos (show z < x + 1 by omega)]; exact hzz
          · simp only [if_neg e2] at hzz; rw [if_neg (show ¬ z < x + 1 by omega)]; exact hzz)
set_option maxHeartbeats 4000000 in
set_option maxRecDepth 100000 in
theorem lp_follow2 (l : Launch) (G : zG) {σ : zS} {E : Nat → Nat → Prop} : ∀ (j k : Nat) (τ : zS) (R : Nat → Nat), k + j = 16 → z29 σ τ → zrow τ R → (∀ x y, x < 16 → y < 16 → ((R x).testBit y = true ↔ ws E k x y)) → zB l G w_Sh_followSteps R_Sh c_Sh_followSteps 3 none [] (zrm 1 30) (zR G (fun v σ' => v = none ∧ z29 σ σ' ∧ ∃ R : Nat → Nat, zrow σ' R ∧ ∀ x y, x < 16 → y < 16 → ((R x).testBit y = true ↔ ws E 16 x y)) 0 0) 0 0 2 [(1, .int (nI k)), (0, .ref (zad G 0))] [] τ := by
  intro j
  induction j with
  | zero =>
    intro k τ R hi hf hR hI
    have e : k = 16 := by omega
    refine zb_iload_n d_Sh_followSteps_2 rfl rfl ?_
    refine zb_bipush (v := 16) d_Sh_followSteps_3 rfl ?_
    refine zb_icmp_ge (tgt := 52) d_Sh_followSteps_5 rfl (fun h5 => ?_) (fun h5 => absurd (nI_le (a := 16) (b := k) (by omega) (by omega)) h5)
    exact zb_vret d_Sh_followSteps_52 rfl ⟨rfl, hf, R, hR, by rw [e] at hI; exact hI⟩
  | succ j ih =>
    intro k τ R hi hf hR hI
    have hlt : k < 16 := by omega
    refine zb_iload_n d_Sh_followSteps_2 rfl rfl ?_
    refine zb_bipush (v := 16) d_Sh_followSteps_3 rfl ?_
    refine zb_icmp_ge (tgt := 52) d_Sh_followSteps_5 rfl (fun h5 => absurd h5 (nI_ge (a := k) (b := 16) (by omega) (by omega))) (fun h5 => ?_)
    refine zb_iconst (v := 0) d_Sh_followSteps_8 rfl ?_
    refine zb_istore_n (lv' := [(2, .int 0), (1, .int (nI k)), (0, .ref (zad G 0))]) d_Sh_followSteps_9 rfl (by decide) rfl ?_
    refine zb_lv (lv' := [(2, .int (nI 0)), (1, .int (nI k)), (0, .ref (zad G 0))]) rfl ?_
    refine zb_sub [0, 1, 2] rfl ?_
    refine lp_follow1 l G (σ1 := τ) (R := R) (by omega) (fun τ2 hf2 hR2 => ?_) 16 0 τ rfl (z29.rf τ) (fun z hz => by simpa using hR z hz)
    refine zb_iinc (v := nI (k + 1)) (lv' := [(1, .int (nI (k + 1))), (2, .int (nI 16)), (0, .ref (zad G 0))]) d_Sh_followSteps_46 rfl (nI_1 k) (by decide) rfl ?_
    refine zb_goto (tgt := 2) d_Sh_followSteps_49 rfl ?_
    refine zb_sub [0, 2] rfl ?_
    exact ih (k + 1) τ2 (fr R k) (by omega) (hf.tr hf2) hR2 (fun x y hx hy => by rw [fr_tb, hI x y hx hy, hI x k hx (by omega), hI k y (by omega) hy]; rfl)
set_option maxHeartbeats 4000000 in
set_option maxRecDepth 100000 in
/-- followSteps() -/
theorem c_followSteps (l : Launch) (G : zG) {σ : zS} {E : Nat → Nat → Prop} {R : Nat → Nat} (hR : zrow σ R) (hI : ∀ x y, x < 16 → y < 16 → ((R x).testBit y = true ↔ E x y)) : zC l G y_Sh_followSteps w_Sh_followSteps (zrm 1 30) 0 0 [.ref (zad G 0)] σ (fun v σ' => v = none ∧ z29 σ σ' ∧ ∃ R : Nat → Nat, zrow σ' R ∧ ∀ x y, x < 16 → y < 16 → ((R x).testBit y = true ↔ ws E 16 x y)) := by
  refine zC_of (cc := c_Sh_followSteps) (nL := 3) (ret := none) (own := R_Sh) (by decide +kernel) rfl rfl (Nat.le_of_ble_eq_true rfl) ?_
  refine zb_lv (lv' := [(0, .ref (zad G 0))]) rfl ?_
  refine zb_iconst (v := 0) d_Sh_followSteps_0 rfl ?_
  refine zb_istore_n (lv' := [(1, .int 0), (0, .ref (zad G 0))]) d_Sh_followSteps_1 rfl (by decide) rfl ?_
  refine zb_lv (lv' := [(1, .int (nI 0)), (0, .ref (zad G 0))]) rfl ?_
  refine zb_sub [0, 1] rfl ?_
  exact lp_follow2 l G 16 0 σ R rfl (z29.rf σ) hR hI
