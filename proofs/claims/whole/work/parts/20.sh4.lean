theorem zct_upd (m : Nat → Int32) (t : Nat) (x : Int32) (k : Nat) : zct (upd m t x) k ≤ zct m k + (if t < k then 1 else 0) := by
  induction k with
  | zero => exact Nat.zero_le _
  | succ k ih =>
    unfold zct at ih ⊢
    by_cases e : k = t
    · subst e
      rw [if_neg (Nat.lt_irrefl _)] at ih
      rw [if_pos (Nat.lt_succ_self _)]
      simp only [fm]
      split <;> split <;> omega
    · have e2 : (if t < k + 1 then 1 else 0) = (if t < k then 1 else 0) := by
        by_cases z : t < k
        · rw [if_pos z, if_pos (Nat.lt_succ_of_lt z)]
        · rw [if_neg z, if_neg (by omega)]
      rw [e2]
      simp only [fm, pk_un e]
      split <;> omega
theorem zr_up {σ τ : zS} {q n n2 : Nat} {m : Nat → Int32} {t : Nat} {x : Int32} (h : zr σ q n m) (h2 : zr τ q n2 (upd m t x)) : n2 ≤ n + 1 := by
  rw [← zct_eq h.2.2, ← zct_eq h2.2.2]
  refine Nat.le_trans (zct_upd m t x 4096) ?_
  split <;> omega
def fB (g : Nat → Nat) (a : Nat → Int32) (t : Nat) (c : Int32) : Nat → Int32 := upd a (g t) (a (g t) + c)
def fP (p v : Nat) (a : Nat → Int32) (t : Nat) (c : Int32) : Nat → Int32 := if nu t p = v then upd a t (a t + c) else a
/-- at the end: the spare relation becomes relation r -/
theorem zfin {σ τ σ' : zS} {M : Nat → Nat → Int32} {w : Nat → Nat} {r u n : Nat} {m' : Nat → Int32} {v : Option Value} (hw : zwf σ M w) (hk : zk σ τ) (hf : ∀ k, k ≠ zN (σ.1 0 0) → k ≠ zN (σ.1 0 0) + 1 → k ≠ zN (σ.1 0 0) + 2 → k ≤ 28 → τ.1 k = σ.1 k) (hr : r < 8) (hu : τ.1 (zN (σ.1 0 0)) 0 = nI u) (h1 : 1 ≤ u) (h3 : u ≤ 3) (hz : zr τ (zN (σ.1 0 0)) n m') (ht : ∀ t, m' t ≠ 0 → t % 2 ^ (12 - 4 * u) = 0)
    (hv : v = some (.int (τ.1 (zN (τ.1 0 0)) 1)) ∧ σ'.1 0 0 = nI (zN (τ.1 1 r)) ∧ σ'.1 1 = upd (τ.1 1) r (nI (zN (τ.1 0 0))) ∧ (∀ q, q ≠ 0 → q ≠ 1 → σ'.1 q = τ.1 q) ∧ σ'.2 = τ.2) : v = some (.int (nI (zct m' 4096))) ∧ zwf σ' (uM M r m') (uM w r u) ∧ zk σ σ' := by
  have hs := hw.sp
  have e0 : τ.1 0 = σ.1 0 := hf 0 (by have := hs.1; omega) (by omega) (by omega) (by omega)
  obtain ⟨v1, v2, v3, v4, v5⟩ := hv
  rw [e0] at v1 v3
  refine ⟨by rw [v1, hz.2.1, zct_eq hz.2.2], zwf_swap (zwf_spare hw hf) hr (by rw [e0]; exact ⟨hu, h1, h3, ⟨n, hz⟩, ht⟩) v2 (by rw [e0]; exact v3) v4, hk.tr ⟨fun q hq => v4 q (by omega) (by omega), v5⟩⟩
theorem zf_start {σ : zS} {q : Nat} {x : Int32} : ∀ k, k ≠ q → k ≠ q + 1 → k ≠ q + 2 → k ≤ 28 → (zu (zu σ q (upd (σ.1 q) 0 x)) q (upd ((zu σ q (upd (σ.1 q) 0 x)).1 q) 1 0)).1 k = σ.1 k := fun k h _ _ _ => by simp [zu, h]
abbrev zst (σ : zS) (q : Nat) (x : Int32) : zS := zu (zu σ q (upd (σ.1 q) 0 x)) q (upd ((zu σ q (upd (σ.1 q) 0 x)).1 q) 1 0)
theorem zst_0 (σ : zS) (q : Nat) (x : Int32) : (zst σ q x).1 q 0 = x := by simp [zu, upd]
theorem zst_k (σ : zS) {q : Nat} (x : Int32) (h : zrl q) : zk σ (zst σ q x) := (zk_zu σ _ h.l30).tr (zk_zu _ _ h.l30)
theorem zst_n (σ : zS) {q k : Nat} (x : Int32) (h : k ≠ q) : (zst σ q x).1 k = σ.1 k := by simp [zu, h]
theorem wn_lt {x : Nat} (p : Nat) (h : x < 16) : wn x p < 4096 := by
  have h1 : 2 ^ (12 - 4 * (p + 1)) ≤ 2 ^ 8 := Nat.pow_le_pow_right (by decide) (by omega)
  have h2 : x * 2 ^ (12 - 4 * (p + 1)) ≤ 15 * 2 ^ 8 := Nat.mul_le_mul (by omega) h1
  unfold wn
  omega
theorem tur_lt (u t p : Nat) : tur t u p < 4096 := by
  induction p with
  | zero => exact (by decide : 0 < 4096)
  | succ p ih => exact Nat.or_lt_two_pow (n := 12) ih (wn_lt _ (nu_lt t p))
theorem nar_lt (t mask p : Nat) : (nar t mask p).1 < 4096 := by
  induction p with
  | zero => exact (by decide : 0 < 4096)
  | succ p ih =>
    unfold nar
    split
    · exact Nat.or_lt_two_pow (n := 12) ih (wn_lt _ (nu_lt t p))
    · exact ih
set_option maxHeartbeats 4000000 in
set_option maxRecDepth 100000 in
theorem lp_turn (l : Launch) (G : zG) {σ : zS} {q s n u : Nat} {m : Nat → Int32} (hs : zrl s) (hqs : q ≠ s) (h0 : σ.1 0 0 = nI s) (h : zr σ q n m) {r : Nat} {ya : Int32} {Fin : List Frame → Array Value → State → State → Prop} (hu : u ≤ 3) (hu0 : σ.1 q 0 = nI u) (K : ∀ (τ : zS) (ns : Nat), zf σ τ s → zr τ s ns (fc (fB (fun t => tur t u u)) (fun _ => 0) (σ.1 (q + 1)) (σ.1 (q + 2)) n) → zB l G w_Sh_turn R_Sh c_Sh_turn 5 (some .int) [] (zrz 8 150 2) Fin 2 12 68 [(4, .int (nI n)), (0, .ref (zad G 0)), (1, .int (nI r)), (2, .int ya), (3, .ref (zad G q))] [] τ) : ∀ (k i : Nat) (τ : zS) (ns : Nat), i + k = n → zf σ τ s → zr τ s ns (fc (fB (fun t => tur t u u)) (fun _ => 0) (σ.1 (q + 1)) (σ.1 (q + 2)) i) → ns ≤ i → zB l G w_Sh_turn R_Sh c_Sh_turn 5 (some .int) [] (zrz 8 150 2) Fin 2 12 24 [(4, .int (nI i)), (0, .ref (zad G 0)), (1, .int (nI r)), (2, .int ya), (3, .ref (zad G q))] [] τ := by
  intro k
  induction k with
  | zero =>
    intro i τ ns hi hf hz hns
    have e : i = n := by omega
    have hq := h.1
    have ap := hq.apart hs hqs
    have hp := h.2.2
    have hn3 := hp.1
    have z0 : (0 : Nat) ≠ s ∧ (0 : Nat) ≠ s + 1 ∧ (0 : Nat) ≠ s + 2 := by have := hs.1; omega
    have hs31 : s < 2 ^ 31 := by have := hs.lt; omega
    have e0 : τ.1 0 0 = nI s := by rw [hf.1 0 z0.1 z0.2.1 z0.2.2]; exact h0
    have eq0 : τ.1 q = σ.1 q := hf.1 q ap.1 ap.2.1 ap.2.2.1
    have eq1 : τ.1 (q + 1) = σ.1 (q + 1) := hf.1 _ ap.2.2.2.1 ap.2.2.2.2.1 ap.2.2.2.2.2.1
    have eq2 : τ.1 (q + 2) = σ.1 (q + 2) := hf.1 _ ap.2.2.2.2.2.2.1 ap.2.2.2.2.2.2.2.1 ap.2.2.2.2.2.2.2.2
    refine zb_iload d_Sh_turn_24 rfl ?_
    refine zb_aload_n d_Sh_turn_26 rfl rfl ?_
    refine zr_size (q := q) d_Sh_turn_27 fl_Sh_32 hq ?_
    refine zb_top (y := nI n) (by rw [eq0]; exact h.2.1) ?_
    refine zb_icmp_ge (tgt := 68) d_Sh_turn_30 rfl (fun h30 => ?_) (fun h30 => absurd (nI_le (a := n) (b := i) (by omega) (by omega)) h30)
    refine zb_sub [0, 1, 2, 3, 4] rfl ?_
    rw [e] at hz ⊢
    exact K τ ns hf hz
  | succ k ih =>
    intro i τ ns hi hf hz hns
    have hlt : i < n := by omega
    have hq := h.1
    have ap := hq.apart hs hqs
    have hp := h.2.2
    have hn3 := hp.1
    have z0 : (0 : Nat) ≠ s ∧ (0 : Nat) ≠ s + 1 ∧ (0 : Nat) ≠ s + 2 := by have := hs.1; omega
    have hs31 : s < 2 ^ 31 := by have := hs.lt; omega
    have e0 : τ.1 0 0 = nI s := by rw [hf.1 0 z0.1 z0.2.1 z0.2.2]; exact h0
    have eq0 : τ.1 q = σ.1 q := hf.1 q ap.1 ap.2.1 ap.2.2.1
    have eq1 : τ.1 (q + 1) = σ.1 (q + 1) := hf.1 _ ap.2.2.2.1 ap.2.2.2.2.1 ap.2.2.2.2.2.1
    have eq2 : τ.1 (q + 2) = σ.1 (q + 2) := hf.1 _ ap.2.2.2.2.2.2.1 ap.2.2.2.2.2.2.2.1 ap.2.2.2.2.2.2.2.2
    refine zb_iload d_Sh_turn_24 rfl ?_
    refine zb_aload_n d_Sh_turn_26 rfl rfl ?_
    refine zr_size (q := q) d_Sh_turn_27 fl_Sh_32 hq ?_
    refine zb_top (y := nI n) (by rw [eq0]; exact h.2.1) ?_
    refine zb_icmp_ge (tgt := 68) d_Sh_turn_30 rfl (fun h30 => absurd h30 (nI_ge (a := i) (b := n) (by omega) (by omega))) (fun h30 => ?_)
    refine zb_aload_n d_Sh_turn_33 rfl rfl ?_
    refine zs_spare d_Sh_turn_34 fl_Sh_16 ?_
    refine zb_st (st' := .ref (zad G s) :: []) (by rw [e0, nI_clamp hs31]) ?_
    refine zb_aload_n d_Sh_turn_37 rfl rfl ?_
    refine zr_tuples (q := q) d_Sh_turn_38 fl_Sh_60 hq ?_
    refine zb_iload d_Sh_turn_41 rfl ?_
    refine zb_ialdN (q := q + 1) (j := i) d_Sh_turn_43 (hq.t) (by rw [hq.nt]; omega) ?_
    refine zb_top (y := nI (zN (σ.1 (q + 1) i))) (by rw [eq1]; exact (hp.2.1 i hlt).2) ?_
    refine zb_aload_n d_Sh_turn_44 rfl rfl ?_
    refine zr_width (q := q) d_Sh_turn_45 fl_Sh_40 hq ?_
    refine zb_top (y := nI u) (by rw [eq0]; exact hu0) ?_
    refine zb_callS (rest := [.ref (zad G s)]) (c_turned l G (hp.2.1 i hlt).1 hu) (lk_Sh_105.cw rfl rfl ⟨Nat.le_of_ble_eq_true rfl, Nat.le_of_ble_eq_true rfl⟩) rfl rfl (Nat.le_of_ble_eq_true rfl) d_Sh_turn_48 ⟨Nat.le_of_ble_eq_true rfl, Nat.le_of_ble_eq_true rfl⟩ ?_
    rintro _ _ ⟨rfl, rfl⟩
    refine zb_st (st' := [.int (nI (tur (zN (σ.1 (q + 1) i)) u u)), .ref (zad G s)]) rfl ?_
    refine zb_aload_n d_Sh_turn_51 rfl rfl ?_
    refine zr_counts (q := q) d_Sh_turn_52 fl_Sh_82 hq ?_
    refine zb_iload d_Sh_turn_55 rfl ?_
    refine zb_ialdN (q := q + 2) (j := i) d_Sh_turn_57 (hq.c) (by rw [hq.nc]; omega) ?_
    refine zb_top (y := σ.1 (q + 2) i) (by rw [eq2]) ?_
    refine zb_callV (rest := []) (c_raise_y l G hz (t := tur (zN (σ.1 (q + 1) i)) u u) (tur_lt u _ u) (Or.inr (Or.inr (by omega)))) (lk_Sh_47.cw rfl rfl ⟨Nat.le_of_ble_eq_true rfl, Nat.le_of_ble_eq_true rfl⟩) (zgR hs) rfl rfl rfl rfl (Nat.le_of_ble_eq_true rfl) d_Sh_turn_58 ⟨Nat.le_of_ble_eq_true rfl, Nat.le_of_ble_eq_true rfl⟩ ?_
    rintro _ _ ⟨rfl, n2, w1, w2⟩
    rename_i τ9
    refine zb_st (st' := [.int 1]) rfl ?_
    refine zb_pop d_Sh_turn_61 rfl ?_
    refine zb_iinc (v := nI (i + 1)) (lv' := [(4, .int (nI (i + 1))), (0, .ref (zad G 0)), (1, .int (nI r)), (2, .int ya), (3, .ref (zad G q))]) d_Sh_turn_62 rfl (nI_1 i) (by decide) rfl ?_
    refine zb_goto (tgt := 24) d_Sh_turn_65 rfl ?_
    refine zb_sub [0, 1, 2, 3, 4] rfl ?_
    exact ih (i + 1) τ9 n2 (by omega) (hf.tr w2) w1 (Nat.le_trans (zr_up hz w1) (by omega))
theorem zN_pos {x : Int32} (h : 0 < zN x) : x = nI (zN x) := by
  by_cases hx : x < 0
  · exfalso
    have h1 : x.toInt < 0 := by simpa using Int32.lt_iff_toInt_lt.mp hx
    have h2 : zN x = x.toInt.toNat := rfl
    omega
  · obtain ⟨j, hj, rfl⟩ := nI_of hx
    rw [zN_nI hj]
theorem zrl.nI {x : Int32} (h : zrl (zN x)) : x = nI (zN x) := zN_pos (by have := h.1; omega)
theorem mod_or {a b k : Nat} (ha : a % 2 ^ k = 0) (hb : b % 2 ^ k = 0) : (a ||| b) % 2 ^ k = 0 := by rw [Nat.or_mod_two_pow, ha, hb]; rfl
theorem mod_pw {a j k : Nat} (h : j ≤ k) (ha : a % 2 ^ k = 0) : a % 2 ^ j = 0 := Nat.mod_eq_zero_of_dvd (Nat.dvd_trans (Nat.pow_dvd_pow 2 h) (Nat.dvd_of_mod_eq_zero ha))
theorem wn_mod (x p k : Nat) (h : k ≤ 12 - 4 * (p + 1)) : wn x p % 2 ^ k = 0 := mod_pw h (Nat.mul_mod_left _ _)
theorem tur_mod (t u p : Nat) (hp : p ≤ u) : tur t u p % 2 ^ (12 - 4 * u) = 0 := by
  induction p with
  | zero => exact Nat.zero_mod _
  | succ p ih => exact mod_or (ih (by omega)) (wn_mod _ _ _ (by omega))
theorem nar_mod (t mask p : Nat) : (nar t mask p).1 % 2 ^ (12 - 4 * (nar t mask p).2) = 0 := by
  induction p with
  | zero => exact Nat.zero_mod _
  | succ p ih =>
    unfold nar
    split
    · exact mod_or (mod_pw (by show 12 - 4 * ((nar t mask p).2 + 1) ≤ _; omega) ih) (wn_mod _ _ _ (Nat.le_refl _))
    · exact ih
theorem nar_n (t mask : Nat) (h : mask < 8) : (nar t mask 3).2 = pc16 mask := by
  rcases (show mask = 0 ∨ mask = 1 ∨ mask = 2 ∨ mask = 3 ∨ mask = 4 ∨ mask = 5 ∨ mask = 6 ∨ mask = 7 by omega) with rfl | rfl | rfl | rfl | rfl | rfl | rfl | rfl <;> rfl
theorem pc_8 : ∀ mask, mask < 8 → 0 < mask → 1 ≤ pc16 mask ∧ pc16 mask ≤ 3 := by decide +kernel
theorem fcB_sup {g : Nat → Nat} {D : Nat} (hg : ∀ t, g t % D = 0) (T C : Nat → Int32) (i u : Nat) (h : fc (fB g) (fun _ => 0) T C i u ≠ 0) : u % D = 0 := by
  induction i with
  | zero => exact absurd rfl h
  | succ i ih =>
    simp only [fc, fB] at h
    by_cases e : u = g (zN (T i))
    · rw [e]; exact hg _
    · rw [pk_un e] at h; exact ih h
theorem fcP_sup {p v : Nat} (T C : Nat → Int32) (i u : Nat) (h : fc (fP p v) (fun _ => 0) T C i u ≠ 0) : ∃ j, j < i ∧ zN (T j) = u := by
  induction i with
  | zero => exact absurd rfl h
  | succ i ih =>
    simp only [fc, fP] at h
    by_cases e : u = zN (T i)
    · exact ⟨i, Nat.lt_succ_self _, e.symm⟩
    · have h2 : fc (fP p v) (fun _ => 0) T C i u ≠ 0 := by
        split at h
        · rwa [pk_un e] at h
        · exact h
      obtain ⟨j, hj, e2⟩ := ih h2
      exact ⟨j, Nat.lt_succ_of_lt hj, e2⟩
set_option maxHeartbeats 4000000 in
set_option maxRecDepth 100000 in
theorem lp_narrow (l : Launch) (G : zG) {σ : zS} {q s n u : Nat} {m : Nat → Int32} (hs : zrl s) (hqs : q ≠ s) (h0 : σ.1 0 0 = nI s) (h : zr σ q n m) {r mask : Nat} {ya : Int32} {Fin : List Frame → Array Value → State → State → Prop} (hm : mask < 8) (K : ∀ (τ : zS) (ns : Nat), zf σ τ s → zr τ s ns (fc (fB (fun t => (nar t mask 3).1)) (fun _ => 0) (σ.1 (q + 1)) (σ.1 (q + 2)) n) → zB l G w_Sh_narrow R_Sh c_Sh_narrow 6 (some .int) [] (zrz 8 150 3) Fin 3 18 92 [(5, .int (nI n)), (0, .ref (zad G 0)), (1, .int (nI r)), (2, .int ya), (3, .int (nI mask)), (4, .ref (zad G q))] [] τ) : ∀ (k i : Nat) (τ : zS) (ns : Nat), i + k = n → zf σ τ s → zr τ s ns (fc (fB (fun t => (nar t mask 3).1)) (fun _ => 0) (σ.1 (q + 1)) (σ.1 (q + 2)) i) → ns ≤ i → zB l G w_Sh_narrow R_Sh c_Sh_narrow 6 (some .int) [] (zrz 8 150 3) Fin 3 18 48 [(5, .int (nI i)), (0, .ref (zad G 0)), (1, .int (nI r)), (2, .int ya), (3, .int (nI mask)), (4, .ref (zad G q))] [] τ := by
  intro k
  induction k with
  | zero =>
    intro i τ ns hi hf hz hns
    have e : i = n := by omega
    have hq := h.1
    have ap := hq.apart hs hqs
    have hp := h.2.2
    have hn3 := hp.1
    have z0 : (0 : Nat) ≠ s ∧ (0 : Nat) ≠ s + 1 ∧ (0 : Nat) ≠ s + 2 := by have := hs.1; omega
    have hs31 : s < 2 ^ 31 := by have := hs.lt; omega
    have e0 : τ.1 0 0 = nI s := by rw [hf.1 0 z0.1 z0.2.1 z0.2.2]; exact h0
    have eq0 : τ.1 q = σ.1 q := hf.1 q ap.1 ap.2.1 ap.2.2.1
    have eq1 : τ.1 (q + 1) = σ.1 (q + 1) := hf.1 _ ap.2.2.2.1 ap.2.2.2.2.1 ap.2.2.2.2.2.1
    have eq2 : τ.1 (q + 2) = σ.1 (q + 2) := hf.1 _ ap.2.2.2.2.2.2.1 ap.2.2.2.2.2.2.2.1 ap.2.2.2.2.2.2.2.2
    refine zb_iload d_Sh_narrow_48 rfl ?_
    refine zb_aload d_Sh_narrow_50 rfl ?_
    refine zr_size (q := q) d_Sh_narrow_52 fl_Sh_32 hq ?_
    refine zb_top (y := nI n) (by rw [eq0]; exact h.2.1) ?_
    refine zb_icmp_ge (tgt := 92) d_Sh_narrow_55 rfl (fun h55 => ?_) (fun h55 => absurd (nI_le (a := n) (b := i) (by omega) (by omega)) h55)
    refine zb_sub [0, 1, 2, 3, 4, 5] rfl ?_
    rw [e] at hz ⊢
    exact K τ ns hf hz
  | succ k ih =>
    intro i τ ns hi hf hz hns
    have hlt : i < n := by omega
    have hq := h.1
    have ap := hq.apart hs hqs
    have hp := h.2.2
    have hn3 := hp.1
    have z0 : (0 : Nat) ≠ s ∧ (0 : Nat) ≠ s + 1 ∧ (0 : Nat) ≠ s + 2 := by have := hs.1; omega
    have hs31 : s < 2 ^ 31 := by have := hs.lt; omega
    have e0 : τ.1 0 0 = nI s := by rw [hf.1 0 z0.1 z0.2.1 z0.2.2]; exact h0
    have eq0 : τ.1 q = σ.1 q := hf.1 q ap.1 ap.2.1 ap.2.2.1
    have eq1 : τ.1 (q + 1) = σ.1 (q + 1) := hf.1 _ ap.2.2.2.1 ap.2.2.2.2.1 ap.2.2.2.2.2.1
    have eq2 : τ.1 (q + 2) = σ.1 (q + 2) := hf.1 _ ap.2.2.2.2.2.2.1 ap.2.2.2.2.2.2.2.1 ap.2.2.2.2.2.2.2.2
    refine zb_iload d_Sh_narrow_48 rfl ?_
    refine zb_aload d_Sh_narrow_50 rfl ?_
    refine zr_size (q := q) d_Sh_narrow_52 fl_Sh_32 hq ?_
    refine zb_top (y := nI n) (by rw [eq0]; exact h.2.1) ?_
    refine zb_icmp_ge (tgt := 92) d_Sh_narrow_55 rfl (fun h55 => absurd h55 (nI_ge (a := i) (b := n) (by omega) (by omega))) (fun h55 => ?_)
    refine zb_aload_n d_Sh_narrow_58 rfl rfl ?_
    refine zs_spare d_Sh_narrow_59 fl_Sh_16 ?_
    refine zb_st (st' := .ref (zad G s) :: []) (by rw [e0, nI_clamp hs31]) ?_
    refine zb_aload d_Sh_narrow_62 rfl ?_
    refine zr_tuples (q := q) d_Sh_narrow_64 fl_Sh_60 hq ?_
    refine zb_iload d_Sh_narrow_67 rfl ?_
    refine zb_ialdN (q := q + 1) (j := i) d_Sh_narrow_69 (hq.t) (by rw [hq.nt]; omega) ?_
    refine zb_top (y := nI (zN (σ.1 (q + 1) i))) (by rw [eq1]; exact (hp.2.1 i hlt).2) ?_
    refine zb_iload_n d_Sh_narrow_70 rfl rfl ?_
    refine zb_callS (rest := [.ref (zad G s)]) (c_narrowed l G (hp.2.1 i hlt).1 hm) (lk_Sh_78.cw rfl rfl ⟨Nat.le_of_ble_eq_true rfl, Nat.le_of_ble_eq_true rfl⟩) rfl rfl (Nat.le_of_ble_eq_true rfl) d_Sh_narrow_71 ⟨Nat.le_of_ble_eq_true rfl, Nat.le_of_ble_eq_true rfl⟩ ?_
    rintro _ _ ⟨rfl, rfl⟩
    refine zb_st (st' := [.int (nI (nar (zN (σ.1 (q + 1) i)) mask 3).1), .ref (zad G s)]) rfl ?_
    refine zb_aload d_Sh_narrow_74 rfl ?_
    refine zr_counts (q := q) d_Sh_narrow_76 fl_Sh_82 hq ?_
    refine zb_iload d_Sh_narrow_79 rfl ?_
    refine zb_ialdN (q := q + 2) (j := i) d_Sh_narrow_81 (hq.c) (by rw [hq.nc]; omega) ?_
    refine zb_top (y := σ.1 (q + 2) i) (by rw [eq2]) ?_
    refine zb_callV (rest := []) (c_raise_y l G hz (t := (nar (zN (σ.1 (q + 1) i)) mask 3).1) (nar_lt _ mask 3) (Or.inr (Or.inr (by omega)))) (lk_Sh_47.cw rfl rfl ⟨Nat.le_of_ble_eq_true rfl, Nat.le_of_ble_eq_true rfl⟩) (zgR hs) rfl rfl rfl rfl (Nat.le_of_ble_eq_true rfl) d_Sh_narrow_82 ⟨Nat.le_of_ble_eq_true rfl, Nat.le_of_ble_eq_true rfl⟩ ?_
    rintro _ _ ⟨rfl, n2, w1, w2⟩
    rename_i τ9
    refine zb_st (st' := [.int 1]) rfl ?_
    refine zb_pop d_Sh_narrow_85 rfl ?_
    refine zb_iinc (v := nI (i + 1)) (lv' := [(5, .int (nI (i + 1))), (0, .ref (zad G 0)), (1, .int (nI r)), (2, .int ya), (3, .int (nI mask)), (4, .ref (zad G q))]) d_Sh_narrow_86 rfl (nI_1 i) (by decide) rfl ?_
    refine zb_goto (tgt := 48) d_Sh_narrow_89 rfl ?_
    refine zb_sub [0, 1, 2, 3, 4, 5] rfl ?_
    exact ih (i + 1) τ9 n2 (by omega) (hf.tr w2) w1 (Nat.le_trans (zr_up hz w1) (by omega))
set_option maxHeartbeats 4000000 in
set_option maxRecDepth 100000 in
theorem lp_pick (l : Launch) (G : zG) {σ : zS} {q s n u : Nat} {m : Nat → Int32} (hs : zrl s) (hqs : q ≠ s) (h0 : σ.1 0 0 = nI s) (h : zr σ q n m) {r pl v : Nat} {ya : Int32} {Fin : List Frame → Array Value → State → State → Prop} (hpl : pl < 3) (hv : v < 16) (K : ∀ (τ : zS) (ns : Nat), zf σ τ s → zr τ s ns (fc (fP pl v) (fun _ => 0) (σ.1 (q + 1)) (σ.1 (q + 2)) n) → zB l G w_Sh_pick R_Sh c_Sh_pick 7 (some .int) [] (zrz 8 150 4) Fin 4 24 124 [(6, .int (nI n)), (0, .ref (zad G 0)), (1, .int (nI r)), (2, .int ya), (3, .int (nI pl)), (4, .int (nI v)), (5, .ref (zad G q))] [] τ) : ∀ (k i : Nat) (τ : zS) (ns : Nat), i + k = n → zf σ τ s → zr τ s ns (fc (fP pl v) (fun _ => 0) (σ.1 (q + 1)) (σ.1 (q + 2)) i) → ns ≤ i → zB l G w_Sh_pick R_Sh c_Sh_pick 7 (some .int) [] (zrz 8 150 4) Fin 4 24 67 [(6, .int (nI i)), (0, .ref (zad G 0)), (1, .int (nI r)), (2, .int ya), (3, .int (nI pl)), (4, .int (nI v)), (5, .ref (zad G q))] [] τ := by
  intro k
  induction k with
  | zero =>
    intro i τ ns hi hf hz hns
    have e : i = n := by omega
    have hq := h.1
    have ap := hq.apart hs hqs
    have hp := h.2.2
    have hn3 := hp.1
    have z0 : (0 : Nat) ≠ s ∧ (0 : Nat) ≠ s + 1 ∧ (0 : Nat) ≠ s + 2 := by have := hs.1; omega
    have hs31 : s < 2 ^ 31 := by have := hs.lt; omega
    have e0 : τ.1 0 0 = nI s := by rw [hf.1 0 z0.1 z0.2.1 z0.2.2]; exact h0
    have eq0 : τ.1 q = σ.1 q := hf.1 q ap.1 ap.2.1 ap.2.2.1
    have eq1 : τ.1 (q + 1) = σ.1 (q + 1) := hf.1 _ ap.2.2.2.1 ap.2.2.2.2.1 ap.2.2.2.2.2.1
    have eq2 : τ.1 (q + 2) = σ.1 (q + 2) := hf.1 _ ap.2.2.2.2.2.2.1 ap.2.2.2.2.2.2.2.1 ap.2.2.2.2.2.2.2.2
    refine zb_iload d_Sh_pick_67 rfl ?_
    refine zb_aload d_Sh_pick_69 rfl ?_
    refine zr_size (q := q) d_Sh_pick_71 fl_Sh_32 hq ?_
    refine zb_top (y := nI n) (by rw [eq0]; exact h.2.1) ?_
    refine zb_icmp_ge (tgt := 124) d_Sh_pick_74 rfl (fun h74 => ?_) (fun h74 => absurd (nI_le (a := n) (b := i) (by omega) (by omega)) h74)
    refine zb_sub [0, 1, 2, 3, 4, 5, 6] rfl ?_
    rw [e] at hz ⊢
    exact K τ ns hf hz
  | succ k ih =>
    intro i τ ns hi hf hz hns
    have hlt : i < n := by omega
    have hq := h.1
    have ap := hq.apart hs hqs
    have hp := h.2.2
    have hn3 := hp.1
    have z0 : (0 : Nat) ≠ s ∧ (0 : Nat) ≠ s + 1 ∧ (0 : Nat) ≠ s + 2 := by have := hs.1; omega
    have hs31 : s < 2 ^ 31 := by have := hs.lt; omega
    have e0 : τ.1 0 0 = nI s := by rw [hf.1 0 z0.1 z0.2.1 z0.2.2]; exact h0
    have eq0 : τ.1 q = σ.1 q := hf.1 q ap.1 ap.2.1 ap.2.2.1
    have eq1 : τ.1 (q + 1) = σ.1 (q + 1) := hf.1 _ ap.2.2.2.1 ap.2.2.2.2.1 ap.2.2.2.2.2.1
    have eq2 : τ.1 (q + 2) = σ.1 (q + 2) := hf.1 _ ap.2.2.2.2.2.2.1 ap.2.2.2.2.2.2.2.1 ap.2.2.2.2.2.2.2.2
    refine zb_iload d_Sh_pick_67 rfl ?_
    refine zb_aload d_Sh_pick_69 rfl ?_
    refine zr_size (q := q) d_Sh_pick_71 fl_Sh_32 hq ?_
    refine zb_top (y := nI n) (by rw [eq0]; exact h.2.1) ?_
    refine zb_icmp_ge (tgt := 124) d_Sh_pick_74 rfl (fun h74 => absurd h74 (nI_ge (a := i) (b := n) (by omega) (by omega))) (fun h74 => ?_)
    refine zb_aload d_Sh_pick_77 rfl ?_
    refine zr_tuples (q := q) d_Sh_pick_79 fl_Sh_60 hq ?_
    refine zb_iload d_Sh_pick_82 rfl ?_
    refine zb_ialdN (q := q + 1) (j := i) d_Sh_pick_84 (hq.t) (by rw [hq.nt]; omega) ?_
    refine zb_top (y := nI (zN (σ.1 (q + 1) i))) (by rw [eq1]; exact (hp.2.1 i hlt).2) ?_
    refine zb_iload_n d_Sh_pick_85 rfl rfl ?_
    refine zb_callS (rest := []) (c_numberAt l G (hp.2.1 i hlt).1 hpl) (lk_Sh_85.cw rfl rfl ⟨Nat.le_of_ble_eq_true rfl, Nat.le_of_ble_eq_true rfl⟩) rfl rfl (Nat.le_of_ble_eq_true rfl) d_Sh_pick_86 ⟨Nat.le_of_ble_eq_true rfl, Nat.le_of_ble_eq_true rfl⟩ ?_
    rintro _ _ ⟨rfl, rfl⟩
    refine zb_st (st' := [.int (nI (nu (zN (σ.1 (q + 1) i)) pl))]) rfl ?_
    refine zb_iload d_Sh_pick_89 rfl ?_
    refine zb_icmp_ne (tgt := 118) d_Sh_pick_91 rfl (fun h91 => ?_) (fun h91 => ?_)
    · refine zb_iinc (v := nI (i + 1)) (lv' := [(6, .int (nI (i + 1))), (0, .ref (zad G 0)), (1, .int (nI r)), (2, .int ya), (3, .int (nI pl)), (4, .int (nI v)), (5, .ref (zad G q))]) d_Sh_pick_118 rfl (nI_1 i) (by decide) rfl ?_
      refine zb_goto (tgt := 67) d_Sh_pick_121 rfl ?_
      refine zb_sub [0, 1, 2, 3, 4, 5, 6] rfl ?_
      exact ih (i + 1) τ ns (by omega) hf (by show zr τ s ns (fP pl v _ _ _); rw [fP, if_neg (fun e => h91 (by rw [e]))]; exact hz) (by omega)
    · refine zb_aload_n d_Sh_pick_94 rfl rfl ?_
      refine zs_spare d_Sh_pick_95 fl_Sh_16 ?_
      refine zb_st (st' := .ref (zad G s) :: []) (by rw [e0, nI_clamp hs31]) ?_
      refine zb_aload d_Sh_pick_98 rfl ?_
      refine zr_tuples (q := q) d_Sh_pick_100 fl_Sh_60 hq ?_
      refine zb_iload d_Sh_pick_103 rfl ?_
      refine zb_ialdN (q := q + 1) (j := i) d_Sh_pick_105 (hq.t) (by rw [hq.nt]; omega) ?_
      refine zb_top (y := nI (zN (σ.1 (q + 1) i))) (by rw [eq1]; exact (hp.2.1 i hlt).2) ?_
      refine zb_aload d_Sh_pick_106 rfl ?_
      refine zr_counts (q := q) d_Sh_pick_108 fl_Sh_82 hq ?_
      refine zb_iload d_Sh_pick_111 rfl ?_
      refine zb_ialdN (q := q + 2) (j := i) d_Sh_pick_113 (hq.c) (by rw [hq.nc]; omega) ?_
      refine zb_top (y := σ.1 (q + 2) i) (by rw [eq2]) ?_
      refine zb_callV (rest := []) (c_raise_y l G hz (t := zN (σ.1 (q + 1) i)) (hp.2.1 i hlt).1 (Or.inr (Or.inr (by omega)))) (lk_Sh_47.cw rfl rfl ⟨Nat.le_of_ble_eq_true rfl, Nat.le_of_ble_eq_true rfl⟩) (zgR hs) rfl rfl rfl rfl (Nat.le_of_ble_eq_true rfl) d_Sh_pick_114 ⟨Nat.le_of_ble_eq_true rfl, Nat.le_of_ble_eq_true rfl⟩ ?_
      rintro _ _ ⟨rfl, n2, w1, w2⟩
      rename_i τ9
      refine zb_st (st' := [.int 1]) rfl ?_
      refine zb_pop d_Sh_pick_117 rfl ?_
      refine zb_iinc (v := nI (i + 1)) (lv' := [(6, .int (nI (i + 1))), (0, .ref (zad G 0)), (1, .int (nI r)), (2, .int ya), (3, .int (nI pl)), (4, .int (nI v)), (5, .ref (zad G q))]) d_Sh_pick_118 rfl (nI_1 i) (by decide) rfl ?_
      refine zb_goto (tgt := 67) d_Sh_pick_121 rfl ?_
      refine zb_sub [0, 1, 2, 3, 4, 5, 6] rfl ?_
      exact ih (i + 1) τ9 n2 (by omega) (hf.tr w2) (by show zr τ9 s n2 (fP pl v _ _ _); rw [fP, if_pos ((nI_eq (by have := nu_lt (zN (σ.1 (q + 1) i)) pl; omega) (by omega)).mp h91)]; exact w1) (Nat.le_trans (zr_up hz w1) (by omega))
set_option maxHeartbeats 4000000 in
set_option maxRecDepth 100000 in
/-- turn(to, a) -/
theorem c_turn (l : Launch) (G : zG) {σ : zS} {x y : Int32} {M : Nat → Nat → Int32} {w : Nat → Nat} (hl : l.stackTraces = false) (hw : zwf σ M w) : zCX l G y_Sh_turn w_Sh_turn (zrz 8 150 2) 2 12 [.ref (zad G 0), .int x, .int y] σ (fun v σ' => ∃ r a : Nat, r < 8 ∧ x = nI r ∧ a < 8 ∧ y = nI a ∧ v = some (.int (nI (zct (fm (fB (fun t => tur t (w a) (w a))) (fun _ => 0) (M a) 4096) 4096))) ∧ zwf σ' (uM M r (fm (fB (fun t => tur t (w a) (w a))) (fun _ => 0) (M a) 4096)) (uM w r (w a)) ∧ zk σ σ') (fun E σ' => (E = zNS ∧ ¬ (zgr x ∧ zgr y) ∨ False) ∧ zwf σ' M w ∧ zk σ σ') := by
  refine zCX_of (cc := c_Sh_turn) (nL := 5) (ret := (some .int)) (own := R_Sh) (by decide +kernel) rfl rfl (Nat.le_of_ble_eq_true rfl) ?_
  refine zb_lv (lv' := [(0, .ref (zad G 0)), (1, .int x), (2, .int y)]) rfl ?_
  refine zb_iload_n d_Sh_turn_0 rfl rfl ?_
  refine zx_callS (rest := []) (c_mustBe l G hl) (lk_Sh_63.cw rfl rfl ⟨Nat.le_of_ble_eq_true rfl, Nat.le_of_ble_eq_true rfl⟩) rfl rfl (Nat.le_of_ble_eq_true rfl) d_Sh_turn_1 ⟨Nat.le_of_ble_eq_true rfl, Nat.le_of_ble_eq_true rfl⟩ ?_ ?_
  rotate_left
  · rintro E _ ⟨rfl, hx, rfl⟩; exact zx_out ⟨Or.inl ⟨rfl, fun z => hx z.1⟩, hw, zk.rf _⟩ (Nat.le_of_ble_eq_true rfl) (Nat.le_of_ble_eq_true rfl)
  rintro _ _ ⟨rfl, ⟨r, hr, rfl⟩, rfl⟩
  refine zb_lv (lv' := [(0, .ref (zad G 0)), (1, .int (nI r)), (2, .int y)]) rfl ?_
  refine zb_st (st' := []) rfl ?_
  refine zb_aload_n d_Sh_turn_4 rfl rfl ?_
  refine zb_iload_n d_Sh_turn_5 rfl rfl ?_
  refine zx_callV (rest := []) (c_relationOf l G hl) (lk_Sh_24.cw rfl rfl ⟨Nat.le_of_ble_eq_true rfl, Nat.le_of_ble_eq_true rfl⟩) zgS rfl rfl rfl rfl (Nat.le_of_ble_eq_true rfl) d_Sh_turn_6 ⟨Nat.le_of_ble_eq_true rfl, Nat.le_of_ble_eq_true rfl⟩ ?_ ?_
  rotate_left
  · rintro E _ ⟨rfl, hx, rfl⟩; exact zx_out ⟨Or.inl ⟨rfl, fun z => hx z.2⟩, hw, zk.rf _⟩ (Nat.le_of_ble_eq_true rfl) (Nat.le_of_ble_eq_true rfl)
  rintro _ _ ⟨a, ha, rfl, rfl, rfl⟩
  refine zb_lv (lv' := [(0, .ref (zad G 0)), (1, .int (nI r)), (2, .int (nI a))]) rfl ?_
  refine zb_st (st' := [.ref (zad G (zN (σ.1 1 a)))]) rfl ?_
  refine zb_astore_n (lv' := [(3, .ref (zad G (zN (σ.1 1 a)))), (0, .ref (zad G 0)), (1, .int (nI r)), (2, .int (nI a))]) d_Sh_turn_9 rfl (by decide) rfl ?_
  refine zb_aload_n d_Sh_turn_10 rfl rfl ?_
  refine zs_spare d_Sh_turn_11 fl_Sh_16 ?_
  refine zb_aload_n d_Sh_turn_14 rfl rfl ?_
  refine zr_width (q := zN (σ.1 1 a)) d_Sh_turn_15 fl_Sh_40 (hw.rl ha) ?_
  refine zb_top (y := nI (w a)) ((hw.at ha).1) ?_
  refine zb_callV (rest := []) (c_startAnew l G hw.sp) (lk_Sh_36.cw rfl rfl ⟨Nat.le_of_ble_eq_true rfl, Nat.le_of_ble_eq_true rfl⟩) (zgR hw.sp) rfl rfl rfl rfl (Nat.le_of_ble_eq_true rfl) d_Sh_turn_18 ⟨Nat.le_of_ble_eq_true rfl, Nat.le_of_ble_eq_true rfl⟩ ?_
  rintro _ _ ⟨rfl, rfl⟩
  refine zb_st (st' := []) rfl ?_
  refine zb_iconst (v := 0) d_Sh_turn_21 rfl ?_
  refine zb_istore (lv' := [(4, .int 0), (3, .ref (zad G (zN (σ.1 1 a)))), (0, .ref (zad G 0)), (1, .int (nI r)), (2, .int (nI a))]) d_Sh_turn_22 (by decide) rfl ?_
  obtain ⟨n, hn⟩ := (hw.at ha).2.2.2.1
  have ap := (hw.rl ha).apart hw.sp (hw.1.2 a ha).2
  have hsn := hw.sp.1
  have hzq : zr (zst σ (zN (σ.1 0 0)) (nI (w a))) (zN (σ.1 1 a)) n (M a) := hn.same (zst_n σ _ ap.1) (zst_n σ _ ap.2.2.2.1) (zst_n σ _ ap.2.2.2.2.2.2.1)
  refine zb_sub [0, 2, 3, 4, 1] rfl ?_
  refine lp_turn l G (s := zN (σ.1 0 0)) (q := zN (σ.1 1 a)) hw.sp (hw.1.2 a ha).2 (by rw [zst_n σ _ (by omega)]; exact hw.sp.nI) hzq (u := w a) (hw.at ha).2.2.1 (by rw [zst_n σ _ ap.1]; exact (hw.at ha).1) (fun τ ns hf hz => ?_) n 0 _ 0 (by omega) (zf.rf _ _) (zr_start hw.sp) (Nat.le_refl _)
  have t0 : τ.1 0 = σ.1 0 := (hf.1 0 (by omega) (by omega) (by omega)).trans (zst_n σ _ (by omega))
  have t1 : τ.1 1 = σ.1 1 := (hf.1 1 (by omega) (by omega) (by omega)).trans (zst_n σ _ (by omega))
  refine zb_aload_n d_Sh_turn_68 rfl rfl ?_
  refine zb_iload_n d_Sh_turn_69 rfl rfl ?_
  refine zb_callV (rest := []) (c_keepSpareAs l G hr (by rw [t0]; exact hw.sp) (by rw [t1]; exact hw.rl hr)) (lk_Sh_70.cw rfl rfl ⟨Nat.le_of_ble_eq_true rfl, Nat.le_of_ble_eq_true rfl⟩) zgS rfl rfl rfl rfl (Nat.le_of_ble_eq_true rfl) d_Sh_turn_70 ⟨Nat.le_of_ble_eq_true rfl, Nat.le_of_ble_eq_true rfl⟩ ?_
  rintro _ _ ⟨rfl, k1, k2, k3, k4⟩
  rename_i σ9
  refine zb_st (st' := [.int (τ.1 (zN (τ.1 0 0)) 1)]) rfl ?_
  exact zx_ret (zb_iret d_Sh_turn_73 rfl ⟨r, a, hr, rfl, ha, rfl, by rw [fm_eq _ _ hzq.2.2]; exact zfin hw ((zst_k σ _ hw.sp).tr (zf.k hw.sp hf)) (fun k h1 h2 h3 h4 => (hf.1 k h1 h2 h3).trans (zst_n σ _ h1)) hr (hf.2.2.trans (zst_0 σ _ _)) (hw.at ha).2.1 (hw.at ha).2.2.1 hz (fun t h => fcB_sup (fun t => tur_mod t (w a) (w a) (Nat.le_refl _)) _ _ _ t h) ⟨rfl, k1, k2, k3, k4⟩⟩)
theorem nI_bit8 : ∀ x, x ≤ 3 → (1 : Int32) <<< (nI x &&& 31) = nI (2 ^ x) := by decide +kernel
theorem pw8 : ∀ x, x ≤ 3 → 2 ^ x ≤ 8 := by decide +kernel
set_option maxHeartbeats 4000000 in
set_option maxRecDepth 100000 in
/-- narrow(to, a, mask) -/
theorem c_narrow (l : Launch) (G : zG) {σ : zS} {x y z : Int32} {M : Nat → Nat → Int32} {w : Nat → Nat} (hl : l.stackTraces = false) (hw : zwf σ M w) : zCX l G y_Sh_narrow w_Sh_narrow (zrz 8 150 3) 3 18 [.ref (zad G 0), .int x, .int y, .int z] σ (fun v σ' => ∃ r a k : Nat, r < 8 ∧ x = nI r ∧ a < 8 ∧ y = nI a ∧ (0 < k ∧ k < 2 ^ w a) ∧ z = nI k ∧ v = some (.int (nI (zct (fm (fB (fun t => (nar t k 3).1)) (fun _ => 0) (M a) 4096) 4096))) ∧ zwf σ' (uM M r (fm (fB (fun t => (nar t k 3).1)) (fun _ => 0) (M a) 4096)) (uM w r (pc16 k)) ∧ zk σ σ') (fun E σ' => (E = zNS ∧ ¬ (zgr x ∧ zgr y) ∨ E = zIA ∧ ∃ r : Nat, r < 8 ∧ x = nI r ∧ ∃ a : Nat, a < 8 ∧ y = nI a ∧ ¬ ∃ k : Nat, 0 < k ∧ k < 2 ^ w a ∧ z = nI k) ∧ zwf σ' M w ∧ zk σ σ') := by
  refine zCX_of (cc := c_Sh_narrow) (nL := 6) (ret := (some .int)) (own := R_Sh) (by decide +kernel) rfl rfl (Nat.le_of_ble_eq_true rfl) ?_
  refine zb_lv (lv' := [(0, .ref (zad G 0)), (1, .int x), (2, .int y), (3, .int z)]) rfl ?_
  refine zb_iload_n d_Sh_narrow_0 rfl rfl ?_
  refine zx_callS (rest := []) (c_mustBe l G hl) (lk_Sh_63.cw rfl rfl ⟨Nat.le_of_ble_eq_true rfl, Nat.le_of_ble_eq_true rfl⟩) rfl rfl (Nat.le_of_ble_eq_true rfl) d_Sh_narrow_1 ⟨Nat.le_of_ble_eq_true rfl, Nat.le_of_ble_eq_true rfl⟩ ?_ ?_
  rotate_left
  · rintro E _ ⟨rfl, hx, rfl⟩; exact zx_out ⟨Or.inl ⟨rfl, fun z => hx z.1⟩, hw, zk.rf _⟩ (Nat.le_of_ble_eq_true rfl) (Nat.le_of_ble_eq_true rfl)
  rintro _ _ ⟨rfl, ⟨r, hr, rfl⟩, rfl⟩
  refine zb_lv (lv' := [(0, .ref (zad G 0)), (1, .int (nI r)), (2, .int y), (3, .int z)]) rfl ?_
  refine zb_st (st' := []) rfl ?_
  refine zb_aload_n d_Sh_narrow_4 rfl rfl ?_
  refine zb_iload_n d_Sh_narrow_5 rfl rfl ?_
  refine zx_callV (rest := []) (c_relationOf l G hl) (lk_Sh_24.cw rfl rfl ⟨Nat.le_of_ble_eq_true rfl, Nat.le_of_ble_eq_true rfl⟩) zgS rfl rfl rfl rfl (Nat.le_of_ble_eq_true rfl) d_Sh_narrow_6 ⟨Nat.le_of_ble_eq_true rfl, Nat.le_of_ble_eq_true rfl⟩ ?_ ?_
  rotate_left
  · rintro E _ ⟨rfl, hx, rfl⟩; exact zx_out ⟨Or.inl ⟨rfl, fun z => hx z.2⟩, hw, zk.rf _⟩ (Nat.le_of_ble_eq_true rfl) (Nat.le_of_ble_eq_true rfl)
  rintro _ _ ⟨a, ha, rfl, rfl, rfl⟩
  refine zb_lv (lv' := [(0, .ref (zad G 0)), (1, .int (nI r)), (2, .int (nI a)), (3, .int z)]) rfl ?_
  refine zb_st (st' := [.ref (zad G (zN (σ.1 1 a)))]) rfl ?_
  refine zb_astore (lv' := [(4, .ref (zad G (zN (σ.1 1 a)))), (0, .ref (zad G 0)), (1, .int (nI r)), (2, .int (nI a)), (3, .int z)]) d_Sh_narrow_9 (by decide) rfl ?_
  have hw3 := (hw.at ha).2.2.1
  have hp8 := pw8 _ hw3
  refine zb_iload_n d_Sh_narrow_11 rfl rfl ?_
  refine zb_if_le (tgt := 30) d_Sh_narrow_12 rfl (fun h12 => ?_) (fun h12 => ?_)
  · refine zb_iconst (v := 0) d_Sh_narrow_30 rfl ?_
    refine zx_callS (rest := []) (c_refuseUnless l G hl) (lk_Sh_28.cw rfl rfl ⟨Nat.le_of_ble_eq_true rfl, Nat.le_of_ble_eq_true rfl⟩) rfl rfl (Nat.le_of_ble_eq_true rfl) d_Sh_narrow_31 ⟨Nat.le_of_ble_eq_true rfl, Nat.le_of_ble_eq_true rfl⟩ ?_ ?_
    rotate_left
    · rintro E _ ⟨rfl, -, rfl⟩; exact zx_out ⟨Or.inr ⟨rfl, r, hr, rfl, a, ha, rfl, fun ⟨k, h1, h2, e⟩ => by subst e; exact absurd h12 (nI_nle h1 (by omega))⟩, hw, zk.rf _⟩ (Nat.le_of_ble_eq_true rfl) (Nat.le_of_ble_eq_true rfl)
    rintro _ _ ⟨-, h0, -⟩
    exact absurd rfl h0
  · refine zb_iload_n d_Sh_narrow_15 rfl rfl ?_
    refine zb_iconst (v := 1) d_Sh_narrow_16 rfl ?_
    refine zb_aload d_Sh_narrow_17 rfl ?_
    refine zr_width (q := zN (σ.1 1 a)) d_Sh_narrow_19 fl_Sh_40 (hw.rl ha) ?_
    refine zb_top (y := nI (w a)) ((hw.at ha).1) ?_
    refine zb_ishl d_Sh_narrow_22 ?_
    refine zb_top (y := nI (2 ^ w a)) (nI_bit8 _ hw3) ?_
    refine zb_icmp_ge (tgt := 30) d_Sh_narrow_23 rfl (fun h23 => ?_) (fun h23 => ?_)
    · refine zb_iconst (v := 0) d_Sh_narrow_30 rfl ?_
      refine zx_callS (rest := []) (c_refuseUnless l G hl) (lk_Sh_28.cw rfl rfl ⟨Nat.le_of_ble_eq_true rfl, Nat.le_of_ble_eq_true rfl⟩) rfl rfl (Nat.le_of_ble_eq_true rfl) d_Sh_narrow_31 ⟨Nat.le_of_ble_eq_true rfl, Nat.le_of_ble_eq_true rfl⟩ ?_ ?_
      rotate_left
      · rintro E _ ⟨rfl, -, rfl⟩; exact zx_out ⟨Or.inr ⟨rfl, r, hr, rfl, a, ha, rfl, fun ⟨k, h1, h2, e⟩ => by subst e; exact absurd h23 (nI_ge h2 (by omega))⟩, hw, zk.rf _⟩ (Nat.le_of_ble_eq_true rfl) (Nat.le_of_ble_eq_true rfl)
      rintro _ _ ⟨-, h0, -⟩
      exact absurd rfl h0
    · refine zb_iconst (v := 1) d_Sh_narrow_26 rfl ?_
      refine zb_goto (tgt := 31) d_Sh_narrow_27 rfl ?_
      refine zx_callS (rest := []) (c_refuseUnless l G hl) (lk_Sh_28.cw rfl rfl ⟨Nat.le_of_ble_eq_true rfl, Nat.le_of_ble_eq_true rfl⟩) rfl rfl (Nat.le_of_ble_eq_true rfl) d_Sh_narrow_31 ⟨Nat.le_of_ble_eq_true rfl, Nat.le_of_ble_eq_true rfl⟩ ?_ ?_
      rotate_left
      · rintro E _ ⟨-, h0, -⟩; exact absurd h0 (by decide)
      rintro _ _ ⟨rfl, -, rfl⟩
      refine zb_st (st' := []) rfl ?_
      obtain ⟨k, hk31, rfl⟩ := nI_of (fun z => h12 (Int32.le_of_lt z))
      have hk0 : 0 < k := Nat.pos_of_ne_zero (fun e => h12 (by rw [e]; decide))
      have hk2 : k < 2 ^ w a := (nI_ltI hk31 (by omega)).mp (Int32.not_le.mp h23)
      have hk8 : k < 8 := by omega
      refine zb_lv (lv' := [(4, .ref (zad G (zN (σ.1 1 a)))), (0, .ref (zad G 0)), (1, .int (nI r)), (2, .int (nI a)), (3, .int (nI k))]) (rfl) ?_
      refine zb_aload_n d_Sh_narrow_34 rfl rfl ?_
      refine zs_spare d_Sh_narrow_35 fl_Sh_16 ?_
      refine zb_iload_n d_Sh_narrow_38 rfl rfl ?_
      refine zb_callS (rest := [.ref (zad G (σ.1 0 0).toNatClampNeg)]) (c_bitCount l G (show k < 65536 by omega)) (lk_Sh_73.cw rfl rfl ⟨Nat.le_of_ble_eq_true rfl, Nat.le_of_ble_eq_true rfl⟩) rfl rfl (Nat.le_of_ble_eq_true rfl) d_Sh_narrow_39 ⟨Nat.le_of_ble_eq_true rfl, Nat.le_of_ble_eq_true rfl⟩ ?_
      rintro _ _ ⟨rfl, rfl⟩
      refine zb_st (st' := [.int (nI (pc16 k)), .ref (zad G (σ.1 0 0).toNatClampNeg)]) rfl ?_
      refine zb_callV (rest := []) (c_startAnew l G hw.sp) (lk_Sh_36.cw rfl rfl ⟨Nat.le_of_ble_eq_true rfl, Nat.le_of_ble_eq_true rfl⟩) (zgR hw.sp) rfl rfl rfl rfl (Nat.le_of_ble_eq_true rfl) d_Sh_narrow_42 ⟨Nat.le_of_ble_eq_true rfl, Nat.le_of_ble_eq_true rfl⟩ ?_
      rintro _ _ ⟨rfl, rfl⟩
      refine zb_st (st' := []) rfl ?_
      refine zb_iconst (v := 0) d_Sh_narrow_45 rfl ?_
      refine zb_istore (lv' := [(5, .int 0), (4, .ref (zad G (zN (σ.1 1 a)))), (0, .ref (zad G 0)), (1, .int (nI r)), (2, .int (nI a)), (3, .int (nI k))]) d_Sh_narrow_46 (by decide) rfl ?_
      obtain ⟨n, hn⟩ := (hw.at ha).2.2.2.1
      have ap := (hw.rl ha).apart hw.sp (hw.1.2 a ha).2
      have hsn := hw.sp.1
      have hzq : zr (zst σ (zN (σ.1 0 0)) (nI (pc16 k))) (zN (σ.1 1 a)) n (M a) := hn.same (zst_n σ _ ap.1) (zst_n σ _ ap.2.2.2.1) (zst_n σ _ ap.2.2.2.2.2.2.1)
      refine zb_sub [0, 2, 3, 4, 5, 1] rfl ?_
      refine lp_narrow l G (s := zN (σ.1 0 0)) (q := zN (σ.1 1 a)) hw.sp (hw.1.2 a ha).2 (by rw [zst_n σ _ (by omega)]; exact hw.sp.nI) hzq (u := w a) hk8 (fun τ ns hf hz => ?_) n 0 _ 0 (by omega) (zf.rf _ _) (zr_start hw.sp) (Nat.le_refl _)
      have t0 : τ.1 0 = σ.1 0 := (hf.1 0 (by omega) (by omega) (by omega)).trans (zst_n σ _ (by omega))
      have t1 : τ.1 1 = σ.1 1 := (hf.1 1 (by omega) (by omega) (by omega)).trans (zst_n σ _ (by omega))
      refine zb_aload_n d_Sh_narrow_92 rfl rfl ?_
      refine zb_iload_n d_Sh_narrow_93 rfl rfl ?_
      refine zb_callV (rest := []) (c_keepSpareAs l G hr (by rw [t0]; exact hw.sp) (by rw [t1]; exact hw.rl hr)) (lk_Sh_70.cw rfl rfl ⟨Nat.le_of_ble_eq_true rfl, Nat.le_of_ble_eq_true rfl⟩) zgS rfl rfl rfl rfl (Nat.le_of_ble_eq_true rfl) d_Sh_narrow_94 ⟨Nat.le_of_ble_eq_true rfl, Nat.le_of_ble_eq_true rfl⟩ ?_
      rintro _ _ ⟨rfl, k1, k2, k3, k4⟩
      rename_i σ9
      refine zb_st (st' := [.int (τ.1 (zN (τ.1 0 0)) 1)]) rfl ?_
      exact zx_ret (zb_iret d_Sh_narrow_97 rfl ⟨r, a, k, hr, rfl, ha, rfl, ⟨hk0, hk2⟩, rfl, by rw [fm_eq _ _ hzq.2.2]; exact zfin hw ((zst_k σ _ hw.sp).tr (zf.k hw.sp hf)) (fun k h1 h2 h3 h4 => (hf.1 k h1 h2 h3).trans (zst_n σ _ h1)) hr (hf.2.2.trans (zst_0 σ _ _)) (pc_8 k hk8 hk0).1 (pc_8 k hk8 hk0).2 hz (fun t h => fcB_sup (fun t => by rw [← nar_n t k hk8]; exact nar_mod t k 3) _ _ _ t h) ⟨rfl, k1, k2, k3, k4⟩⟩)
set_option maxHeartbeats 4000000 in
set_option maxRecDepth 100000 in
/-- pick(to, a, place, v) -/
theorem c_pick (l : Launch) (G : zG) {σ : zS} {x y z b : Int32} {M : Nat → Nat → Int32} {w : Nat → Nat} (hl : l.stackTraces = false) (hw : zwf σ M w) : zCX l G y_Sh_pick w_Sh_pick (zrz 8 150 4) 4 24 [.ref (zad G 0), .int x, .int y, .int z, .int b] σ (fun o σ' => ∃ r a k v : Nat, r < 8 ∧ x = nI r ∧ a < 8 ∧ y = nI a ∧ k < w a ∧ z = nI k ∧ v < 16 ∧ b = nI v ∧ o = some (.int (nI (zct (fm (fP k v) (fun _ => 0) (M a) 4096) 4096))) ∧ zwf σ' (uM M r (fm (fP k v) (fun _ => 0) (M a) 4096)) (uM w r (w a)) ∧ zk σ σ') (fun E σ' => (E = zNS ∧ ¬ (zgr x ∧ zgr y) ∨ E = zIA ∧ ∃ r : Nat, r < 8 ∧ x = nI r ∧ ∃ a : Nat, a < 8 ∧ y = nI a ∧ ¬ ∃ k v : Nat, k < w a ∧ z = nI k ∧ v < 16 ∧ b = nI v) ∧ zwf σ' M w ∧ zk σ σ') := by
  refine zCX_of (cc := c_Sh_pick) (nL := 7) (ret := (some .int)) (own := R_Sh) (by decide +kernel) rfl rfl (Nat.le_of_ble_eq_true rfl) ?_
  refine zb_lv (lv' := [(0, .ref (zad G 0)), (1, .int x), (2, .int y), (3, .int z), (4, .int b)]) rfl ?_
  refine zb_iload_n d_Sh_pick_0 rfl rfl ?_
  refine zx_callS (rest := []) (c_mustBe l G hl) (lk_Sh_63.cw rfl rfl ⟨Nat.le_of_ble_eq_true rfl, Nat.le_of_ble_eq_true rfl⟩) rfl rfl (Nat.le_of_ble_eq_true rfl) d_Sh_pick_1 ⟨Nat.le_of_ble_eq_true rfl, Nat.le_of_ble_eq_true rfl⟩ ?_ ?_
  rotate_left
  · rintro E _ ⟨rfl, hx, rfl⟩; exact zx_out ⟨Or.inl ⟨rfl, fun z => hx z.1⟩, hw, zk.rf _⟩ (Nat.le_of_ble_eq_true rfl) (Nat.le_of_ble_eq_true rfl)
  rintro _ _ ⟨rfl, ⟨r, hr, rfl⟩, rfl⟩
  refine zb_lv (lv' := [(0, .ref (zad G 0)), (1, .int (nI r)), (2, .int y), (3, .int z), (4, .int b)]) rfl ?_
  refine zb_st (st' := []) rfl ?_
  refine zb_aload_n d_Sh_pick_4 rfl rfl ?_
  refine zb_iload_n d_Sh_pick_5 rfl rfl ?_
  refine zx_callV (rest := []) (c_relationOf l G hl) (lk_Sh_24.cw rfl rfl ⟨Nat.le_of_ble_eq_true rfl, Nat.le_of_ble_eq_true rfl⟩) zgS rfl rfl rfl rfl (Nat.le_of_ble_eq_true rfl) d_Sh_pick_6 ⟨Nat.le_of_ble_eq_true rfl, Nat.le_of_ble_eq_true rfl⟩ ?_ ?_
  rotate_left
  · rintro E _ ⟨rfl, hx, rfl⟩; exact zx_out ⟨Or.inl ⟨rfl, fun z => hx z.2⟩, hw, zk.rf _⟩ (Nat.le_of_ble_eq_true rfl) (Nat.le_of_ble_eq_true rfl)
  rintro _ _ ⟨a, ha, rfl, rfl, rfl⟩
  refine zb_lv (lv' := [(0, .ref (zad G 0)), (1, .int (nI r)), (2, .int (nI a)), (3, .int z), (4, .int b)]) rfl ?_
  refine zb_st (st' := [.ref (zad G (zN (σ.1 1 a)))]) rfl ?_
  refine zb_astore (lv' := [(5, .ref (zad G (zN (σ.1 1 a)))), (0, .ref (zad G 0)), (1, .int (nI r)), (2, .int (nI a)), (3, .int z), (4, .int b)]) d_Sh_pick_9 (by decide) rfl ?_
  have hw3 := (hw.at ha).2.2.1
  refine zb_iload_n d_Sh_pick_11 rfl rfl ?_
  refine zb_if_lt (tgt := 28) d_Sh_pick_12 rfl (fun h12 => ?_) (fun h12 => ?_)
  · refine zb_iconst (v := 0) d_Sh_pick_28 rfl ?_
    refine zx_callS (rest := []) (c_refuseUnless l G hl) (lk_Sh_28.cw rfl rfl ⟨Nat.le_of_ble_eq_true rfl, Nat.le_of_ble_eq_true rfl⟩) rfl rfl (Nat.le_of_ble_eq_true rfl) d_Sh_pick_29 ⟨Nat.le_of_ble_eq_true rfl, Nat.le_of_ble_eq_true rfl⟩ ?_ ?_
    rotate_left
    · rintro E _ ⟨rfl, -, rfl⟩; exact zx_out ⟨Or.inr ⟨rfl, r, hr, rfl, a, ha, rfl, fun ⟨k, v, h1, e, h2, e2⟩ => by subst e; subst e2; exact absurd h12 (nI_pos (by omega))⟩, hw, zk.rf _⟩ (Nat.le_of_ble_eq_true rfl) (Nat.le_of_ble_eq_true rfl)
    rintro _ _ ⟨-, h0, -⟩
    exact absurd rfl h0
  · refine zb_iload_n d_Sh_pick_15 rfl rfl ?_
    refine zb_aload d_Sh_pick_16 rfl ?_
    refine zr_width (q := zN (σ.1 1 a)) d_Sh_pick_18 fl_Sh_40 (hw.rl ha) ?_
    refine zb_top (y := nI (w a)) ((hw.at ha).1) ?_
    refine zb_icmp_ge (tgt := 28) d_Sh_pick_21 rfl (fun h21 => ?_) (fun h21 => ?_)
    · refine zb_iconst (v := 0) d_Sh_pick_28 rfl ?_
      refine zx_callS (rest := []) (c_refuseUnless l G hl) (lk_Sh_28.cw rfl rfl ⟨Nat.le_of_ble_eq_true rfl, Nat.le_of_ble_eq_true rfl⟩) rfl rfl (Nat.le_of_ble_eq_true rfl) d_Sh_pick_29 ⟨Nat.le_of_ble_eq_true rfl, Nat.le_of_ble_eq_true rfl⟩ ?_ ?_
      rotate_left
      · rintro E _ ⟨rfl, -, rfl⟩; exact zx_out ⟨Or.inr ⟨rfl, r, hr, rfl, a, ha, rfl, fun ⟨k, v, h1, e, h2, e2⟩ => by subst e; subst e2; exact absurd h21 (nI_ge h1 (by omega))⟩, hw, zk.rf _⟩ (Nat.le_of_ble_eq_true rfl) (Nat.le_of_ble_eq_true rfl)
      rintro _ _ ⟨-, h0, -⟩
      exact absurd rfl h0
    · refine zb_iconst (v := 1) d_Sh_pick_24 rfl ?_
      refine zb_goto (tgt := 29) d_Sh_pick_25 rfl ?_
      refine zx_callS (rest := []) (c_refuseUnless l G hl) (lk_Sh_28.cw rfl rfl ⟨Nat.le_of_ble_eq_true rfl, Nat.le_of_ble_eq_true rfl⟩) rfl rfl (Nat.le_of_ble_eq_true rfl) d_Sh_pick_29 ⟨Nat.le_of_ble_eq_true rfl, Nat.le_of_ble_eq_true rfl⟩ ?_ ?_
      rotate_left
      · rintro E _ ⟨-, h0, -⟩; exact absurd h0 (by decide)
      rintro _ _ ⟨rfl, -, rfl⟩
      refine zb_st (st' := []) rfl ?_
      refine zb_iload d_Sh_pick_32 rfl ?_
      refine zb_if_lt (tgt := 48) d_Sh_pick_34 rfl (fun h34 => ?_) (fun h34 => ?_)
      · refine zb_iconst (v := 0) d_Sh_pick_48 rfl ?_
        refine zx_callS (rest := []) (c_refuseUnless l G hl) (lk_Sh_28.cw rfl rfl ⟨Nat.le_of_ble_eq_true rfl, Nat.le_of_ble_eq_true rfl⟩) rfl rfl (Nat.le_of_ble_eq_true rfl) d_Sh_pick_49 ⟨Nat.le_of_ble_eq_true rfl, Nat.le_of_ble_eq_true rfl⟩ ?_ ?_
        rotate_left
        · rintro E _ ⟨rfl, -, rfl⟩; exact zx_out ⟨Or.inr ⟨rfl, r, hr, rfl, a, ha, rfl, fun ⟨k, v, h1, e, h2, e2⟩ => by subst e; subst e2; exact absurd h34 (nI_pos (by omega))⟩, hw, zk.rf _⟩ (Nat.le_of_ble_eq_true rfl) (Nat.le_of_ble_eq_true rfl)
        rintro _ _ ⟨-, h0, -⟩
        exact absurd rfl h0
      · refine zb_iload d_Sh_pick_37 rfl ?_
        refine zb_bipush (v := 16) d_Sh_pick_39 rfl ?_
        refine zb_icmp_ge (tgt := 48) d_Sh_pick_41 rfl (fun h41 => ?_) (fun h41 => ?_)
        · refine zb_iconst (v := 0) d_Sh_pick_48 rfl ?_
          refine zx_callS (rest := []) (c_refuseUnless l G hl) (lk_Sh_28.cw rfl rfl ⟨Nat.le_of_ble_eq_true rfl, Nat.le_of_ble_eq_true rfl⟩) rfl rfl (Nat.le_of_ble_eq_true rfl) d_Sh_pick_49 ⟨Nat.le_of_ble_eq_true rfl, Nat.le_of_ble_eq_true rfl⟩ ?_ ?_
          rotate_left
          · rintro E _ ⟨rfl, -, rfl⟩; exact zx_out ⟨Or.inr ⟨rfl, r, hr, rfl, a, ha, rfl, fun ⟨k, v, h1, e, h2, e2⟩ => by subst e; subst e2; exact absurd h41 (nI_ge (b := 16) h2 (by decide))⟩, hw, zk.rf _⟩ (Nat.le_of_ble_eq_true rfl) (Nat.le_of_ble_eq_true rfl)
          rintro _ _ ⟨-, h0, -⟩
          exact absurd rfl h0
        · refine zb_iconst (v := 1) d_Sh_pick_44 rfl ?_
          refine zb_goto (tgt := 49) d_Sh_pick_45 rfl ?_
          refine zx_callS (rest := []) (c_refuseUnless l G hl) (lk_Sh_28.cw rfl rfl ⟨Nat.le_of_ble_eq_true rfl, Nat.le_of_ble_eq_true rfl⟩) rfl rfl (Nat.le_of_ble_eq_true rfl) d_Sh_pick_49 ⟨Nat.le_of_ble_eq_true rfl, Nat.le_of_ble_eq_true rfl⟩ ?_ ?_
          rotate_left
          · rintro E _ ⟨-, h0, -⟩; exact absurd h0 (by decide)
          rintro _ _ ⟨rfl, -, rfl⟩
          refine zb_st (st' := []) rfl ?_
          obtain ⟨k, hk31, rfl⟩ := nI_of h12
          obtain ⟨v, hv31, rfl⟩ := nI_of h34
          have hk : k < w a := (nI_ltI hk31 (by omega)).mp (Int32.not_le.mp h21)
          have hv : v < 16 := (nI_ltI (b := 16) hv31 (by decide)).mp (Int32.not_le.mp h41)
          refine zb_lv (lv' := [(5, .ref (zad G (zN (σ.1 1 a)))), (0, .ref (zad G 0)), (1, .int (nI r)), (2, .int (nI a)), (3, .int (nI k)), (4, .int (nI v))]) (rfl) ?_
          refine zb_aload_n d_Sh_pick_52 rfl rfl ?_
          refine zs_spare d_Sh_pick_53 fl_Sh_16 ?_
          refine zb_aload d_Sh_pick_56 rfl ?_
          refine zr_width (q := zN (σ.1 1 a)) d_Sh_pick_58 fl_Sh_40 (hw.rl ha) ?_
          refine zb_top (y := nI (w a)) ((hw.at ha).1) ?_
          refine zb_callV (rest := []) (c_startAnew l G hw.sp) (lk_Sh_36.cw rfl rfl ⟨Nat.le_of_ble_eq_true rfl, Nat.le_of_ble_eq_true rfl⟩) (zgR hw.sp) rfl rfl rfl rfl (Nat.le_of_ble_eq_true rfl) d_Sh_pick_61 ⟨Nat.le_of_ble_eq_true rfl, Nat.le_of_ble_eq_true rfl⟩ ?_
          rintro _ _ ⟨rfl, rfl⟩
          refine zb_st (st' := []) rfl ?_
          refine zb_iconst (v := 0) d_Sh_pick_64 rfl ?_
          refine zb_istore (lv' := [(6, .int 0), (5, .ref (zad G (zN (σ.1 1 a)))), (0, .ref (zad G 0)), (1, .int (nI r)), (2, .int (nI a)), (3, .int (nI k)), (4, .int (nI v))]) d_Sh_pick_65 (by decide) rfl ?_
          obtain ⟨n, hn⟩ := (hw.at ha).2.2.2.1
          have ap := (hw.rl ha).apart hw.sp (hw.1.2 a ha).2
          have hsn := hw.sp.1
          have hzq : zr (zst σ (zN (σ.1 0 0)) (nI (w a))) (zN (σ.1 1 a)) n (M a) := hn.same (zst_n σ _ ap.1) (zst_n σ _ ap.2.2.2.1) (zst_n σ _ ap.2.2.2.2.2.2.1)
          refine zb_sub [0, 2, 3, 4, 5, 6, 1] rfl ?_
          refine lp_pick l G (s := zN (σ.1 0 0)) (q := zN (σ.1 1 a)) hw.sp (hw.1.2 a ha).2 (by rw [zst_n σ _ (by omega)]; exact hw.sp.nI) hzq (u := w a) (show k < 3 by omega) hv (fun τ ns hf hz => ?_) n 0 _ 0 (by omega) (zf.rf _ _) (zr_start hw.sp) (Nat.le_refl _)
          have t0 : τ.1 0 = σ.1 0 := (hf.1 0 (by omega) (by omega) (by omega)).trans (zst_n σ _ (by omega))
          have t1 : τ.1 1 = σ.1 1 := (hf.1 1 (by omega) (by omega) (by omega)).trans (zst_n σ _ (by omega))
          refine zb_aload_n d_Sh_pick_124 rfl rfl ?_
          refine zb_iload_n d_Sh_pick_125 rfl rfl ?_
          refine zb_callV (rest := []) (c_keepSpareAs l G hr (by rw [t0]; exact hw.sp) (by rw [t1]; exact hw.rl hr)) (lk_Sh_70.cw rfl rfl ⟨Nat.le_of_ble_eq_true rfl, Nat.le_of_ble_eq_true rfl⟩) zgS rfl rfl rfl rfl (Nat.le_of_ble_eq_true rfl) d_Sh_pick_126 ⟨Nat.le_of_ble_eq_true rfl, Nat.le_of_ble_eq_true rfl⟩ ?_
          rintro _ _ ⟨rfl, k1, k2, k3, k4⟩
          rename_i σ9
          refine zb_st (st' := [.int (τ.1 (zN (τ.1 0 0)) 1)]) rfl ?_
          exact zx_ret (zb_iret d_Sh_pick_129 rfl ⟨r, a, k, v, hr, rfl, ha, rfl, hk, rfl, hv, rfl, by rw [fm_eq _ _ hzq.2.2]; exact zfin hw ((zst_k σ _ hw.sp).tr (zf.k hw.sp hf)) (fun k h1 h2 h3 h4 => (hf.1 k h1 h2 h3).trans (zst_n σ _ h1)) hr (hf.2.2.trans (zst_0 σ _ _)) (hw.at ha).2.1 (hw.at ha).2.2.1 hz (fun t h => by obtain ⟨j, hj, e⟩ := fcP_sup _ _ _ t h; rw [← e]; exact (hw.at ha).2.2.2.2 _ (by rw [(hzq.2.2.2.2.2.1 j hj).2]; exact (hzq.2.2.2.2.2.1 j hj).1)) ⟨rfl, k1, k2, k3, k4⟩⟩)
