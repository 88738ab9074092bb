theorem wn8 {x q : Nat} (hx : x < 16) (hq : q ≤ 2) : nI x <<< (nI (8 - 4 * q) &&& 31) = nI (wn x q) := by
  have e : 12 - 4 * (q + 1) = 8 - 4 * q := by omega
  have h := wn_lt q hx
  unfold wn at h ⊢
  rw [e] at h ⊢
  exact sh_lN (by omega) (by omega)
def mT (u : Nat) (m : Nat → Int32) : Nat → Nat → Int32
  | 0 => fun _ => 0
  | i + 1 => if i % 2 ^ (12 - 4 * u) = 0 then upd (mT u m i) (tur i u u) (m i) else mT u m i
def mN (k : Nat) (m : Nat → Int32) : Nat → Nat → Int32
  | 0 => fun _ => 0
  | i + 1 => upd (mN k m i) (nar i k 3).1 (mN k m i (nar i k 3).1 + m i)
theorem nar_w {t k u : Nat} (hu : u ≤ 3) (hk : k < 2 ^ u) : nar t k 3 = nar t k u := by
  have z : ∀ p, u ≤ p → nar t k (p + 1) = nar t k p := fun p hp => by
    simp only [nar]
    rw [if_neg]
    rw [Nat.div_eq_of_lt (Nat.lt_of_lt_of_le hk (Nat.pow_le_pow_right (by decide) hp))]
    decide
  rcases (show u = 0 ∨ u = 1 ∨ u = 2 ∨ u = 3 by omega) with rfl | rfl | rfl | rfl
  · rw [z 2 (by decide), z 1 (by decide), z 0 (by decide)]
  · rw [z 2 (by decide), z 1 (by decide)]
  · rw [z 2 (by decide)]
  · rfl
theorem nar_y {t k p : Nat} (h : ¬ nI (k / 2 ^ p % 2) = 0) : nar t k (p + 1) = ((nar t k p).1 ||| wn (nu t p) (nar t k p).2, (nar t k p).2 + 1) := by
  have hb : k / 2 ^ p % 2 = 1 := by
    rcases Nat.mod_two_eq_zero_or_one (k / 2 ^ p) with z | z
    · exact absurd (by rw [z]; rfl) h
    · exact z
  simp only [nar, hb, if_true]
theorem nar_z {t k p : Nat} (h : nI (k / 2 ^ p % 2) = 0) : nar t k (p + 1) = nar t k p := by
  have hb : ¬ k / 2 ^ p % 2 = 1 := fun z => by rw [z] at h; exact absurd h (by decide)
  simp only [nar, hb, if_false]
def jxp (t : Nat) : Nat → Nat
  | 0 => 0
  | p + 1 => jxp t p ||| wn (nu t p) p
def jyp (t c : Nat) : Nat → Nat
  | 0 => 0
  | p + 1 => jyp t c p ||| wn (nu t (c + p)) p
def chk (f : Nat → Bool) : Nat → Bool
  | 0 => true
  | n + 1 => f n && chk f n
theorem chk_at {f : Nat → Bool} : ∀ {n : Nat}, chk f n = true → ∀ t, t < n → f t = true := by
  intro n
  induction n with
  | zero => intro _ t ht; exact absurd ht (Nat.not_lt_zero t)
  | succ n ih =>
    intro h t ht
    have h2 := Bool.and_eq_true_iff.mp h
    rcases Nat.lt_or_eq_of_le (Nat.le_of_lt_succ ht) with z | z
    · exact ih h2.2 t z
    · rw [z]; exact h2.1
theorem jxp_lt (t p : Nat) : jxp t p < 4096 := by
  induction p with
  | zero => exact (by decide : 0 < 4096)
  | succ p ih => exact Nat.or_lt_two_pow (n := 12) ih (wn_lt _ (nu_lt t p))
theorem jyp_lt (t c p : Nat) : jyp t c p < 4096 := by
  induction p with
  | zero => exact (by decide : 0 < 4096)
  | succ p ih => exact Nat.or_lt_two_pow (n := 12) ih (wn_lt _ (nu_lt t (c + p)))
set_option maxRecDepth 100000 in
theorem jxp_1 : chk (fun t => Nat.beq (jxp t 1) (jx 1 t)) 4096 = true := by decide +kernel
set_option maxRecDepth 100000 in
theorem jxp_2 : chk (fun t => Nat.beq (jxp t 2) (jx 2 t)) 4096 = true := by decide +kernel
set_option maxRecDepth 100000 in
theorem jxp_3 : chk (fun t => Nat.beq (jxp t 3) (jx 3 t)) 4096 = true := by decide +kernel
theorem jxp_e {t u : Nat} (ht : t < 4096) (h1 : 1 ≤ u) (h3 : u ≤ 3) : jxp t u = jx u t := by
  rcases (show u = 1 ∨ u = 2 ∨ u = 3 by omega) with rfl | rfl | rfl
  · exact Nat.eq_of_beq_eq_true (chk_at jxp_1 t ht)
  · exact Nat.eq_of_beq_eq_true (chk_at jxp_2 t ht)
  · exact Nat.eq_of_beq_eq_true (chk_at jxp_3 t ht)
set_option maxRecDepth 100000 in
theorem jyp_01 : chk (fun t => bif Nat.beq (t % 256) 0 then Nat.beq (jyp t 0 1) (t * 1 % 4096) else true) 4096 = true := by decide +kernel
set_option maxRecDepth 100000 in
theorem jyp_02 : chk (fun t => bif Nat.beq (t % 16) 0 then Nat.beq (jyp t 0 2) (t * 1 % 4096) else true) 4096 = true := by decide +kernel
set_option maxRecDepth 100000 in
theorem jyp_03 : chk (fun t => bif Nat.beq (t % 1) 0 then Nat.beq (jyp t 0 3) (t * 1 % 4096) else true) 4096 = true := by decide +kernel
set_option maxRecDepth 100000 in
theorem jyp_11 : chk (fun t => bif Nat.beq (t % 16) 0 then Nat.beq (jyp t 1 1) (t * 16 % 4096) else true) 4096 = true := by decide +kernel
set_option maxRecDepth 100000 in
theorem jyp_12 : chk (fun t => bif Nat.beq (t % 1) 0 then Nat.beq (jyp t 1 2) (t * 16 % 4096) else true) 4096 = true := by decide +kernel
set_option maxRecDepth 100000 in
theorem jyp_21 : chk (fun t => bif Nat.beq (t % 1) 0 then Nat.beq (jyp t 2 1) (t * 256 % 4096) else true) 4096 = true := by decide +kernel
theorem jyp_e {t u v k : Nat} (h : jok u v k) (ht : t < 4096) (hd : t % 2 ^ (12 - 4 * (u + v - k)) = 0) : jyp t (u - k) v = jy u k t := by
  unfold jok at h
  unfold jy
  have hc : u - k + v = u + v - k := by omega
  rw [← hc] at hd
  have hcv : u - k + v ≤ 3 := by omega
  have hv : 1 ≤ v := h.2.2.1
  generalize u - k = c at hd hcv ⊢
  have key : ∀ P Q : Nat, (bif Nat.beq (t % P) 0 then Nat.beq (jyp t c v) Q else true) = true → t % P = 0 → jyp t c v = Q := fun P Q a b => by
    rw [b] at a
    exact Nat.eq_of_beq_eq_true a
  rcases (show (c = 0 ∧ v = 1) ∨ (c = 0 ∧ v = 2) ∨ (c = 0 ∧ v = 3) ∨ (c = 1 ∧ v = 1) ∨ (c = 1 ∧ v = 2) ∨ (c = 2 ∧ v = 1) by omega) with ⟨rfl, rfl⟩ | ⟨rfl, rfl⟩ | ⟨rfl, rfl⟩ | ⟨rfl, rfl⟩ | ⟨rfl, rfl⟩ | ⟨rfl, rfl⟩
  · exact key _ _ (chk_at jyp_01 t ht) hd
  · exact key _ _ (chk_at jyp_02 t ht) hd
  · exact key _ _ (chk_at jyp_03 t ht) hd
  · exact key _ _ (chk_at jyp_11 t ht) hd
  · exact key _ _ (chk_at jyp_12 t ht) hd
  · exact key _ _ (chk_at jyp_21 t ht) hd
set_option maxHeartbeats 4000000 in
set_option maxRecDepth 100000 in
theorem c_mturn_ns (l : Launch) (G : zG) {σ : zS} {x y : Int32} (h : ¬ (zgr x ∧ zgr y)) : zC l G y_Mo_turn w_Mo_turn (zrm 2 60) 0 0 [.ref (zad G 30), .int x, .int y] σ (fun v σ' => v = some (.int 0) ∧ zt σ σ' 1) := by
  refine zC_of (cc := c_Mo_turn) (nL := 7) (ret := (some .int)) (own := R_Mo) (by decide +kernel) rfl rfl (Nat.le_of_ble_eq_true rfl) ?_
  refine zb_lv (lv' := [(0, .ref (zad G 30)), (1, .int x), (2, .int y)]) rfl ?_
  by_cases hx : zgr x
  · obtain ⟨r, hr, rfl⟩ := hx
    refine zb_aload_n d_Mo_turn_0 rfl rfl ?_
    refine zb_iload_n d_Mo_turn_1 rfl rfl ?_
    refine zb_callV (rest := []) (c_none_n l G hr) (lk_Mo_36.cw rfl rfl ⟨Nat.le_of_ble_eq_true rfl, Nat.le_of_ble_eq_true rfl⟩) zgM rfl rfl rfl rfl (Nat.le_of_ble_eq_true rfl) d_Mo_turn_2 ⟨Nat.le_of_ble_eq_true rfl, Nat.le_of_ble_eq_true rfl⟩ ?_
    rintro _ _ ⟨rfl, y1⟩
    rename_i σ1
    have z1 : zt σ σ1 0 := y1
    refine zb_st (st' := [.int 0]) rfl ?_
    refine zb_if_ne (tgt := 16) d_Mo_turn_5 rfl (fun h5 => absurd h5 (fun z => z rfl)) (fun h5 => ?_)
    by_cases hy : zgr y
    · exact absurd ⟨⟨r, hr, rfl⟩, hy⟩ h
    · refine zb_aload_n d_Mo_turn_8 rfl rfl ?_
      refine zb_iload_n d_Mo_turn_9 rfl rfl ?_
      refine zb_callV (rest := []) (c_none_y l G hy) (lk_Mo_36.cw rfl rfl ⟨Nat.le_of_ble_eq_true rfl, Nat.le_of_ble_eq_true rfl⟩) zgM rfl rfl rfl rfl (Nat.le_of_ble_eq_true rfl) d_Mo_turn_10 ⟨Nat.le_of_ble_eq_true rfl, Nat.le_of_ble_eq_true rfl⟩ ?_
      rintro _ _ ⟨rfl, y9⟩
      rename_i σ9
      refine zb_st (st' := [.int 1]) rfl ?_
      refine zb_if_eq (tgt := 18) d_Mo_turn_13 rfl (fun h13 => absurd h13 (by decide)) (fun h13 => ?_)
      refine zb_iconst (v := 0) d_Mo_turn_16 rfl ?_
      exact zb_iret d_Mo_turn_17 rfl ⟨rfl, z1.tr y9⟩
  · refine zb_aload_n d_Mo_turn_0 rfl rfl ?_
    refine zb_iload_n d_Mo_turn_1 rfl rfl ?_
    refine zb_callV (rest := []) (c_none_y l G hx) (lk_Mo_36.cw rfl rfl ⟨Nat.le_of_ble_eq_true rfl, Nat.le_of_ble_eq_true rfl⟩) zgM rfl rfl rfl rfl (Nat.le_of_ble_eq_true rfl) d_Mo_turn_2 ⟨Nat.le_of_ble_eq_true rfl, Nat.le_of_ble_eq_true rfl⟩ ?_
    rintro _ _ ⟨rfl, y9⟩
    rename_i σ9
    refine zb_st (st' := [.int 1]) rfl ?_
    refine zb_if_ne (tgt := 16) d_Mo_turn_5 rfl (fun h5 => ?_) (fun h5 => absurd h5 (by decide))
    refine zb_iconst (v := 0) d_Mo_turn_16 rfl ?_
    exact zb_iret d_Mo_turn_17 rfl ⟨rfl, y9⟩
set_option maxHeartbeats 4000000 in
set_option maxRecDepth 100000 in
theorem lp_mturn1 (l : Launch) (G : zG) {σ : zS} {r a t u : Nat} (ht : t < 4096) (hu : u ≤ 3) {Fin : List Frame → Array Value → State → State → Prop} (K : zB l G w_Mo_turn R_Mo c_Mo_turn 7 (some .int) [] (zrm 2 60) Fin 0 0 82 [(6, .int (nI u)), (5, .int (nI (tur t u u))), (4, .int (nI t)), (0, .ref (zad G 30)), (1, .int (nI r)), (2, .int (nI a)), (3, .int (nI u))] [] σ) : ∀ d p : Nat, p + d = u → zB l G w_Mo_turn R_Mo c_Mo_turn 7 (some .int) [] (zrm 2 60) Fin 0 0 46 [(6, .int (nI p)), (5, .int (nI (tur t u p))), (4, .int (nI t)), (0, .ref (zad G 30)), (1, .int (nI r)), (2, .int (nI a)), (3, .int (nI u))] [] σ := by
  intro d
  induction d with
  | zero =>
    intro p hi
    have e : p = u := by omega
    refine zb_iload d_Mo_turn_46 rfl ?_
    refine zb_iload_n d_Mo_turn_48 rfl rfl ?_
    refine zb_icmp_ge (tgt := 82) d_Mo_turn_49 rfl (fun h49 => ?_) (fun h49 => absurd (nI_le (a := u) (b := p) (by omega) (by omega)) h49)
    refine zb_sub [0, 1, 2, 3, 4, 5, 6] rfl ?_
    rw [e]
    exact K
  | succ d ih =>
    intro p hi
    have hlt : p < u := by omega
    refine zb_iload d_Mo_turn_46 rfl ?_
    refine zb_iload_n d_Mo_turn_48 rfl rfl ?_
    refine zb_icmp_ge (tgt := 82) d_Mo_turn_49 rfl (fun h49 => absurd h49 (nI_ge (a := p) (b := u) (by omega) (by omega))) (fun h49 => ?_)
    refine zb_iload d_Mo_turn_52 rfl ?_
    refine zb_iload d_Mo_turn_54 rfl ?_
    refine zb_iload d_Mo_turn_56 rfl ?_
    refine zb_callS (rest := [.int (nI (tur t u p))]) (c_number l G ht (show p < 3 by omega)) (lk_Mo_55.cw rfl rfl ⟨Nat.le_of_ble_eq_true rfl, Nat.le_of_ble_eq_true rfl⟩) rfl rfl (Nat.le_of_ble_eq_true rfl) d_Mo_turn_58 ⟨Nat.le_of_ble_eq_true rfl, Nat.le_of_ble_eq_true rfl⟩ ?_
    rintro _ _ ⟨rfl, rfl⟩
    refine zb_st (st' := [.int (nI (nu t p)), .int (nI (tur t u p))]) rfl ?_
    refine zb_bipush (v := 8) d_Mo_turn_61 rfl ?_
    refine zb_iconst (v := 4) d_Mo_turn_63 rfl ?_
    refine zb_iload_n d_Mo_turn_64 rfl rfl ?_
    refine zb_iconst (v := 1) d_Mo_turn_65 rfl ?_
    refine zb_isub d_Mo_turn_66 ?_
    refine zb_top (y := nI (u - 1)) (pk_sub (b := 1) (by omega)) ?_
    refine zb_iload d_Mo_turn_67 rfl ?_
    refine zb_isub d_Mo_turn_69 ?_
    refine zb_top (y := nI (u - 1 - p)) (pk_sub (by omega)) ?_
    refine zb_imul d_Mo_turn_70 ?_
    refine zb_top (y := nI (4 * (u - 1 - p))) (pk_mul 4 _) ?_
    refine zb_isub d_Mo_turn_71 ?_
    refine zb_top (y := nI (8 - 4 * (u - 1 - p))) (pk_sub (a := 8) (by omega)) ?_
    refine zb_ishl d_Mo_turn_72 ?_
    refine zb_top (y := nI (wn (nu t p) (u - 1 - p))) (wn8 (nu_lt t p) (by omega)) ?_
    refine zb_ior d_Mo_turn_73 ?_
    refine zb_top (y := nI (tur t u (p + 1))) (nI_or _ _) ?_
    refine zb_istore (lv' := [(5, .int (nI (tur t u (p + 1)))), (6, .int (nI p)), (4, .int (nI t)), (0, .ref (zad G 30)), (1, .int (nI r)), (2, .int (nI a)), (3, .int (nI u))]) d_Mo_turn_74 (by decide) rfl ?_
    refine zb_iinc (v := nI (p + 1)) (lv' := [(6, .int (nI (p + 1))), (5, .int (nI (tur t u (p + 1)))), (4, .int (nI t)), (0, .ref (zad G 30)), (1, .int (nI r)), (2, .int (nI a)), (3, .int (nI u))]) d_Mo_turn_76 rfl (nI_1 p) (by decide) rfl ?_
    refine zb_goto (tgt := 46) d_Mo_turn_79 rfl ?_
    refine zb_sub [0, 1, 2, 3, 4, 5, 6] rfl ?_
    exact ih (p + 1) (by omega)
set_option maxHeartbeats 4000000 in
set_option maxRecDepth 100000 in
theorem lp_mturn (l : Launch) (G : zG) {σ : zS} {r a u : Nat} {M : Nat → Nat → Int32} {w : Nat → Nat} (hm : zmw σ M w) (ha : a < 8) (hu1 : 1 ≤ u) (hu : u ≤ 3) {Fin : List Frame → Array Value → State → State → Prop} (K : ∀ τ : zS, zo σ τ (mT u (M a) 4096) → zB l G w_Mo_turn R_Mo c_Mo_turn 7 (some .int) [] (zrm 2 60) Fin 0 0 111 [(4, .int (nI 4096)), (0, .ref (zad G 30)), (1, .int (nI r)), (2, .int (nI a)), (3, .int (nI u))] [] τ) : ∀ (d i : Nat) (τ : zS), i + d = 4096 → zo σ τ (mT u (M a) i) → zB l G w_Mo_turn R_Mo c_Mo_turn 7 (some .int) [] (zrm 2 60) Fin 0 0 32 [(4, .int (nI i)), (0, .ref (zad G 30)), (1, .int (nI r)), (2, .int (nI a)), (3, .int (nI u))] [] τ := by
  intro d
  induction d with
  | zero =>
    intro i τ hi hz
    have e : i = 4096 := by omega
    refine zb_iload d_Mo_turn_32 rfl ?_
    refine zb_sipush (v := 4096) d_Mo_turn_34 rfl ?_
    refine zb_icmp_ge (tgt := 111) d_Mo_turn_37 rfl (fun h37 => ?_) (fun h37 => absurd (nI_le (a := 4096) (b := i) (by omega) (by omega)) h37)
    refine zb_sub [0, 1, 2, 3, 4] rfl ?_
    rw [e] at hz ⊢
    exact K τ hz
  | succ d ih =>
    intro i τ hi hz
    have hlt : i < 4096 := by omega
    refine zb_iload d_Mo_turn_32 rfl ?_
    refine zb_sipush (v := 4096) d_Mo_turn_34 rfl ?_
    refine zb_icmp_ge (tgt := 111) d_Mo_turn_37 rfl (fun h37 => absurd h37 (nI_ge (a := i) (b := 4096) (by omega) (by omega))) (fun h37 => ?_)
    refine zb_iconst (v := 0) d_Mo_turn_40 rfl ?_
    refine zb_istore (lv' := [(5, .int 0), (4, .int (nI i)), (0, .ref (zad G 30)), (1, .int (nI r)), (2, .int (nI a)), (3, .int (nI u))]) d_Mo_turn_41 (by decide) rfl ?_
    refine zb_iconst (v := 0) d_Mo_turn_43 rfl ?_
    refine zb_istore (lv' := [(6, .int 0), (5, .int 0), (4, .int (nI i)), (0, .ref (zad G 30)), (1, .int (nI r)), (2, .int (nI a)), (3, .int (nI u))]) d_Mo_turn_44 (by decide) rfl ?_
    refine zb_lv (lv' := [(6, .int (nI 0)), (5, .int (nI (tur i u 0))), (4, .int (nI i)), (0, .ref (zad G 30)), (1, .int (nI r)), (2, .int (nI a)), (3, .int (nI u))]) rfl ?_
    refine zb_sub [0, 1, 2, 3, 4, 5, 6] rfl ?_
    refine lp_mturn1 l G hlt hu ?_ (u) 0 (by omega)
    refine zb_iload d_Mo_turn_82 rfl ?_
    refine zb_iload_n d_Mo_turn_84 rfl rfl ?_
    by_cases hd : i % 2 ^ (12 - 4 * u) = 0
    · refine zb_callS (rest := []) (c_mT_y l G hu1 hu hlt hd) (lk_Mo_44.cw rfl rfl ⟨Nat.le_of_ble_eq_true rfl, Nat.le_of_ble_eq_true rfl⟩) rfl rfl (Nat.le_of_ble_eq_true rfl) d_Mo_turn_85 ⟨Nat.le_of_ble_eq_true rfl, Nat.le_of_ble_eq_true rfl⟩ ?_
      rintro _ _ ⟨rfl, rfl⟩
      refine zb_st (st' := [.int 1]) rfl ?_
      refine zb_if_eq (tgt := 105) d_Mo_turn_88 rfl (fun h88 => absurd h88 (by decide)) (fun h88 => ?_)
      refine zb_aload_n d_Mo_turn_91 rfl rfl ?_
      refine zm_made d_Mo_turn_92 fl_Mo_21 ?_
      refine zb_iload d_Mo_turn_95 rfl ?_
      refine zb_aload_n d_Mo_turn_97 rfl rfl ?_
      refine zb_iload_n d_Mo_turn_98 rfl rfl ?_
      refine zb_iload d_Mo_turn_99 rfl ?_
      refine zb_callV (rest := [.int (nI (tur i u u)), .ref (zad G 33)]) (c_of l G (hz.mw hm) ha hlt) (lk_Mo_48.cw rfl rfl ⟨Nat.le_of_ble_eq_true rfl, Nat.le_of_ble_eq_true rfl⟩) zgM rfl rfl rfl rfl (Nat.le_of_ble_eq_true rfl) d_Mo_turn_101 ⟨Nat.le_of_ble_eq_true rfl, Nat.le_of_ble_eq_true rfl⟩ ?_
      rintro _ _ ⟨rfl, rfl⟩
      refine zb_st (st' := [.int (M a i), .int (nI (tur i u u)), .ref (zad G 33)]) rfl ?_
      refine zb_iastN (q := 33) (j := (tur i u u)) d_Mo_turn_104 (ia33) (show tur i u u < 4096 from tur_lt u i u) ?_
      refine zb_iinc (v := nI (i + 1)) (lv' := [(4, .int (nI (i + 1))), (6, .int (nI u)), (5, .int (nI (tur i u u))), (0, .ref (zad G 30)), (1, .int (nI r)), (2, .int (nI a)), (3, .int (nI u))]) d_Mo_turn_105 rfl (nI_1 i) (by decide) rfl ?_
      refine zb_goto (tgt := 32) d_Mo_turn_108 rfl ?_
      refine zb_sub [0, 3, 4, 5, 6] rfl ?_
      exact ih (i + 1) _ (by omega) (by rw [show mT u (M a) (i + 1) = upd (mT u (M a) i) (tur i u u) (M a i) from if_pos hd]; exact zo_s hz _ _)
    · refine zb_callS (rest := []) (c_mT_d l G hu1 hu hlt hd) (lk_Mo_44.cw rfl rfl ⟨Nat.le_of_ble_eq_true rfl, Nat.le_of_ble_eq_true rfl⟩) rfl rfl (Nat.le_of_ble_eq_true rfl) d_Mo_turn_85 ⟨Nat.le_of_ble_eq_true rfl, Nat.le_of_ble_eq_true rfl⟩ ?_
      rintro _ _ ⟨rfl, rfl⟩
      refine zb_st (st' := [.int 0]) rfl ?_
      refine zb_if_eq (tgt := 105) d_Mo_turn_88 rfl (fun h88 => ?_) (fun h88 => absurd rfl h88)
      refine zb_iinc (v := nI (i + 1)) (lv' := [(4, .int (nI (i + 1))), (6, .int (nI u)), (5, .int (nI (tur i u u))), (0, .ref (zad G 30)), (1, .int (nI r)), (2, .int (nI a)), (3, .int (nI u))]) d_Mo_turn_105 rfl (nI_1 i) (by decide) rfl ?_
      refine zb_goto (tgt := 32) d_Mo_turn_108 rfl ?_
      refine zb_sub [0, 3, 4, 5, 6] rfl ?_
      exact ih (i + 1) _ (by omega) (by rw [show mT u (M a) (i + 1) = mT u (M a) i from if_neg hd]; exact hz)
set_option maxHeartbeats 4000000 in
set_option maxRecDepth 100000 in
theorem c_mturn (l : Launch) (G : zG) {σ : zS} {r a : Nat} {M : Nat → Nat → Int32} {w : Nat → Nat} (hm : zmw σ M w) (hr : r < 8) (ha : a < 8) (h1 : 1 ≤ w a) (h3 : w a ≤ 3) (hn : zct (mT (w a) (M a) 4096) 4096 ≤ 300) : zC l G y_Mo_turn w_Mo_turn (zrm 2 60) 0 0 [.ref (zad G 30), .int (nI r), .int (nI a)] σ (fun o9 σ' => o9 = some (.int (nI (zct (mT (w a) (M a) 4096) 4096))) ∧ σ'.1 30 0 = 0 ∧ zmw σ' (uM M r (mT (w a) (M a) 4096)) (uM w r (w a)) ∧ zj σ σ') := by
  refine zC_of (cc := c_Mo_turn) (nL := 7) (ret := (some .int)) (own := R_Mo) (by decide +kernel) rfl rfl (Nat.le_of_ble_eq_true rfl) ?_
  refine zb_lv (lv' := [(0, .ref (zad G 30)), (1, .int (nI r)), (2, .int (nI a))]) rfl ?_
  refine zb_aload_n d_Mo_turn_0 rfl rfl ?_
  refine zb_iload_n d_Mo_turn_1 rfl rfl ?_
  refine zb_callV (rest := []) (c_none_n l G hr) (lk_Mo_36.cw rfl rfl ⟨Nat.le_of_ble_eq_true rfl, Nat.le_of_ble_eq_true rfl⟩) zgM rfl rfl rfl rfl (Nat.le_of_ble_eq_true rfl) d_Mo_turn_2 ⟨Nat.le_of_ble_eq_true rfl, Nat.le_of_ble_eq_true rfl⟩ ?_
  rintro _ _ ⟨rfl, y1⟩
  rename_i σ1
  have z1 : zt σ σ1 0 := y1
  refine zb_st (st' := [.int 0]) rfl ?_
  refine zb_if_ne (tgt := 16) d_Mo_turn_5 rfl (fun h5 => absurd h5 (fun z => z rfl)) (fun h5 => ?_)
  refine zb_aload_n d_Mo_turn_8 rfl rfl ?_
  refine zb_iload_n d_Mo_turn_9 rfl rfl ?_
  refine zb_callV (rest := []) (c_none_n l G ha) (lk_Mo_36.cw rfl rfl ⟨Nat.le_of_ble_eq_true rfl, Nat.le_of_ble_eq_true rfl⟩) zgM rfl rfl rfl rfl (Nat.le_of_ble_eq_true rfl) d_Mo_turn_10 ⟨Nat.le_of_ble_eq_true rfl, Nat.le_of_ble_eq_true rfl⟩ ?_
  rintro _ _ ⟨rfl, y2⟩
  rename_i σ2
  have z2 : zt σ σ2 0 := z1.tr y2
  refine zb_st (st' := [.int 0]) rfl ?_
  refine zb_if_eq (tgt := 18) d_Mo_turn_13 rfl (fun h13 => ?_) (fun h13 => absurd rfl h13)
  refine zb_aload_n d_Mo_turn_18 rfl rfl ?_
  refine zb_callV (rest := []) (c_begin l G) (lk_Mo_52.cw rfl rfl ⟨Nat.le_of_ble_eq_true rfl, Nat.le_of_ble_eq_true rfl⟩) zgM rfl rfl rfl rfl (Nat.le_of_ble_eq_true rfl) d_Mo_turn_19 ⟨Nat.le_of_ble_eq_true rfl, Nat.le_of_ble_eq_true rfl⟩ ?_
  rintro _ _ ⟨rfl, hb0⟩
  rename_i σb
  have hmk := z2.mw hm
  refine zb_st (st' := []) rfl ?_
  refine zb_aload_n d_Mo_turn_22 rfl rfl ?_
  refine zm_width d_Mo_turn_23 fl_Mo_13 ?_
  refine zb_iload_n d_Mo_turn_26 rfl rfl ?_
  refine zb_ialdN (q := 31) (j := a) d_Mo_turn_27 (ia31) (show a < 8 from ha) ?_
  refine zb_top (y := nI (w a)) ((hb0.mw hmk).1 a ha) ?_
  refine zb_istore_n (lv' := [(3, .int (nI (w a))), (0, .ref (zad G 30)), (1, .int (nI r)), (2, .int (nI a))]) d_Mo_turn_28 rfl (by decide) rfl ?_
  refine zb_iconst (v := 0) d_Mo_turn_29 rfl ?_
  refine zb_istore (lv' := [(4, .int 0), (3, .int (nI (w a))), (0, .ref (zad G 30)), (1, .int (nI r)), (2, .int (nI a))]) d_Mo_turn_30 (by decide) rfl ?_
  refine zb_lv (lv' := [(4, .int (nI 0)), (3, .int (nI (w a))), (0, .ref (zad G 30)), (1, .int (nI r)), (2, .int (nI a))]) rfl ?_
  refine zb_sub [0, 2, 3, 4, 1] rfl ?_
  refine lp_mturn l G (u := w a) hmk ha h1 h3 (fun τ hz => ?_) 4096 0 _ rfl (hb0)
  refine zb_aload_n d_Mo_turn_111 rfl rfl ?_
  refine zb_iload_n d_Mo_turn_112 rfl rfl ?_
  refine zb_iload_n d_Mo_turn_113 rfl rfl ?_
  refine zb_iconst (v := 3) d_Mo_turn_114 rfl ?_
  refine zb_callV (rest := []) (c_keep_y l G (D := (mT (w a) (M a) 4096)) (u := w a) (hz.mw hmk) hr hz.1 hn) (lk_Mo_58.cw rfl rfl ⟨Nat.le_of_ble_eq_true rfl, Nat.le_of_ble_eq_true rfl⟩) zgM rfl rfl rfl rfl (Nat.le_of_ble_eq_true rfl) d_Mo_turn_115 ⟨Nat.le_of_ble_eq_true rfl, Nat.le_of_ble_eq_true rfl⟩ ?_
  rintro _ _ ⟨rfl, k1, k2, k3⟩
  rename_i σ9
  refine zb_st (st' := [.int (nI (zct (mT (w a) (M a) 4096) 4096))]) rfl ?_
  exact zb_iret d_Mo_turn_118 rfl ⟨rfl, (fin_y z2 hz ⟨k2, k3⟩).1, k1, (fin_y z2 hz ⟨k2, k3⟩).2⟩
set_option maxHeartbeats 4000000 in
set_option maxRecDepth 100000 in
theorem c_mnarrow_ns (l : Launch) (G : zG) {σ : zS} {x y z : Int32} (h : ¬ (zgr x ∧ zgr y)) : zC l G y_Mo_narrow w_Mo_narrow (zrm 2 60) 0 0 [.ref (zad G 30), .int x, .int y, .int z] σ (fun v σ' => v = some (.int 0) ∧ zt σ σ' 1) := by
  refine zC_of (cc := c_Mo_narrow) (nL := 8) (ret := (some .int)) (own := R_Mo) (by decide +kernel) rfl rfl (Nat.le_of_ble_eq_true rfl) ?_
  refine zb_lv (lv' := [(0, .ref (zad G 30)), (1, .int x), (2, .int y), (3, .int z)]) rfl ?_
  by_cases hx : zgr x
  · obtain ⟨r, hr, rfl⟩ := hx
    refine zb_aload_n d_Mo_narrow_0 rfl rfl ?_
    refine zb_iload_n d_Mo_narrow_1 rfl rfl ?_
    refine zb_callV (rest := []) (c_none_n l G hr) (lk_Mo_36.cw rfl rfl ⟨Nat.le_of_ble_eq_true rfl, Nat.le_of_ble_eq_true rfl⟩) zgM rfl rfl rfl rfl (Nat.le_of_ble_eq_true rfl) d_Mo_narrow_2 ⟨Nat.le_of_ble_eq_true rfl, Nat.le_of_ble_eq_true rfl⟩ ?_
    rintro _ _ ⟨rfl, y1⟩
    rename_i σ1
    have z1 : zt σ σ1 0 := y1
    refine zb_st (st' := [.int 0]) rfl ?_
    refine zb_if_ne (tgt := 46) d_Mo_narrow_5 rfl (fun h5 => absurd h5 (fun z => z rfl)) (fun h5 => ?_)
    by_cases hy : zgr y
    · exact absurd ⟨⟨r, hr, rfl⟩, hy⟩ h
    · refine zb_aload_n d_Mo_narrow_8 rfl rfl ?_
      refine zb_iload_n d_Mo_narrow_9 rfl rfl ?_
      refine zb_callV (rest := []) (c_none_y l G hy) (lk_Mo_36.cw rfl rfl ⟨Nat.le_of_ble_eq_true rfl, Nat.le_of_ble_eq_true rfl⟩) zgM rfl rfl rfl rfl (Nat.le_of_ble_eq_true rfl) d_Mo_narrow_10 ⟨Nat.le_of_ble_eq_true rfl, Nat.le_of_ble_eq_true rfl⟩ ?_
      rintro _ _ ⟨rfl, y9⟩
      rename_i σ9
      refine zb_st (st' := [.int 1]) rfl ?_
      refine zb_if_ne (tgt := 46) d_Mo_narrow_13 rfl (fun h13 => ?_) (fun h13 => absurd h13 (by decide))
      refine zb_iconst (v := 0) d_Mo_narrow_46 rfl ?_
      exact zb_iret d_Mo_narrow_47 rfl ⟨rfl, z1.tr y9⟩
  · refine zb_aload_n d_Mo_narrow_0 rfl rfl ?_
    refine zb_iload_n d_Mo_narrow_1 rfl rfl ?_
    refine zb_callV (rest := []) (c_none_y l G hx) (lk_Mo_36.cw rfl rfl ⟨Nat.le_of_ble_eq_true rfl, Nat.le_of_ble_eq_true rfl⟩) zgM rfl rfl rfl rfl (Nat.le_of_ble_eq_true rfl) d_Mo_narrow_2 ⟨Nat.le_of_ble_eq_true rfl, Nat.le_of_ble_eq_true rfl⟩ ?_
    rintro _ _ ⟨rfl, y9⟩
    rename_i σ9
    refine zb_st (st' := [.int 1]) rfl ?_
    refine zb_if_ne (tgt := 46) d_Mo_narrow_5 rfl (fun h5 => ?_) (fun h5 => absurd h5 (by decide))
    refine zb_iconst (v := 0) d_Mo_narrow_46 rfl ?_
    exact zb_iret d_Mo_narrow_47 rfl ⟨rfl, y9⟩
set_option maxHeartbeats 4000000 in
set_option maxRecDepth 100000 in
theorem c_mnarrow_ia (l : Launch) (G : zG) {σ : zS} {r a : Nat} {z : Int32} {M : Nat → Nat → Int32} {w : Nat → Nat} (hm : zmw σ M w) (hr : r < 8) (ha : a < 8) (h3 : w a ≤ 3) (h : ¬ ∃ k : Nat, 0 < k ∧ k < 2 ^ w a ∧ z = nI k) : zC l G y_Mo_narrow w_Mo_narrow (zrm 2 60) 0 0 [.ref (zad G 30), .int (nI r), .int (nI a), .int z] σ (fun v σ' => v = some (.int 0) ∧ zt σ σ' 2) := by
  refine zC_of (cc := c_Mo_narrow) (nL := 8) (ret := (some .int)) (own := R_Mo) (by decide +kernel) rfl rfl (Nat.le_of_ble_eq_true rfl) ?_
  refine zb_lv (lv' := [(0, .ref (zad G 30)), (1, .int (nI r)), (2, .int (nI a)), (3, .int z)]) rfl ?_
  refine zb_aload_n d_Mo_narrow_0 rfl rfl ?_
  refine zb_iload_n d_Mo_narrow_1 rfl rfl ?_
  refine zb_callV (rest := []) (c_none_n l G hr) (lk_Mo_36.cw rfl rfl ⟨Nat.le_of_ble_eq_true rfl, Nat.le_of_ble_eq_true rfl⟩) zgM rfl rfl rfl rfl (Nat.le_of_ble_eq_true rfl) d_Mo_narrow_2 ⟨Nat.le_of_ble_eq_true rfl, Nat.le_of_ble_eq_true rfl⟩ ?_
  rintro _ _ ⟨rfl, y1⟩
  rename_i σ1
  have z1 : zt σ σ1 0 := y1
  refine zb_st (st' := [.int 0]) rfl ?_
  refine zb_if_ne (tgt := 46) d_Mo_narrow_5 rfl (fun h5 => absurd h5 (fun z => z rfl)) (fun h5 => ?_)
  refine zb_aload_n d_Mo_narrow_8 rfl rfl ?_
  refine zb_iload_n d_Mo_narrow_9 rfl rfl ?_
  refine zb_callV (rest := []) (c_none_n l G ha) (lk_Mo_36.cw rfl rfl ⟨Nat.le_of_ble_eq_true rfl, Nat.le_of_ble_eq_true rfl⟩) zgM rfl rfl rfl rfl (Nat.le_of_ble_eq_true rfl) d_Mo_narrow_10 ⟨Nat.le_of_ble_eq_true rfl, Nat.le_of_ble_eq_true rfl⟩ ?_
  rintro _ _ ⟨rfl, y2⟩
  rename_i σ2
  have z2 : zt σ σ2 0 := z1.tr y2
  refine zb_st (st' := [.int 0]) rfl ?_
  refine zb_if_ne (tgt := 46) d_Mo_narrow_13 rfl (fun h13 => absurd h13 (fun z => z rfl)) (fun h13 => ?_)
  refine zb_aload_n d_Mo_narrow_16 rfl rfl ?_
  refine zb_iconst (v := 2) d_Mo_narrow_17 rfl ?_
  refine zb_iload_n d_Mo_narrow_18 rfl rfl ?_
  refine zb_iconst (v := 1) d_Mo_narrow_19 rfl ?_
  refine zb_icmp_lt (tgt := 35) d_Mo_narrow_20 rfl (fun h20 => ?_) (fun h20 => ?_)
  · refine zb_iconst (v := 1) d_Mo_narrow_35 rfl ?_
    refine zb_goto (tgt := 40) d_Mo_narrow_36 rfl ?_
    refine zb_callV (rest := []) (c_refuse_y l G) (lk_Mo_28.cw rfl rfl ⟨Nat.le_of_ble_eq_true rfl, Nat.le_of_ble_eq_true rfl⟩) zgM rfl rfl rfl rfl (Nat.le_of_ble_eq_true rfl) d_Mo_narrow_40 ⟨Nat.le_of_ble_eq_true rfl, Nat.le_of_ble_eq_true rfl⟩ ?_
    rintro _ _ ⟨rfl, y9⟩
    rename_i σ9
    refine zb_st (st' := [.int 1]) rfl ?_
    refine zb_if_eq (tgt := 48) d_Mo_narrow_43 rfl (fun h43 => absurd h43 (by decide)) (fun h43 => ?_)
    refine zb_iconst (v := 0) d_Mo_narrow_46 rfl ?_
    exact zb_iret d_Mo_narrow_47 rfl ⟨rfl, z2.tr y9⟩
  · refine zb_iload_n d_Mo_narrow_23 rfl rfl ?_
    refine zb_iconst (v := 1) d_Mo_narrow_24 rfl ?_
    refine zb_aload_n d_Mo_narrow_25 rfl rfl ?_
    refine zm_width d_Mo_narrow_26 fl_Mo_13 ?_
    refine zb_iload_n d_Mo_narrow_29 rfl rfl ?_
    refine zb_ialdN (q := 31) (j := a) d_Mo_narrow_30 (ia31) (show a < 8 from ha) ?_
    refine zb_top (y := nI (w a)) ((z2.mw hm).1 a ha) ?_
    refine zb_ishl d_Mo_narrow_31 ?_
    refine zb_top (y := nI (2 ^ w a)) (nI_bit8 _ h3) ?_
    refine zb_icmp_lt (tgt := 39) d_Mo_narrow_32 rfl (fun h32 => absurd h32 (fun q => by
      have h0 : ¬ z < 0 := fun y => h20 (i_tr y (by decide))
      obtain ⟨k, hk31, rfl⟩ := nI_of h0
      have h8 := pw8 _ h3
      exact h ⟨k, by have := (nI_leI (a := 1) (by decide) hk31).mp (Int32.not_lt.mp h20); omega, (nI_ltI hk31 (by omega)).mp q, rfl⟩)) (fun h32 => ?_)
    refine zb_iconst (v := 1) d_Mo_narrow_35 rfl ?_
    refine zb_goto (tgt := 40) d_Mo_narrow_36 rfl ?_
    refine zb_callV (rest := []) (c_refuse_y l G) (lk_Mo_28.cw rfl rfl ⟨Nat.le_of_ble_eq_true rfl, Nat.le_of_ble_eq_true rfl⟩) zgM rfl rfl rfl rfl (Nat.le_of_ble_eq_true rfl) d_Mo_narrow_40 ⟨Nat.le_of_ble_eq_true rfl, Nat.le_of_ble_eq_true rfl⟩ ?_
    rintro _ _ ⟨rfl, y9⟩
    rename_i σ9
    refine zb_st (st' := [.int 1]) rfl ?_
    refine zb_if_eq (tgt := 48) d_Mo_narrow_43 rfl (fun h43 => absurd h43 (by decide)) (fun h43 => ?_)
    refine zb_iconst (v := 0) d_Mo_narrow_46 rfl ?_
    exact zb_iret d_Mo_narrow_47 rfl ⟨rfl, z2.tr y9⟩
set_option maxHeartbeats 4000000 in
set_option maxRecDepth 100000 in
theorem lp_mnarrow1 (l : Launch) (G : zG) {σ : zS} {r a t k : Nat} {M : Nat → Nat → Int32} {w : Nat → Nat} (hm : zmw σ M w) (ha : a < 8) (ht : t < 4096) (hu : w a ≤ 3) (hk : k < 8) {Fin : List Frame → Array Value → State → State → Prop} (K : zB l G w_Mo_narrow R_Mo c_Mo_narrow 8 (some .int) [] (zrm 2 60) Fin 0 0 124 [(7, .int (nI (w a))), (6, .int (nI (nar t k (w a)).2)), (5, .int (nI (nar t k (w a)).1)), (4, .int (nI t)), (0, .ref (zad G 30)), (1, .int (nI r)), (2, .int (nI a)), (3, .int (nI k))] [] σ) : ∀ d p : Nat, p + d = w a → zB l G w_Mo_narrow R_Mo c_Mo_narrow 8 (some .int) [] (zrm 2 60) Fin 0 0 72 [(7, .int (nI p)), (6, .int (nI (nar t k p).2)), (5, .int (nI (nar t k p).1)), (4, .int (nI t)), (0, .ref (zad G 30)), (1, .int (nI r)), (2, .int (nI a)), (3, .int (nI k))] [] σ := by
  intro d
  induction d with
  | zero =>
    intro p hi
    have e : p = w a := by omega
    refine zb_iload d_Mo_narrow_72 rfl ?_
    refine zb_aload_n d_Mo_narrow_74 rfl rfl ?_
    refine zm_width d_Mo_narrow_75 fl_Mo_13 ?_
    refine zb_iload_n d_Mo_narrow_78 rfl rfl ?_
    refine zb_ialdN (q := 31) (j := a) d_Mo_narrow_79 (ia31) (show a < 8 from ha) ?_
    refine zb_top (y := nI (w a)) (hm.1 a ha) ?_
    refine zb_icmp_ge (tgt := 124) d_Mo_narrow_80 rfl (fun h80 => ?_) (fun h80 => absurd (nI_le (a := w a) (b := p) (by omega) (by omega)) h80)
    refine zb_sub [0, 1, 2, 3, 4, 5, 6, 7] rfl ?_
    rw [e]
    exact K
  | succ d ih =>
    intro p hi
    have hlt : p < w a := by omega
    refine zb_iload d_Mo_narrow_72 rfl ?_
    refine zb_aload_n d_Mo_narrow_74 rfl rfl ?_
    refine zm_width d_Mo_narrow_75 fl_Mo_13 ?_
    refine zb_iload_n d_Mo_narrow_78 rfl rfl ?_
    refine zb_ialdN (q := 31) (j := a) d_Mo_narrow_79 (ia31) (show a < 8 from ha) ?_
    refine zb_top (y := nI (w a)) (hm.1 a ha) ?_
    refine zb_icmp_ge (tgt := 124) d_Mo_narrow_80 rfl (fun h80 => absurd h80 (nI_ge (a := p) (b := w a) (by omega) (by omega))) (fun h80 => ?_)
    refine zb_iload_n d_Mo_narrow_83 rfl rfl ?_
    refine zb_iload d_Mo_narrow_84 rfl ?_
    refine zb_ishr d_Mo_narrow_86 ?_
    refine zb_top (y := nI (k / 2 ^ p)) (sh_r (by omega) (by omega)) ?_
    refine zb_iconst (v := 1) d_Mo_narrow_87 rfl ?_
    refine zb_iand d_Mo_narrow_88 ?_
    refine zb_top (y := nI (k / 2 ^ p % 2)) (pk_andN (Nat.lt_of_le_of_lt (Nat.div_le_self _ _) (by omega)) 1 rfl) ?_
    refine zb_if_ne (tgt := 95) d_Mo_narrow_89 rfl (fun h89 => ?_) (fun h89 => ?_)
    · refine zb_iload d_Mo_narrow_95 rfl ?_
      refine zb_iload d_Mo_narrow_97 rfl ?_
      refine zb_iload d_Mo_narrow_99 rfl ?_
      refine zb_callS (rest := [.int (nI (nar t k p).1)]) (c_number l G ht (show p < 3 by omega)) (lk_Mo_55.cw rfl rfl ⟨Nat.le_of_ble_eq_true rfl, Nat.le_of_ble_eq_true rfl⟩) rfl rfl (Nat.le_of_ble_eq_true rfl) d_Mo_narrow_101 ⟨Nat.le_of_ble_eq_true rfl, Nat.le_of_ble_eq_true rfl⟩ ?_
      rintro _ _ ⟨rfl, rfl⟩
      refine zb_st (st' := [.int (nI (nu t p)), .int (nI (nar t k p).1)]) rfl ?_
      refine zb_bipush (v := 8) d_Mo_narrow_104 rfl ?_
      refine zb_iconst (v := 4) d_Mo_narrow_106 rfl ?_
      refine zb_iload d_Mo_narrow_107 rfl ?_
      refine zb_imul d_Mo_narrow_109 ?_
      refine zb_top (y := nI (4 * (nar t k p).2)) (pk_mul 4 _) ?_
      refine zb_isub d_Mo_narrow_110 ?_
      refine zb_top (y := nI (8 - 4 * (nar t k p).2)) (pk_sub (a := 8) (by have := nar_le t k p; omega)) ?_
      refine zb_ishl d_Mo_narrow_111 ?_
      refine zb_top (y := nI (wn (nu t p) (nar t k p).2)) (wn8 (nu_lt t p) (by have := nar_le t k p; omega)) ?_
      refine zb_ior d_Mo_narrow_112 ?_
      refine zb_top (y := nI ((nar t k p).1 ||| wn (nu t p) (nar t k p).2)) (nI_or _ _) ?_
      refine zb_istore (lv' := [(5, .int (nI ((nar t k p).1 ||| wn (nu t p) (nar t k p).2))), (7, .int (nI p)), (6, .int (nI (nar t k p).2)), (4, .int (nI t)), (0, .ref (zad G 30)), (1, .int (nI r)), (2, .int (nI a)), (3, .int (nI k))]) d_Mo_narrow_113 (by decide) rfl ?_
      refine zb_iinc (v := nI ((nar t k p).2 + 1)) (lv' := [(6, .int (nI ((nar t k p).2 + 1))), (5, .int (nI ((nar t k p).1 ||| wn (nu t p) (nar t k p).2))), (7, .int (nI p)), (4, .int (nI t)), (0, .ref (zad G 30)), (1, .int (nI r)), (2, .int (nI a)), (3, .int (nI k))]) d_Mo_narrow_115 rfl (nI_1 _) (by decide) rfl ?_
      refine zb_iinc (v := nI (p + 1)) (lv' := [(7, .int (nI (p + 1))), (6, .int (nI ((nar t k p).2 + 1))), (5, .int (nI ((nar t k p).1 ||| wn (nu t p) (nar t k p).2))), (4, .int (nI t)), (0, .ref (zad G 30)), (1, .int (nI r)), (2, .int (nI a)), (3, .int (nI k))]) d_Mo_narrow_118 rfl (nI_1 p) (by decide) rfl ?_
      refine zb_goto (tgt := 72) d_Mo_narrow_121 rfl ?_
      refine zb_sub [0, 1, 2, 3, 4, 5, 6, 7] rfl ?_
      refine zb_lv (lv' := [(7, .int (nI ((p + 1)))), (6, .int (nI (nar t k ((p + 1))).2)), (5, .int (nI (nar t k ((p + 1))).1)), (4, .int (nI t)), (0, .ref (zad G 30)), (1, .int (nI r)), (2, .int (nI a)), (3, .int (nI k))]) (by rw [nar_y h89]; rfl) ?_
      exact ih (p + 1) (by omega)
    · refine zb_goto (tgt := 118) d_Mo_narrow_92 rfl ?_
      refine zb_iinc (v := nI (p + 1)) (lv' := [(7, .int (nI (p + 1))), (6, .int (nI (nar t k p).2)), (5, .int (nI (nar t k p).1)), (4, .int (nI t)), (0, .ref (zad G 30)), (1, .int (nI r)), (2, .int (nI a)), (3, .int (nI k))]) d_Mo_narrow_118 rfl (nI_1 p) (by decide) rfl ?_
      refine zb_goto (tgt := 72) d_Mo_narrow_121 rfl ?_
      refine zb_sub [0, 1, 2, 3, 4, 5, 6, 7] rfl ?_
      refine zb_lv (lv' := [(7, .int (nI ((p + 1)))), (6, .int (nI (nar t k ((p + 1))).2)), (5, .int (nI (nar t k ((p + 1))).1)), (4, .int (nI t)), (0, .ref (zad G 30)), (1, .int (nI r)), (2, .int (nI a)), (3, .int (nI k))]) (by rw [nar_z h89]; rfl) ?_
      exact ih (p + 1) (by omega)
set_option maxHeartbeats 4000000 in
set_option maxRecDepth 100000 in
theorem lp_mnarrow (l : Launch) (G : zG) {σ : zS} {r a k : Nat} {M : Nat → Nat → Int32} {w : Nat → Nat} (hm : zmw σ M w) (ha : a < 8) (hu : w a ≤ 3) (hk : k < 8) (hk2 : k < 2 ^ w a) {Fin : List Frame → Array Value → State → State → Prop} (K : ∀ τ : zS, zo σ τ (mN k (M a) 4096) → zB l G w_Mo_narrow R_Mo c_Mo_narrow 8 (some .int) [] (zrm 2 60) Fin 0 0 147 [(4, .int (nI 4096)), (0, .ref (zad G 30)), (1, .int (nI r)), (2, .int (nI a)), (3, .int (nI k))] [] τ) : ∀ (d i : Nat) (τ : zS), i + d = 4096 → zo σ τ (mN k (M a) i) → zB l G w_Mo_narrow R_Mo c_Mo_narrow 8 (some .int) [] (zrm 2 60) Fin 0 0 55 [(4, .int (nI i)), (0, .ref (zad G 30)), (1, .int (nI r)), (2, .int (nI a)), (3, .int (nI k))] [] τ := by
  intro d
  induction d with
  | zero =>
    intro i τ hi hz
    have e : i = 4096 := by omega
    refine zb_iload d_Mo_narrow_55 rfl ?_
    refine zb_sipush (v := 4096) d_Mo_narrow_57 rfl ?_
    refine zb_icmp_ge (tgt := 147) d_Mo_narrow_60 rfl (fun h60 => ?_) (fun h60 => absurd (nI_le (a := 4096) (b := i) (by omega) (by omega)) h60)
    refine zb_sub [0, 1, 2, 3, 4] rfl ?_
    rw [e] at hz ⊢
    exact K τ hz
  | succ d ih =>
    intro i τ hi hz
    have hlt : i < 4096 := by omega
    refine zb_iload d_Mo_narrow_55 rfl ?_
    refine zb_sipush (v := 4096) d_Mo_narrow_57 rfl ?_
    refine zb_icmp_ge (tgt := 147) d_Mo_narrow_60 rfl (fun h60 => absurd h60 (nI_ge (a := i) (b := 4096) (by omega) (by omega))) (fun h60 => ?_)
    refine zb_iconst (v := 0) d_Mo_narrow_63 rfl ?_
    refine zb_istore (lv' := [(5, .int 0), (4, .int (nI i)), (0, .ref (zad G 30)), (1, .int (nI r)), (2, .int (nI a)), (3, .int (nI k))]) d_Mo_narrow_64 (by decide) rfl ?_
    refine zb_iconst (v := 0) d_Mo_narrow_66 rfl ?_
    refine zb_istore (lv' := [(6, .int 0), (5, .int 0), (4, .int (nI i)), (0, .ref (zad G 30)), (1, .int (nI r)), (2, .int (nI a)), (3, .int (nI k))]) d_Mo_narrow_67 (by decide) rfl ?_
    refine zb_iconst (v := 0) d_Mo_narrow_69 rfl ?_
    refine zb_istore (lv' := [(7, .int 0), (6, .int 0), (5, .int 0), (4, .int (nI i)), (0, .ref (zad G 30)), (1, .int (nI r)), (2, .int (nI a)), (3, .int (nI k))]) d_Mo_narrow_70 (by decide) rfl ?_
    refine zb_lv (lv' := [(7, .int (nI 0)), (6, .int (nI (nar i k 0).2)), (5, .int (nI (nar i k 0).1)), (4, .int (nI i)), (0, .ref (zad G 30)), (1, .int (nI r)), (2, .int (nI a)), (3, .int (nI k))]) rfl ?_
    refine zb_sub [0, 1, 2, 3, 4, 5, 6, 7] rfl ?_
    refine lp_mnarrow1 l G (hz.mw hm) ha hlt hu hk ?_ (w a) 0 (by omega)
    refine zb_lv (lv' := [(7, .int (nI (w a))), (6, .int (nI (nar i k (w a)).2)), (5, .int (nI (nar i k 3).1)), (4, .int (nI i)), (0, .ref (zad G 30)), (1, .int (nI r)), (2, .int (nI a)), (3, .int (nI k))]) (by rw [nar_w hu hk2]) ?_
    refine zb_aload_n d_Mo_narrow_124 rfl rfl ?_
    refine zm_made d_Mo_narrow_125 fl_Mo_21 ?_
    refine zb_iload d_Mo_narrow_128 rfl ?_
    refine zb_dup2 d_Mo_narrow_130 rfl rfl ?_
    refine zb_ialdN (q := 33) (j := (nar i k 3).1) d_Mo_narrow_131 (ia33) (show (nar i k 3).1 < 4096 from nar_lt i k 3) ?_
    refine zb_top (y := mN k (M a) i (nar i k 3).1) (hz.1 _ (nar_lt i k 3)) ?_
    refine zb_aload_n d_Mo_narrow_132 rfl rfl ?_
    refine zb_iload_n d_Mo_narrow_133 rfl rfl ?_
    refine zb_iload d_Mo_narrow_134 rfl ?_
    refine zb_callV (rest := [.int (mN k (M a) i (nar i k 3).1), .int (nI (nar i k 3).1), .ref (zad G 33)]) (c_of l G (hz.mw hm) ha hlt) (lk_Mo_48.cw rfl rfl ⟨Nat.le_of_ble_eq_true rfl, Nat.le_of_ble_eq_true rfl⟩) zgM rfl rfl rfl rfl (Nat.le_of_ble_eq_true rfl) d_Mo_narrow_136 ⟨Nat.le_of_ble_eq_true rfl, Nat.le_of_ble_eq_true rfl⟩ ?_
    rintro _ _ ⟨rfl, rfl⟩
    refine zb_st (st' := [.int (M a i), .int (mN k (M a) i (nar i k 3).1), .int (nI (nar i k 3).1), .ref (zad G 33)]) rfl ?_
    refine zb_iadd d_Mo_narrow_139 ?_
    refine zb_iastN (q := 33) (j := (nar i k 3).1) d_Mo_narrow_140 (ia33) (show (nar i k 3).1 < 4096 from nar_lt i k 3) ?_
    refine zb_iinc (v := nI (i + 1)) (lv' := [(4, .int (nI (i + 1))), (7, .int (nI (w a))), (6, .int (nI (nar i k (w a)).2)), (5, .int (nI (nar i k 3).1)), (0, .ref (zad G 30)), (1, .int (nI r)), (2, .int (nI a)), (3, .int (nI k))]) d_Mo_narrow_141 rfl (nI_1 i) (by decide) rfl ?_
    refine zb_goto (tgt := 55) d_Mo_narrow_144 rfl ?_
    refine zb_sub [0, 4, 5, 6, 7] rfl ?_
    exact ih (i + 1) _ (by omega) (zo_s hz (nar i k 3).1 _)
set_option maxHeartbeats 4000000 in
set_option maxRecDepth 100000 in
theorem c_mnarrow (l : Launch) (G : zG) {σ : zS} {r a k : Nat} {M : Nat → Nat → Int32} {w : Nat → Nat} (hm : zmw σ M w) (hr : r < 8) (ha : a < 8) (h3 : w a ≤ 3) (hk0 : 0 < k) (hk2 : k < 2 ^ w a) (hn : zct (mN k (M a) 4096) 4096 ≤ 300) : zC l G y_Mo_narrow w_Mo_narrow (zrm 2 60) 0 0 [.ref (zad G 30), .int (nI r), .int (nI a), .int (nI k)] σ (fun o9 σ' => o9 = some (.int (nI (zct (mN k (M a) 4096) 4096))) ∧ σ'.1 30 0 = 0 ∧ zmw σ' (uM M r (mN k (M a) 4096)) (uM w r (pc16 k)) ∧ zj σ σ') := by
  refine zC_of (cc := c_Mo_narrow) (nL := 8) (ret := (some .int)) (own := R_Mo) (by decide +kernel) rfl rfl (Nat.le_of_ble_eq_true rfl) ?_
  refine zb_lv (lv' := [(0, .ref (zad G 30)), (1, .int (nI r)), (2, .int (nI a)), (3, .int (nI k))]) rfl ?_
  refine zb_aload_n d_Mo_narrow_0 rfl rfl ?_
  refine zb_iload_n d_Mo_narrow_1 rfl rfl ?_
  refine zb_callV (rest := []) (c_none_n l G hr) (lk_Mo_36.cw rfl rfl ⟨Nat.le_of_ble_eq_true rfl, Nat.le_of_ble_eq_true rfl⟩) zgM rfl rfl rfl rfl (Nat.le_of_ble_eq_true rfl) d_Mo_narrow_2 ⟨Nat.le_of_ble_eq_true rfl, Nat.le_of_ble_eq_true rfl⟩ ?_
  rintro _ _ ⟨rfl, y1⟩
  rename_i σ1
  have z1 : zt σ σ1 0 := y1
  refine zb_st (st' := [.int 0]) rfl ?_
  refine zb_if_ne (tgt := 46) d_Mo_narrow_5 rfl (fun h5 => absurd h5 (fun z => z rfl)) (fun h5 => ?_)
  refine zb_aload_n d_Mo_narrow_8 rfl rfl ?_
  refine zb_iload_n d_Mo_narrow_9 rfl rfl ?_
  refine zb_callV (rest := []) (c_none_n l G ha) (lk_Mo_36.cw rfl rfl ⟨Nat.le_of_ble_eq_true rfl, Nat.le_of_ble_eq_true rfl⟩) zgM rfl rfl rfl rfl (Nat.le_of_ble_eq_true rfl) d_Mo_narrow_10 ⟨Nat.le_of_ble_eq_true rfl, Nat.le_of_ble_eq_true rfl⟩ ?_
  rintro _ _ ⟨rfl, y2⟩
  rename_i σ2
  have z2 : zt σ σ2 0 := z1.tr y2
  refine zb_st (st' := [.int 0]) rfl ?_
  refine zb_if_ne (tgt := 46) d_Mo_narrow_13 rfl (fun h13 => absurd h13 (fun z => z rfl)) (fun h13 => ?_)
  refine zb_aload_n d_Mo_narrow_16 rfl rfl ?_
  refine zb_iconst (v := 2) d_Mo_narrow_17 rfl ?_
  refine zb_iload_n d_Mo_narrow_18 rfl rfl ?_
  refine zb_iconst (v := 1) d_Mo_narrow_19 rfl ?_
  refine zb_icmp_lt (tgt := 35) d_Mo_narrow_20 rfl (fun h20 => absurd h20 (nI_nlt (b := 1) hk0 (by have := pw8 _ h3; omega))) (fun h20 => ?_)
  refine zb_iload_n d_Mo_narrow_23 rfl rfl ?_
  refine zb_iconst (v := 1) d_Mo_narrow_24 rfl ?_
  refine zb_aload_n d_Mo_narrow_25 rfl rfl ?_
  refine zm_width d_Mo_narrow_26 fl_Mo_13 ?_
  refine zb_iload_n d_Mo_narrow_29 rfl rfl ?_
  refine zb_ialdN (q := 31) (j := a) d_Mo_narrow_30 (ia31) (show a < 8 from ha) ?_
  refine zb_top (y := nI (w a)) ((z2.mw hm).1 a ha) ?_
  refine zb_ishl d_Mo_narrow_31 ?_
  refine zb_top (y := nI (2 ^ w a)) (nI_bit8 _ h3) ?_
  refine zb_icmp_lt (tgt := 39) d_Mo_narrow_32 rfl (fun h32 => ?_) (fun h32 => absurd (nI_lt hk2 (by have := pw8 _ h3; omega)) h32)
  refine zb_iconst (v := 0) d_Mo_narrow_39 rfl ?_
  refine zb_callV (rest := []) (c_refuse_n l G) (lk_Mo_28.cw rfl rfl ⟨Nat.le_of_ble_eq_true rfl, Nat.le_of_ble_eq_true rfl⟩) zgM rfl rfl rfl rfl (Nat.le_of_ble_eq_true rfl) d_Mo_narrow_40 ⟨Nat.le_of_ble_eq_true rfl, Nat.le_of_ble_eq_true rfl⟩ ?_
  rintro _ _ ⟨rfl, rfl⟩
  refine zb_st (st' := [.int 0]) rfl ?_
  refine zb_if_eq (tgt := 48) d_Mo_narrow_43 rfl (fun h43 => ?_) (fun h43 => absurd rfl h43)
  refine zb_aload_n d_Mo_narrow_48 rfl rfl ?_
  refine zb_callV (rest := []) (c_begin l G) (lk_Mo_52.cw rfl rfl ⟨Nat.le_of_ble_eq_true rfl, Nat.le_of_ble_eq_true rfl⟩) zgM rfl rfl rfl rfl (Nat.le_of_ble_eq_true rfl) d_Mo_narrow_49 ⟨Nat.le_of_ble_eq_true rfl, Nat.le_of_ble_eq_true rfl⟩ ?_
  rintro _ _ ⟨rfl, hb0⟩
  rename_i σb
  have hmk := z2.mw hm
  refine zb_st (st' := []) rfl ?_
  refine zb_iconst (v := 0) d_Mo_narrow_52 rfl ?_
  refine zb_istore (lv' := [(4, .int 0), (0, .ref (zad G 30)), (1, .int (nI r)), (2, .int (nI a)), (3, .int (nI k))]) d_Mo_narrow_53 (by decide) rfl ?_
  refine zb_lv (lv' := [(4, .int (nI 0)), (0, .ref (zad G 30)), (1, .int (nI r)), (2, .int (nI a)), (3, .int (nI k))]) rfl ?_
  refine zb_sub [0, 1, 2, 3, 4] rfl ?_
  refine lp_mnarrow l G hmk ha h3 (show k < 8 by have := pw8 _ h3; omega) hk2 (fun τ hz => ?_) 4096 0 _ rfl (hb0)
  refine zb_aload_n d_Mo_narrow_147 rfl rfl ?_
  refine zb_iload_n d_Mo_narrow_148 rfl rfl ?_
  refine zb_iload_n d_Mo_narrow_149 rfl rfl ?_
  refine zb_callS (rest := [.int (nI r), .ref (zad G 30)]) (c_bits l G (show k < 65536 by have := pw8 _ h3; omega)) (lk_Mo_62.cw rfl rfl ⟨Nat.le_of_ble_eq_true rfl, Nat.le_of_ble_eq_true rfl⟩) rfl rfl (Nat.le_of_ble_eq_true rfl) d_Mo_narrow_150 ⟨Nat.le_of_ble_eq_true rfl, Nat.le_of_ble_eq_true rfl⟩ ?_
  rintro _ _ ⟨rfl, rfl⟩
  refine zb_st (st' := [.int (nI (pc16 k)), .int (nI r), .ref (zad G 30)]) rfl ?_
  refine zb_iconst (v := 3) d_Mo_narrow_153 rfl ?_
  refine zb_callV (rest := []) (c_keep_y l G (D := (mN k (M a) 4096)) (u := pc16 k) (hz.mw hmk) hr hz.1 hn) (lk_Mo_58.cw rfl rfl ⟨Nat.le_of_ble_eq_true rfl, Nat.le_of_ble_eq_true rfl⟩) zgM rfl rfl rfl rfl (Nat.le_of_ble_eq_true rfl) d_Mo_narrow_154 ⟨Nat.le_of_ble_eq_true rfl, Nat.le_of_ble_eq_true rfl⟩ ?_
  rintro _ _ ⟨rfl, k1, k2, k3⟩
  rename_i σ9
  refine zb_st (st' := [.int (nI (zct (mN k (M a) 4096) 4096))]) rfl ?_
  exact zb_iret d_Mo_narrow_157 rfl ⟨rfl, (fin_y z2 hz ⟨k2, k3⟩).1, k1, (fin_y z2 hz ⟨k2, k3⟩).2⟩
set_option maxHeartbeats 4000000 in
set_option maxRecDepth 100000 in
theorem c_mjoin_ns (l : Launch) (G : zG) {σ : zS} {x y z o : Int32} (h : ¬ (zgr x ∧ zgr y ∧ zgr z)) : zC l G y_Mo_join w_Mo_join (zrm 2 60) 0 0 [.ref (zad G 30), .int x, .int y, .int z, .int o] σ (fun v σ' => v = some (.int 0) ∧ zt σ σ' 1) := by
  refine zC_of (cc := c_Mo_join) (nL := 10) (ret := (some .int)) (own := R_Mo) (by decide +kernel) rfl rfl (Nat.le_of_ble_eq_true rfl) ?_
  refine zb_lv (lv' := [(0, .ref (zad G 30)), (1, .int x), (2, .int y), (3, .int z), (4, .int o)]) rfl ?_
  by_cases hx : zgr x
  · obtain ⟨r, hr, rfl⟩ := hx
    refine zb_aload_n d_Mo_join_0 rfl rfl ?_
    refine zb_iload_n d_Mo_join_1 rfl rfl ?_
    refine zb_callV (rest := []) (c_none_n l G hr) (lk_Mo_36.cw rfl rfl ⟨Nat.le_of_ble_eq_true rfl, Nat.le_of_ble_eq_true rfl⟩) zgM rfl rfl rfl rfl (Nat.le_of_ble_eq_true rfl) d_Mo_join_2 ⟨Nat.le_of_ble_eq_true rfl, Nat.le_of_ble_eq_true rfl⟩ ?_
    rintro _ _ ⟨rfl, y1⟩
    rename_i σ1
    have z1 : zt σ σ1 0 := y1
    refine zb_st (st' := [.int 0]) rfl ?_
    refine zb_if_ne (tgt := 24) d_Mo_join_5 rfl (fun h5 => absurd h5 (fun z => z rfl)) (fun h5 => ?_)
    by_cases hy : zgr y
    · obtain ⟨a, ha, rfl⟩ := hy
      refine zb_aload_n d_Mo_join_8 rfl rfl ?_
      refine zb_iload_n d_Mo_join_9 rfl rfl ?_
      refine zb_callV (rest := []) (c_none_n l G ha) (lk_Mo_36.cw rfl rfl ⟨Nat.le_of_ble_eq_true rfl, Nat.le_of_ble_eq_true rfl⟩) zgM rfl rfl rfl rfl (Nat.le_of_ble_eq_true rfl) d_Mo_join_10 ⟨Nat.le_of_ble_eq_true rfl, Nat.le_of_ble_eq_true rfl⟩ ?_
      rintro _ _ ⟨rfl, y2⟩
      rename_i σ2
      have z2 : zt σ σ2 0 := z1.tr y2
      refine zb_st (st' := [.int 0]) rfl ?_
      refine zb_if_ne (tgt := 24) d_Mo_join_13 rfl (fun h13 => absurd h13 (fun z => z rfl)) (fun h13 => ?_)
      by_cases hz : zgr z
      · exact absurd ⟨⟨r, hr, rfl⟩, ⟨a, ha, rfl⟩, hz⟩ h
      · refine zb_aload_n d_Mo_join_16 rfl rfl ?_
        refine zb_iload_n d_Mo_join_17 rfl rfl ?_
        refine zb_callV (rest := []) (c_none_y l G hz) (lk_Mo_36.cw rfl rfl ⟨Nat.le_of_ble_eq_true rfl, Nat.le_of_ble_eq_true rfl⟩) zgM rfl rfl rfl rfl (Nat.le_of_ble_eq_true rfl) d_Mo_join_18 ⟨Nat.le_of_ble_eq_true rfl, Nat.le_of_ble_eq_true rfl⟩ ?_
        rintro _ _ ⟨rfl, y9⟩
        rename_i σ9
        refine zb_st (st' := [.int 1]) rfl ?_
        refine zb_if_eq (tgt := 26) d_Mo_join_21 rfl (fun h21 => absurd h21 (by decide)) (fun h21 => ?_)
        refine zb_iconst (v := 0) d_Mo_join_24 rfl ?_
        exact zb_iret d_Mo_join_25 rfl ⟨rfl, z2.tr y9⟩
    · refine zb_aload_n d_Mo_join_8 rfl rfl ?_
      refine zb_iload_n d_Mo_join_9 rfl rfl ?_
      refine zb_callV (rest := []) (c_none_y l G hy) (lk_Mo_36.cw rfl rfl ⟨Nat.le_of_ble_eq_true rfl, Nat.le_of_ble_eq_true rfl⟩) zgM rfl rfl rfl rfl (Nat.le_of_ble_eq_true rfl) d_Mo_join_10 ⟨Nat.le_of_ble_eq_true rfl, Nat.le_of_ble_eq_true rfl⟩ ?_
      rintro _ _ ⟨rfl, y9⟩
      rename_i σ9
      refine zb_st (st' := [.int 1]) rfl ?_
      refine zb_if_ne (tgt := 24) d_Mo_join_13 rfl (fun h13 => ?_) (fun h13 => absurd h13 (by decide))
      refine zb_iconst (v := 0) d_Mo_join_24 rfl ?_
      exact zb_iret d_Mo_join_25 rfl ⟨rfl, z1.tr y9⟩
  · refine zb_aload_n d_Mo_join_0 rfl rfl ?_
    refine zb_iload_n d_Mo_join_1 rfl rfl ?_
    refine zb_callV (rest := []) (c_none_y l G hx) (lk_Mo_36.cw rfl rfl ⟨Nat.le_of_ble_eq_true rfl, Nat.le_of_ble_eq_true rfl⟩) zgM rfl rfl rfl rfl (Nat.le_of_ble_eq_true rfl) d_Mo_join_2 ⟨Nat.le_of_ble_eq_true rfl, Nat.le_of_ble_eq_true rfl⟩ ?_
    rintro _ _ ⟨rfl, y9⟩
    rename_i σ9
    refine zb_st (st' := [.int 1]) rfl ?_
    refine zb_if_ne (tgt := 24) d_Mo_join_5 rfl (fun h5 => ?_) (fun h5 => absurd h5 (by decide))
    refine zb_iconst (v := 0) d_Mo_join_24 rfl ?_
    exact zb_iret d_Mo_join_25 rfl ⟨rfl, y9⟩
set_option maxHeartbeats 4000000 in
set_option maxRecDepth 100000 in
theorem c_mjoin_ia (l : Launch) (G : zG) {σ : zS} {r a b : Nat} {o : Int32} {M : Nat → Nat → Int32} {w : Nat → Nat} (hm : zmw σ M w) (hr : r < 8) (ha : a < 8) (hb : b < 8) (h1a : 1 ≤ w a) (h1b : 1 ≤ w b) (h3a : w a ≤ 3) (h3b : w b ≤ 3) (h : ¬ ∃ k : Nat, o = nI k ∧ jok (w a) (w b) k) : zC l G y_Mo_join w_Mo_join (zrm 2 60) 0 0 [.ref (zad G 30), .int (nI r), .int (nI a), .int (nI b), .int o] σ (fun v σ' => v = some (.int 0) ∧ zt σ σ' 2) := by
  refine zC_of (cc := c_Mo_join) (nL := 10) (ret := (some .int)) (own := R_Mo) (by decide +kernel) rfl rfl (Nat.le_of_ble_eq_true rfl) ?_
  refine zb_lv (lv' := [(0, .ref (zad G 30)), (1, .int (nI r)), (2, .int (nI a)), (3, .int (nI b)), (4, .int o)]) rfl ?_
  refine zb_aload_n d_Mo_join_0 rfl rfl ?_
  refine zb_iload_n d_Mo_join_1 rfl rfl ?_
  refine zb_callV (rest := []) (c_none_n l G hr) (lk_Mo_36.cw rfl rfl ⟨Nat.le_of_ble_eq_true rfl, Nat.le_of_ble_eq_true rfl⟩) zgM rfl rfl rfl rfl (Nat.le_of_ble_eq_true rfl) d_Mo_join_2 ⟨Nat.le_of_ble_eq_true rfl, Nat.le_of_ble_eq_true rfl⟩ ?_
  rintro _ _ ⟨rfl, y1⟩
  rename_i σ1
  have z1 : zt σ σ1 0 := y1
  refine zb_st (st' := [.int 0]) rfl ?_
  refine zb_if_ne (tgt := 24) d_Mo_join_5 rfl (fun h5 => absurd h5 (fun z => z rfl)) (fun h5 => ?_)
  refine zb_aload_n d_Mo_join_8 rfl rfl ?_
  refine zb_iload_n d_Mo_join_9 rfl rfl ?_
  refine zb_callV (rest := []) (c_none_n l G ha) (lk_Mo_36.cw rfl rfl ⟨Nat.le_of_ble_eq_true rfl, Nat.le_of_ble_eq_true rfl⟩) zgM rfl rfl rfl rfl (Nat.le_of_ble_eq_true rfl) d_Mo_join_10 ⟨Nat.le_of_ble_eq_true rfl, Nat.le_of_ble_eq_true rfl⟩ ?_
  rintro _ _ ⟨rfl, y2⟩
  rename_i σ2
  have z2 : zt σ σ2 0 := z1.tr y2
  refine zb_st (st' := [.int 0]) rfl ?_
  refine zb_if_ne (tgt := 24) d_Mo_join_13 rfl (fun h13 => absurd h13 (fun z => z rfl)) (fun h13 => ?_)
  refine zb_aload_n d_Mo_join_16 rfl rfl ?_
  refine zb_iload_n d_Mo_join_17 rfl rfl ?_
  refine zb_callV (rest := []) (c_none_n l G hb) (lk_Mo_36.cw rfl rfl ⟨Nat.le_of_ble_eq_true rfl, Nat.le_of_ble_eq_true rfl⟩) zgM rfl rfl rfl rfl (Nat.le_of_ble_eq_true rfl) d_Mo_join_18 ⟨Nat.le_of_ble_eq_true rfl, Nat.le_of_ble_eq_true rfl⟩ ?_
  rintro _ _ ⟨rfl, y3⟩
  rename_i σ3
  have z3 : zt σ σ3 0 := z2.tr y3
  refine zb_st (st' := [.int 0]) rfl ?_
  refine zb_if_eq (tgt := 26) d_Mo_join_21 rfl (fun h21 => ?_) (fun h21 => absurd rfl h21)
  refine zb_aload_n d_Mo_join_26 rfl rfl ?_
  refine zm_width d_Mo_join_27 fl_Mo_13 ?_
  refine zb_iload_n d_Mo_join_30 rfl rfl ?_
  refine zb_ialdN (q := 31) (j := a) d_Mo_join_31 (ia31) (show a < 8 from ha) ?_
  refine zb_top (y := nI (w a)) ((z3.mw hm).1 a ha) ?_
  refine zb_aload_n d_Mo_join_32 rfl rfl ?_
  refine zm_width d_Mo_join_33 fl_Mo_13 ?_
  refine zb_iload_n d_Mo_join_36 rfl rfl ?_
  refine zb_ialdN (q := 31) (j := b) d_Mo_join_37 (ia31) (show b < 8 from hb) ?_
  refine zb_top (y := nI (w b)) ((z3.mw hm).1 b hb) ?_
  refine zb_iadd d_Mo_join_38 ?_
  refine zb_iload d_Mo_join_39 rfl ?_
  refine zb_isub d_Mo_join_41 ?_
  refine zb_istore (lv' := [(5, .int (((nI (w a)) + (nI (w b))) - o)), (0, .ref (zad G 30)), (1, .int (nI r)), (2, .int (nI a)), (3, .int (nI b)), (4, .int o)]) d_Mo_join_42 (by decide) rfl ?_
  refine zb_aload_n d_Mo_join_44 rfl rfl ?_
  refine zb_iconst (v := 2) d_Mo_join_45 rfl ?_
  refine zb_iload d_Mo_join_46 rfl ?_
  refine zb_if_lt (tgt := 79) d_Mo_join_48 rfl (fun h48 => ?_) (fun h48 => ?_)
  · refine zb_iconst (v := 1) d_Mo_join_79 rfl ?_
    refine zb_goto (tgt := 84) d_Mo_join_80 rfl ?_
    refine zb_callV (rest := []) (c_refuse_y l G) (lk_Mo_28.cw rfl rfl ⟨Nat.le_of_ble_eq_true rfl, Nat.le_of_ble_eq_true rfl⟩) zgM rfl rfl rfl rfl (Nat.le_of_ble_eq_true rfl) d_Mo_join_84 ⟨Nat.le_of_ble_eq_true rfl, Nat.le_of_ble_eq_true rfl⟩ ?_
    rintro _ _ ⟨rfl, y9⟩
    rename_i σ9
    refine zb_st (st' := [.int 1]) rfl ?_
    refine zb_if_eq (tgt := 92) d_Mo_join_87 rfl (fun h87 => absurd h87 (by decide)) (fun h87 => ?_)
    refine zb_iconst (v := 0) d_Mo_join_90 rfl ?_
    exact zb_iret d_Mo_join_91 rfl ⟨rfl, z3.tr y9⟩
  · refine zb_iload d_Mo_join_51 rfl ?_
    refine zb_aload_n d_Mo_join_53 rfl rfl ?_
    refine zm_width d_Mo_join_54 fl_Mo_13 ?_
    refine zb_iload_n d_Mo_join_57 rfl rfl ?_
    refine zb_ialdN (q := 31) (j := a) d_Mo_join_58 (ia31) (show a < 8 from ha) ?_
    refine zb_top (y := nI (w a)) ((z3.mw hm).1 a ha) ?_
    refine zb_icmp_gt (tgt := 79) d_Mo_join_59 rfl (fun h59 => ?_) (fun h59 => ?_)
    · refine zb_iconst (v := 1) d_Mo_join_79 rfl ?_
      refine zb_goto (tgt := 84) d_Mo_join_80 rfl ?_
      refine zb_callV (rest := []) (c_refuse_y l G) (lk_Mo_28.cw rfl rfl ⟨Nat.le_of_ble_eq_true rfl, Nat.le_of_ble_eq_true rfl⟩) zgM rfl rfl rfl rfl (Nat.le_of_ble_eq_true rfl) d_Mo_join_84 ⟨Nat.le_of_ble_eq_true rfl, Nat.le_of_ble_eq_true rfl⟩ ?_
      rintro _ _ ⟨rfl, y9⟩
      rename_i σ9
      refine zb_st (st' := [.int 1]) rfl ?_
      refine zb_if_eq (tgt := 92) d_Mo_join_87 rfl (fun h87 => absurd h87 (by decide)) (fun h87 => ?_)
      refine zb_iconst (v := 0) d_Mo_join_90 rfl ?_
      exact zb_iret d_Mo_join_91 rfl ⟨rfl, z3.tr y9⟩
    · refine zb_iload d_Mo_join_62 rfl ?_
      refine zb_aload_n d_Mo_join_64 rfl rfl ?_
      refine zm_width d_Mo_join_65 fl_Mo_13 ?_
      refine zb_iload_n d_Mo_join_68 rfl rfl ?_
      refine zb_ialdN (q := 31) (j := b) d_Mo_join_69 (ia31) (show b < 8 from hb) ?_
      refine zb_top (y := nI (w b)) ((z3.mw hm).1 b hb) ?_
      refine zb_icmp_gt (tgt := 79) d_Mo_join_70 rfl (fun h70 => ?_) (fun h70 => ?_)
      · refine zb_iconst (v := 1) d_Mo_join_79 rfl ?_
        refine zb_goto (tgt := 84) d_Mo_join_80 rfl ?_
        refine zb_callV (rest := []) (c_refuse_y l G) (lk_Mo_28.cw rfl rfl ⟨Nat.le_of_ble_eq_true rfl, Nat.le_of_ble_eq_true rfl⟩) zgM rfl rfl rfl rfl (Nat.le_of_ble_eq_true rfl) d_Mo_join_84 ⟨Nat.le_of_ble_eq_true rfl, Nat.le_of_ble_eq_true rfl⟩ ?_
        rintro _ _ ⟨rfl, y9⟩
        rename_i σ9
        refine zb_st (st' := [.int 1]) rfl ?_
        refine zb_if_eq (tgt := 92) d_Mo_join_87 rfl (fun h87 => absurd h87 (by decide)) (fun h87 => ?_)
        refine zb_iconst (v := 0) d_Mo_join_90 rfl ?_
        exact zb_iret d_Mo_join_91 rfl ⟨rfl, z3.tr y9⟩
      · refine zb_iload d_Mo_join_73 rfl ?_
        refine zb_iconst (v := 3) d_Mo_join_75 rfl ?_
        refine zb_icmp_le (tgt := 83) d_Mo_join_76 rfl (fun h76 => absurd h76 (fun q => by
          obtain ⟨k, hk31, rfl⟩ := nI_of h48
          have hka : k ≤ w a := (nI_leI hk31 (by omega)).mp (Int32.not_lt.mp h59)
          have hkb : k ≤ w b := (nI_leI hk31 (by omega)).mp (Int32.not_lt.mp h70)
          rw [nI_add, pk_sub (by omega)] at q
          exact h ⟨k, rfl, h1a, h3a, h1b, h3b, hka, hkb, (nI_leI (b := 3) (by omega) (by decide)).mp q⟩)) (fun h76 => ?_)
        refine zb_iconst (v := 1) d_Mo_join_79 rfl ?_
        refine zb_goto (tgt := 84) d_Mo_join_80 rfl ?_
        refine zb_callV (rest := []) (c_refuse_y l G) (lk_Mo_28.cw rfl rfl ⟨Nat.le_of_ble_eq_true rfl, Nat.le_of_ble_eq_true rfl⟩) zgM rfl rfl rfl rfl (Nat.le_of_ble_eq_true rfl) d_Mo_join_84 ⟨Nat.le_of_ble_eq_true rfl, Nat.le_of_ble_eq_true rfl⟩ ?_
        rintro _ _ ⟨rfl, y9⟩
        rename_i σ9
        refine zb_st (st' := [.int 1]) rfl ?_
        refine zb_if_eq (tgt := 92) d_Mo_join_87 rfl (fun h87 => absurd h87 (by decide)) (fun h87 => ?_)
        refine zb_iconst (v := 0) d_Mo_join_90 rfl ?_
        exact zb_iret d_Mo_join_91 rfl ⟨rfl, z3.tr y9⟩
set_option maxHeartbeats 4000000 in
set_option maxRecDepth 100000 in
theorem lp_mjoin1 (l : Launch) (G : zG) {σ : zS} {r a b t k : Nat} {M : Nat → Nat → Int32} {w : Nat → Nat} (hm : zmw σ M w) (ha : a < 8) (ht : t < 4096) (hu : w a ≤ 3) {Fin : List Frame → Array Value → State → State → Prop} (K : zB l G w_Mo_join R_Mo c_Mo_join 10 (some .int) [] (zrm 2 60) Fin 0 0 166 [(9, .int (nI (w a))), (7, .int (nI (jxp t (w a)))), (8, .int (nI 0)), (6, .int (nI t)), (5, .int (nI (w a + w b - k))), (0, .ref (zad G 30)), (1, .int (nI r)), (2, .int (nI a)), (3, .int (nI b)), (4, .int (nI k))] [] σ) : ∀ d p : Nat, p + d = w a → zB l G w_Mo_join R_Mo c_Mo_join 10 (some .int) [] (zrm 2 60) Fin 0 0 129 [(9, .int (nI p)), (7, .int (nI (jxp t p))), (8, .int (nI 0)), (6, .int (nI t)), (5, .int (nI (w a + w b - k))), (0, .ref (zad G 30)), (1, .int (nI r)), (2, .int (nI a)), (3, .int (nI b)), (4, .int (nI k))] [] σ := by
  intro d
  induction d with
  | zero =>
    intro p hi
    have e : p = w a := by omega
    refine zb_iload d_Mo_join_129 rfl ?_
    refine zb_aload_n d_Mo_join_131 rfl rfl ?_
    refine zm_width d_Mo_join_132 fl_Mo_13 ?_
    refine zb_iload_n d_Mo_join_135 rfl rfl ?_
    refine zb_ialdN (q := 31) (j := a) d_Mo_join_136 (ia31) (show a < 8 from ha) ?_
    refine zb_top (y := nI (w a)) (hm.1 a ha) ?_
    refine zb_icmp_ge (tgt := 166) d_Mo_join_137 rfl (fun h137 => ?_) (fun h137 => absurd (nI_le (a := w a) (b := p) (by omega) (by omega)) h137)
    refine zb_sub [0, 1, 2, 3, 4, 5, 6, 7, 8, 9] rfl ?_
    rw [e]
    exact K
  | succ d ih =>
    intro p hi
    have hlt : p < w a := by omega
    refine zb_iload d_Mo_join_129 rfl ?_
    refine zb_aload_n d_Mo_join_131 rfl rfl ?_
    refine zm_width d_Mo_join_132 fl_Mo_13 ?_
    refine zb_iload_n d_Mo_join_135 rfl rfl ?_
    refine zb_ialdN (q := 31) (j := a) d_Mo_join_136 (ia31) (show a < 8 from ha) ?_
    refine zb_top (y := nI (w a)) (hm.1 a ha) ?_
    refine zb_icmp_ge (tgt := 166) d_Mo_join_137 rfl (fun h137 => absurd h137 (nI_ge (a := p) (b := w a) (by omega) (by omega))) (fun h137 => ?_)
    refine zb_iload d_Mo_join_140 rfl ?_
    refine zb_iload d_Mo_join_142 rfl ?_
    refine zb_iload d_Mo_join_144 rfl ?_
    refine zb_callS (rest := [.int (nI (jxp t p))]) (c_number l G ht (show p < 3 by omega)) (lk_Mo_55.cw rfl rfl ⟨Nat.le_of_ble_eq_true rfl, Nat.le_of_ble_eq_true rfl⟩) rfl rfl (Nat.le_of_ble_eq_true rfl) d_Mo_join_146 ⟨Nat.le_of_ble_eq_true rfl, Nat.le_of_ble_eq_true rfl⟩ ?_
    rintro _ _ ⟨rfl, rfl⟩
    refine zb_st (st' := [.int (nI (nu t p)), .int (nI (jxp t p))]) rfl ?_
    refine zb_bipush (v := 8) d_Mo_join_149 rfl ?_
    refine zb_iconst (v := 4) d_Mo_join_151 rfl ?_
    refine zb_iload d_Mo_join_152 rfl ?_
    refine zb_imul d_Mo_join_154 ?_
    refine zb_top (y := nI (4 * p)) (pk_mul 4 _) ?_
    refine zb_isub d_Mo_join_155 ?_
    refine zb_top (y := nI (8 - 4 * p)) (pk_sub (a := 8) (by omega)) ?_
    refine zb_ishl d_Mo_join_156 ?_
    refine zb_top (y := nI (wn (nu t p) p)) (wn8 (nu_lt t p) (by omega)) ?_
    refine zb_ior d_Mo_join_157 ?_
    refine zb_top (y := nI (jxp t (p + 1))) (nI_or _ _) ?_
    refine zb_istore (lv' := [(7, .int (nI (jxp t (p + 1)))), (9, .int (nI p)), (8, .int (nI 0)), (6, .int (nI t)), (5, .int (nI (w a + w b - k))), (0, .ref (zad G 30)), (1, .int (nI r)), (2, .int (nI a)), (3, .int (nI b)), (4, .int (nI k))]) d_Mo_join_158 (by decide) rfl ?_
    refine zb_iinc (v := nI (p + 1)) (lv' := [(9, .int (nI (p + 1))), (7, .int (nI (jxp t (p + 1)))), (8, .int (nI 0)), (6, .int (nI t)), (5, .int (nI (w a + w b - k))), (0, .ref (zad G 30)), (1, .int (nI r)), (2, .int (nI a)), (3, .int (nI b)), (4, .int (nI k))]) d_Mo_join_160 rfl (nI_1 p) (by decide) rfl ?_
    refine zb_goto (tgt := 129) d_Mo_join_163 rfl ?_
    refine zb_sub [0, 1, 2, 3, 4, 5, 6, 7, 8, 9] rfl ?_
    exact ih (p + 1) (by omega)
set_option maxHeartbeats 4000000 in
set_option maxRecDepth 100000 in
theorem lp_mjoin2 (l : Launch) (G : zG) {σ : zS} {r a b t k : Nat} {xx : Int32} {M : Nat → Nat → Int32} {w : Nat → Nat} (hm : zmw σ M w) (ha : a < 8) (hb : b < 8) (ht : t < 4096) (hj : jok (w a) (w b) k) {Fin : List Frame → Array Value → State → State → Prop} (K : zB l G w_Mo_join R_Mo c_Mo_join 10 (some .int) [] (zrm 2 60) Fin 0 0 216 [(9, .int (nI (w b))), (8, .int (nI (jyp t (w a - k) (w b)))), (7, .int xx), (6, .int (nI t)), (5, .int (nI (w a + w b - k))), (0, .ref (zad G 30)), (1, .int (nI r)), (2, .int (nI a)), (3, .int (nI b)), (4, .int (nI k))] [] σ) : ∀ d p : Nat, p + d = w b → zB l G w_Mo_join R_Mo c_Mo_join 10 (some .int) [] (zrm 2 60) Fin 0 0 169 [(9, .int (nI p)), (8, .int (nI (jyp t (w a - k) p))), (7, .int xx), (6, .int (nI t)), (5, .int (nI (w a + w b - k))), (0, .ref (zad G 30)), (1, .int (nI r)), (2, .int (nI a)), (3, .int (nI b)), (4, .int (nI k))] [] σ := by
  intro d
  induction d with
  | zero =>
    intro p hi
    have e : p = w b := by omega
    have ho := hj
    unfold jok at ho
    refine zb_iload d_Mo_join_169 rfl ?_
    refine zb_aload_n d_Mo_join_171 rfl rfl ?_
    refine zm_width d_Mo_join_172 fl_Mo_13 ?_
    refine zb_iload_n d_Mo_join_175 rfl rfl ?_
    refine zb_ialdN (q := 31) (j := b) d_Mo_join_176 (ia31) (show b < 8 from hb) ?_
    refine zb_top (y := nI (w b)) (hm.1 b hb) ?_
    refine zb_icmp_ge (tgt := 216) d_Mo_join_177 rfl (fun h177 => ?_) (fun h177 => absurd (nI_le (a := w b) (b := p) (by omega) (by omega)) h177)
    refine zb_sub [0, 1, 2, 3, 4, 5, 6, 7, 8, 9] rfl ?_
    rw [e]
    exact K
  | succ d ih =>
    intro p hi
    have hlt : p < w b := by omega
    have ho := hj
    unfold jok at ho
    refine zb_iload d_Mo_join_169 rfl ?_
    refine zb_aload_n d_Mo_join_171 rfl rfl ?_
    refine zm_width d_Mo_join_172 fl_Mo_13 ?_
    refine zb_iload_n d_Mo_join_175 rfl rfl ?_
    refine zb_ialdN (q := 31) (j := b) d_Mo_join_176 (ia31) (show b < 8 from hb) ?_
    refine zb_top (y := nI (w b)) (hm.1 b hb) ?_
    refine zb_icmp_ge (tgt := 216) d_Mo_join_177 rfl (fun h177 => absurd h177 (nI_ge (a := p) (b := w b) (by omega) (by omega))) (fun h177 => ?_)
    refine zb_iload d_Mo_join_180 rfl ?_
    refine zb_iload d_Mo_join_182 rfl ?_
    refine zb_aload_n d_Mo_join_184 rfl rfl ?_
    refine zm_width d_Mo_join_185 fl_Mo_13 ?_
    refine zb_iload_n d_Mo_join_188 rfl rfl ?_
    refine zb_ialdN (q := 31) (j := a) d_Mo_join_189 (ia31) (show a < 8 from ha) ?_
    refine zb_top (y := nI (w a)) (hm.1 a ha) ?_
    refine zb_iload d_Mo_join_190 rfl ?_
    refine zb_isub d_Mo_join_192 ?_
    refine zb_top (y := nI (w a - k)) (pk_sub (by omega)) ?_
    refine zb_iload d_Mo_join_193 rfl ?_
    refine zb_iadd d_Mo_join_195 ?_
    refine zb_top (y := nI (w a - k + p)) (nI_add _ _) ?_
    refine zb_callS (rest := [.int (nI (jyp t (w a - k) p))]) (c_number l G ht (show w a - k + p < 3 by omega)) (lk_Mo_55.cw rfl rfl ⟨Nat.le_of_ble_eq_true rfl, Nat.le_of_ble_eq_true rfl⟩) rfl rfl (Nat.le_of_ble_eq_true rfl) d_Mo_join_196 ⟨Nat.le_of_ble_eq_true rfl, Nat.le_of_ble_eq_true rfl⟩ ?_
    rintro _ _ ⟨rfl, rfl⟩
    refine zb_st (st' := [.int (nI (nu t (w a - k + p))), .int (nI (jyp t (w a - k) p))]) rfl ?_
    refine zb_bipush (v := 8) d_Mo_join_199 rfl ?_
    refine zb_iconst (v := 4) d_Mo_join_201 rfl ?_
    refine zb_iload d_Mo_join_202 rfl ?_
    refine zb_imul d_Mo_join_204 ?_
    refine zb_top (y := nI (4 * p)) (pk_mul 4 _) ?_
    refine zb_isub d_Mo_join_205 ?_
    refine zb_top (y := nI (8 - 4 * p)) (pk_sub (a := 8) (by omega)) ?_
    refine zb_ishl d_Mo_join_206 ?_
    refine zb_top (y := nI (wn (nu t (w a - k + p)) p)) (wn8 (nu_lt t _) (by omega)) ?_
    refine zb_ior d_Mo_join_207 ?_
    refine zb_top (y := nI (jyp t (w a - k) (p + 1))) (nI_or _ _) ?_
    refine zb_istore (lv' := [(8, .int (nI (jyp t (w a - k) (p + 1)))), (9, .int (nI p)), (7, .int xx), (6, .int (nI t)), (5, .int (nI (w a + w b - k))), (0, .ref (zad G 30)), (1, .int (nI r)), (2, .int (nI a)), (3, .int (nI b)), (4, .int (nI k))]) d_Mo_join_208 (by decide) rfl ?_
    refine zb_iinc (v := nI (p + 1)) (lv' := [(9, .int (nI (p + 1))), (8, .int (nI (jyp t (w a - k) (p + 1)))), (7, .int xx), (6, .int (nI t)), (5, .int (nI (w a + w b - k))), (0, .ref (zad G 30)), (1, .int (nI r)), (2, .int (nI a)), (3, .int (nI b)), (4, .int (nI k))]) d_Mo_join_210 rfl (nI_1 p) (by decide) rfl ?_
    refine zb_goto (tgt := 169) d_Mo_join_213 rfl ?_
    refine zb_sub [0, 1, 2, 3, 4, 5, 6, 7, 8, 9] rfl ?_
    exact ih (p + 1) (by omega)
set_option maxHeartbeats 4000000 in
set_option maxRecDepth 100000 in
theorem lp_mjoin (l : Launch) (G : zG) {σ : zS} {r a b k : Nat} {M : Nat → Nat → Int32} {w : Nat → Nat} (hm : zmw σ M w) (ha : a < 8) (hb : b < 8) (hj : jok (w a) (w b) k) {Fin : List Frame → Array Value → State → State → Prop} (K : ∀ τ : zS, zo σ τ (cutm (jD (w a) (w b) k (M a) (M b)) 4096) → zB l G w_Mo_join R_Mo c_Mo_join 10 (some .int) [] (zrm 2 60) Fin 0 0 244 [(6, .int (nI 4096)), (5, .int (nI (w a + w b - k))), (0, .ref (zad G 30)), (1, .int (nI r)), (2, .int (nI a)), (3, .int (nI b)), (4, .int (nI k))] [] τ) : ∀ (d i : Nat) (τ : zS), i + d = 4096 → zo σ τ (cutm (jD (w a) (w b) k (M a) (M b)) i) → zB l G w_Mo_join R_Mo c_Mo_join 10 (some .int) [] (zrm 2 60) Fin 0 0 99 [(6, .int (nI i)), (5, .int (nI (w a + w b - k))), (0, .ref (zad G 30)), (1, .int (nI r)), (2, .int (nI a)), (3, .int (nI b)), (4, .int (nI k))] [] τ := by
  intro d
  induction d with
  | zero =>
    intro i τ hi hz
    have e : i = 4096 := by omega
    refine zb_iload d_Mo_join_99 rfl ?_
    refine zb_sipush (v := 4096) d_Mo_join_101 rfl ?_
    refine zb_icmp_ge (tgt := 244) d_Mo_join_104 rfl (fun h104 => ?_) (fun h104 => absurd (nI_le (a := 4096) (b := i) (by omega) (by omega)) h104)
    refine zb_sub [0, 1, 2, 3, 4, 5, 6] rfl ?_
    rw [e] at hz ⊢
    exact K τ hz
  | succ d ih =>
    intro i τ hi hz
    have hlt : i < 4096 := by omega
    have ho := hj
    unfold jok at ho
    have hxx : (jx (w a) i) < 4096 := by rw [← jxp_e hlt ho.1 ho.2.1]; exact jxp_lt _ _
    have hyy : (jy (w a) k i) < 4096 := Nat.mod_lt _ (by decide)
    refine zb_iload d_Mo_join_99 rfl ?_
    refine zb_sipush (v := 4096) d_Mo_join_101 rfl ?_
    refine zb_icmp_ge (tgt := 244) d_Mo_join_104 rfl (fun h104 => absurd h104 (nI_ge (a := i) (b := 4096) (by omega) (by omega))) (fun h104 => ?_)
    refine zb_iload d_Mo_join_107 rfl ?_
    refine zb_iload d_Mo_join_109 rfl ?_
    by_cases hd : i % 2 ^ (12 - 4 * (w a + w b - k)) = 0
    · refine zb_callS (rest := []) (c_mT_y l G (show 1 ≤ w a + w b - k by omega) ho.2.2.2.2.2.2 hlt hd) (lk_Mo_44.cw rfl rfl ⟨Nat.le_of_ble_eq_true rfl, Nat.le_of_ble_eq_true rfl⟩) rfl rfl (Nat.le_of_ble_eq_true rfl) d_Mo_join_111 ⟨Nat.le_of_ble_eq_true rfl, Nat.le_of_ble_eq_true rfl⟩ ?_
      rintro _ _ ⟨rfl, rfl⟩
      refine zb_st (st' := [.int 1]) rfl ?_
      refine zb_if_ne (tgt := 120) d_Mo_join_114 rfl (fun h114 => ?_) (fun h114 => absurd h114 (by decide))
      refine zb_iconst (v := 0) d_Mo_join_120 rfl ?_
      refine zb_istore (lv' := [(7, .int 0), (6, .int (nI i)), (5, .int (nI (w a + w b - k))), (0, .ref (zad G 30)), (1, .int (nI r)), (2, .int (nI a)), (3, .int (nI b)), (4, .int (nI k))]) d_Mo_join_121 (by decide) rfl ?_
      refine zb_iconst (v := 0) d_Mo_join_123 rfl ?_
      refine zb_istore (lv' := [(8, .int 0), (7, .int 0), (6, .int (nI i)), (5, .int (nI (w a + w b - k))), (0, .ref (zad G 30)), (1, .int (nI r)), (2, .int (nI a)), (3, .int (nI b)), (4, .int (nI k))]) d_Mo_join_124 (by decide) rfl ?_
      refine zb_iconst (v := 0) d_Mo_join_126 rfl ?_
      refine zb_istore (lv' := [(9, .int 0), (8, .int 0), (7, .int 0), (6, .int (nI i)), (5, .int (nI (w a + w b - k))), (0, .ref (zad G 30)), (1, .int (nI r)), (2, .int (nI a)), (3, .int (nI b)), (4, .int (nI k))]) d_Mo_join_127 (by decide) rfl ?_
      refine zb_lv (lv' := [(9, .int (nI 0)), (8, .int (nI 0)), (7, .int (nI (jxp i 0))), (6, .int (nI i)), (5, .int (nI (w a + w b - k))), (0, .ref (zad G 30)), (1, .int (nI r)), (2, .int (nI a)), (3, .int (nI b)), (4, .int (nI k))]) rfl ?_
      refine zb_sub [0, 2, 1, 3, 4, 5, 6, 7, 8, 9] rfl ?_
      refine lp_mjoin1 l G (hz.mw hm) ha hlt ho.2.1 ?_ (w a) 0 (by omega)
      refine zb_iconst (v := 0) d_Mo_join_166 rfl ?_
      refine zb_istore (lv' := [(9, .int 0), (7, .int (nI (jxp i (w a)))), (8, .int (nI 0)), (6, .int (nI i)), (5, .int (nI (w a + w b - k))), (0, .ref (zad G 30)), (1, .int (nI r)), (2, .int (nI a)), (3, .int (nI b)), (4, .int (nI k))]) d_Mo_join_167 (by decide) rfl ?_
      refine zb_lv (lv' := [(9, .int (nI 0)), (7, .int (nI (jxp i (w a)))), (8, .int (nI (jyp i (w a - k) 0))), (6, .int (nI i)), (5, .int (nI (w a + w b - k))), (0, .ref (zad G 30)), (1, .int (nI r)), (2, .int (nI a)), (3, .int (nI b)), (4, .int (nI k))]) rfl ?_
      refine zb_sub [0, 2, 1, 3, 4, 5, 6, 7, 8, 9] rfl ?_
      refine lp_mjoin2 l G (hz.mw hm) ha hb hlt hj ?_ (w b) 0 (by omega)
      refine zb_lv (lv' := [(9, .int (nI (w b))), (8, .int (nI (jy (w a) k i))), (7, .int (nI (jx (w a) i))), (6, .int (nI i)), (5, .int (nI (w a + w b - k))), (0, .ref (zad G 30)), (1, .int (nI r)), (2, .int (nI a)), (3, .int (nI b)), (4, .int (nI k))]) (by rw [jxp_e hlt ho.1 ho.2.1, jyp_e hj hlt hd]) ?_
      refine zb_aload_n d_Mo_join_216 rfl rfl ?_
      refine zm_made d_Mo_join_217 fl_Mo_21 ?_
      refine zb_iload d_Mo_join_220 rfl ?_
      refine zb_aload_n d_Mo_join_222 rfl rfl ?_
      refine zb_iload_n d_Mo_join_223 rfl rfl ?_
      refine zb_iload d_Mo_join_224 rfl ?_
      refine zb_callV (rest := [.int (nI i), .ref (zad G 33)]) (c_of l G (hz.mw hm) ha hxx) (lk_Mo_48.cw rfl rfl ⟨Nat.le_of_ble_eq_true rfl, Nat.le_of_ble_eq_true rfl⟩) zgM rfl rfl rfl rfl (Nat.le_of_ble_eq_true rfl) d_Mo_join_226 ⟨Nat.le_of_ble_eq_true rfl, Nat.le_of_ble_eq_true rfl⟩ ?_
      rintro _ _ ⟨rfl, rfl⟩
      refine zb_st (st' := [.int (M a (jx (w a) i)), .int (nI i), .ref (zad G 33)]) rfl ?_
      refine zb_aload_n d_Mo_join_229 rfl rfl ?_
      refine zb_iload_n d_Mo_join_230 rfl rfl ?_
      refine zb_iload d_Mo_join_231 rfl ?_
      refine zb_callV (rest := [.int (M a (jx (w a) i)), .int (nI i), .ref (zad G 33)]) (c_of l G (hz.mw hm) hb hyy) (lk_Mo_48.cw rfl rfl ⟨Nat.le_of_ble_eq_true rfl, Nat.le_of_ble_eq_true rfl⟩) zgM rfl rfl rfl rfl (Nat.le_of_ble_eq_true rfl) d_Mo_join_233 ⟨Nat.le_of_ble_eq_true rfl, Nat.le_of_ble_eq_true rfl⟩ ?_
      rintro _ _ ⟨rfl, rfl⟩
      refine zb_st (st' := [.int (M b (jy (w a) k i)), .int (M a (jx (w a) i)), .int (nI i), .ref (zad G 33)]) rfl ?_
      refine zb_imul d_Mo_join_236 ?_
      refine zb_top (y := (jD (w a) (w b) k (M a) (M b)) i) ((if_pos ⟨hlt, hd⟩).symm) ?_
      refine zb_iastN (q := 33) (j := i) d_Mo_join_237 (ia33) (show i < 4096 from hlt) ?_
      refine zb_iinc (v := nI (i + 1)) (lv' := [(6, .int (nI (i + 1))), (9, .int (nI (w b))), (8, .int (nI (jy (w a) k i))), (7, .int (nI (jx (w a) i))), (5, .int (nI (w a + w b - k))), (0, .ref (zad G 30)), (1, .int (nI r)), (2, .int (nI a)), (3, .int (nI b)), (4, .int (nI k))]) d_Mo_join_238 rfl (nI_1 i) (by decide) rfl ?_
      refine zb_goto (tgt := 99) d_Mo_join_241 rfl ?_
      refine zb_sub [0, 4, 5, 6, 7, 8, 9] rfl ?_
      exact ih (i + 1) _ (by omega) (cut_s (jD (w a) (w b) k (M a) (M b)) i ▸ zo_s hz i _)
    · refine zb_callS (rest := []) (c_mT_d l G (show 1 ≤ w a + w b - k by omega) ho.2.2.2.2.2.2 hlt hd) (lk_Mo_44.cw rfl rfl ⟨Nat.le_of_ble_eq_true rfl, Nat.le_of_ble_eq_true rfl⟩) rfl rfl (Nat.le_of_ble_eq_true rfl) d_Mo_join_111 ⟨Nat.le_of_ble_eq_true rfl, Nat.le_of_ble_eq_true rfl⟩ ?_
      rintro _ _ ⟨rfl, rfl⟩
      refine zb_st (st' := [.int 0]) rfl ?_
      refine zb_if_ne (tgt := 120) d_Mo_join_114 rfl (fun h114 => absurd h114 (fun z => z rfl)) (fun h114 => ?_)
      refine zb_goto (tgt := 238) d_Mo_join_117 rfl ?_
      refine zb_iinc (v := nI (i + 1)) (lv' := [(6, .int (nI (i + 1))), (5, .int (nI (w a + w b - k))), (0, .ref (zad G 30)), (1, .int (nI r)), (2, .int (nI a)), (3, .int (nI b)), (4, .int (nI k))]) d_Mo_join_238 rfl (nI_1 i) (by decide) rfl ?_
      refine zb_goto (tgt := 99) d_Mo_join_241 rfl ?_
      refine zb_sub [0, 1, 2, 3, 4, 5, 6] rfl ?_
      exact ih (i + 1) _ (by omega) (cut_n (D := (jD (w a) (w b) k (M a) (M b))) (if_neg (fun z => hd z.2)) ▸ hz)
set_option maxHeartbeats 4000000 in
set_option maxRecDepth 100000 in
theorem c_mjoin (l : Launch) (G : zG) {σ : zS} {r a b k : Nat} {M : Nat → Nat → Int32} {w : Nat → Nat} (hm : zmw σ M w) (hr : r < 8) (ha : a < 8) (hb : b < 8) (hj : jok (w a) (w b) k) (hn : zct (jD (w a) (w b) k (M a) (M b)) 4096 ≤ 300) : zC l G y_Mo_join w_Mo_join (zrm 2 60) 0 0 [.ref (zad G 30), .int (nI r), .int (nI a), .int (nI b), .int (nI k)] σ (fun o9 σ' => o9 = some (.int (nI (zct (jD (w a) (w b) k (M a) (M b)) 4096))) ∧ σ'.1 30 0 = 0 ∧ zmw σ' (uM M r (jD (w a) (w b) k (M a) (M b))) (uM w r (w a + w b - k)) ∧ zj σ σ') := by
  refine zC_of (cc := c_Mo_join) (nL := 10) (ret := (some .int)) (own := R_Mo) (by decide +kernel) rfl rfl (Nat.le_of_ble_eq_true rfl) ?_
  refine zb_lv (lv' := [(0, .ref (zad G 30)), (1, .int (nI r)), (2, .int (nI a)), (3, .int (nI b)), (4, .int (nI k))]) rfl ?_
  refine zb_aload_n d_Mo_join_0 rfl rfl ?_
  refine zb_iload_n d_Mo_join_1 rfl rfl ?_
  refine zb_callV (rest := []) (c_none_n l G hr) (lk_Mo_36.cw rfl rfl ⟨Nat.le_of_ble_eq_true rfl, Nat.le_of_ble_eq_true rfl⟩) zgM rfl rfl rfl rfl (Nat.le_of_ble_eq_true rfl) d_Mo_join_2 ⟨Nat.le_of_ble_eq_true rfl, Nat.le_of_ble_eq_true rfl⟩ ?_
  rintro _ _ ⟨rfl, y1⟩
  rename_i σ1
  have z1 : zt σ σ1 0 := y1
  refine zb_st (st' := [.int 0]) rfl ?_
  refine zb_if_ne (tgt := 24) d_Mo_join_5 rfl (fun h5 => absurd h5 (fun z => z rfl)) (fun h5 => ?_)
  refine zb_aload_n d_Mo_join_8 rfl rfl ?_
  refine zb_iload_n d_Mo_join_9 rfl rfl ?_
  refine zb_callV (rest := []) (c_none_n l G ha) (lk_Mo_36.cw rfl rfl ⟨Nat.le_of_ble_eq_true rfl, Nat.le_of_ble_eq_true rfl⟩) zgM rfl rfl rfl rfl (Nat.le_of_ble_eq_true rfl) d_Mo_join_10 ⟨Nat.le_of_ble_eq_true rfl, Nat.le_of_ble_eq_true rfl⟩ ?_
  rintro _ _ ⟨rfl, y2⟩
  rename_i σ2
  have z2 : zt σ σ2 0 := z1.tr y2
  refine zb_st (st' := [.int 0]) rfl ?_
  refine zb_if_ne (tgt := 24) d_Mo_join_13 rfl (fun h13 => absurd h13 (fun z => z rfl)) (fun h13 => ?_)
  refine zb_aload_n d_Mo_join_16 rfl rfl ?_
  refine zb_iload_n d_Mo_join_17 rfl rfl ?_
  refine zb_callV (rest := []) (c_none_n l G hb) (lk_Mo_36.cw rfl rfl ⟨Nat.le_of_ble_eq_true rfl, Nat.le_of_ble_eq_true rfl⟩) zgM rfl rfl rfl rfl (Nat.le_of_ble_eq_true rfl) d_Mo_join_18 ⟨Nat.le_of_ble_eq_true rfl, Nat.le_of_ble_eq_true rfl⟩ ?_
  rintro _ _ ⟨rfl, y3⟩
  rename_i σ3
  have z3 : zt σ σ3 0 := z2.tr y3
  refine zb_st (st' := [.int 0]) rfl ?_
  refine zb_if_eq (tgt := 26) d_Mo_join_21 rfl (fun h21 => ?_) (fun h21 => absurd rfl h21)
  have ho := hj
  unfold jok at ho
  refine zb_aload_n d_Mo_join_26 rfl rfl ?_
  refine zm_width d_Mo_join_27 fl_Mo_13 ?_
  refine zb_iload_n d_Mo_join_30 rfl rfl ?_
  refine zb_ialdN (q := 31) (j := a) d_Mo_join_31 (ia31) (show a < 8 from ha) ?_
  refine zb_top (y := nI (w a)) ((z3.mw hm).1 a ha) ?_
  refine zb_aload_n d_Mo_join_32 rfl rfl ?_
  refine zm_width d_Mo_join_33 fl_Mo_13 ?_
  refine zb_iload_n d_Mo_join_36 rfl rfl ?_
  refine zb_ialdN (q := 31) (j := b) d_Mo_join_37 (ia31) (show b < 8 from hb) ?_
  refine zb_top (y := nI (w b)) ((z3.mw hm).1 b hb) ?_
  refine zb_iadd d_Mo_join_38 ?_
  refine zb_top (y := nI (w a + w b)) (nI_add _ _) ?_
  refine zb_iload d_Mo_join_39 rfl ?_
  refine zb_isub d_Mo_join_41 ?_
  refine zb_top (y := nI (w a + w b - k)) (pk_sub (by omega)) ?_
  refine zb_istore (lv' := [(5, .int (nI (w a + w b - k))), (0, .ref (zad G 30)), (1, .int (nI r)), (2, .int (nI a)), (3, .int (nI b)), (4, .int (nI k))]) d_Mo_join_42 (by decide) rfl ?_
  refine zb_aload_n d_Mo_join_44 rfl rfl ?_
  refine zb_iconst (v := 2) d_Mo_join_45 rfl ?_
  refine zb_iload d_Mo_join_46 rfl ?_
  refine zb_if_lt (tgt := 79) d_Mo_join_48 rfl (fun h48 => absurd h48 (nI_pos (by omega))) (fun h48 => ?_)
  refine zb_iload d_Mo_join_51 rfl ?_
  refine zb_aload_n d_Mo_join_53 rfl rfl ?_
  refine zm_width d_Mo_join_54 fl_Mo_13 ?_
  refine zb_iload_n d_Mo_join_57 rfl rfl ?_
  refine zb_ialdN (q := 31) (j := a) d_Mo_join_58 (ia31) (show a < 8 from ha) ?_
  refine zb_top (y := nI (w a)) ((z3.mw hm).1 a ha) ?_
  refine zb_icmp_gt (tgt := 79) d_Mo_join_59 rfl (fun h59 => absurd h59 (nI_nlt ho.2.2.2.2.1 (by omega))) (fun h59 => ?_)
  refine zb_iload d_Mo_join_62 rfl ?_
  refine zb_aload_n d_Mo_join_64 rfl rfl ?_
  refine zm_width d_Mo_join_65 fl_Mo_13 ?_
  refine zb_iload_n d_Mo_join_68 rfl rfl ?_
  refine zb_ialdN (q := 31) (j := b) d_Mo_join_69 (ia31) (show b < 8 from hb) ?_
  refine zb_top (y := nI (w b)) ((z3.mw hm).1 b hb) ?_
  refine zb_icmp_gt (tgt := 79) d_Mo_join_70 rfl (fun h70 => absurd h70 (nI_nlt ho.2.2.2.2.2.1 (by omega))) (fun h70 => ?_)
  refine zb_iload d_Mo_join_73 rfl ?_
  refine zb_iconst (v := 3) d_Mo_join_75 rfl ?_
  refine zb_icmp_le (tgt := 83) d_Mo_join_76 rfl (fun h76 => ?_) (fun h76 => absurd (nI_le (b := 3) ho.2.2.2.2.2.2 (by decide)) h76)
  refine zb_iconst (v := 0) d_Mo_join_83 rfl ?_
  refine zb_callV (rest := []) (c_refuse_n l G) (lk_Mo_28.cw rfl rfl ⟨Nat.le_of_ble_eq_true rfl, Nat.le_of_ble_eq_true rfl⟩) zgM rfl rfl rfl rfl (Nat.le_of_ble_eq_true rfl) d_Mo_join_84 ⟨Nat.le_of_ble_eq_true rfl, Nat.le_of_ble_eq_true rfl⟩ ?_
  rintro _ _ ⟨rfl, rfl⟩
  refine zb_st (st' := [.int 0]) rfl ?_
  refine zb_if_eq (tgt := 92) d_Mo_join_87 rfl (fun h87 => ?_) (fun h87 => absurd rfl h87)
  refine zb_aload_n d_Mo_join_92 rfl rfl ?_
  refine zb_callV (rest := []) (c_begin l G) (lk_Mo_52.cw rfl rfl ⟨Nat.le_of_ble_eq_true rfl, Nat.le_of_ble_eq_true rfl⟩) zgM rfl rfl rfl rfl (Nat.le_of_ble_eq_true rfl) d_Mo_join_93 ⟨Nat.le_of_ble_eq_true rfl, Nat.le_of_ble_eq_true rfl⟩ ?_
  rintro _ _ ⟨rfl, hb0⟩
  rename_i σb
  have hmk := z3.mw hm
  refine zb_st (st' := []) rfl ?_
  refine zb_iconst (v := 0) d_Mo_join_96 rfl ?_
  refine zb_istore (lv' := [(6, .int 0), (5, .int (nI (w a + w b - k))), (0, .ref (zad G 30)), (1, .int (nI r)), (2, .int (nI a)), (3, .int (nI b)), (4, .int (nI k))]) d_Mo_join_97 (by decide) rfl ?_
  refine zb_lv (lv' := [(6, .int (nI 0)), (5, .int (nI (w a + w b - k))), (0, .ref (zad G 30)), (1, .int (nI r)), (2, .int (nI a)), (3, .int (nI b)), (4, .int (nI k))]) rfl ?_
  refine zb_sub [0, 1, 2, 3, 4, 5, 6] rfl ?_
  refine lp_mjoin l G hmk ha hb hj (fun τ hz => ?_) 4096 0 _ rfl (hb0)
  have hz := zo_cut hz
  refine zb_aload_n d_Mo_join_244 rfl rfl ?_
  refine zb_iload_n d_Mo_join_245 rfl rfl ?_
  refine zb_iload d_Mo_join_246 rfl ?_
  refine zb_iconst (v := 3) d_Mo_join_248 rfl ?_
  refine zb_callV (rest := []) (c_keep_y l G (D := (jD (w a) (w b) k (M a) (M b))) (u := w a + w b - k) (hz.mw hmk) hr hz.1 hn) (lk_Mo_58.cw rfl rfl ⟨Nat.le_of_ble_eq_true rfl, Nat.le_of_ble_eq_true rfl⟩) zgM rfl rfl rfl rfl (Nat.le_of_ble_eq_true rfl) d_Mo_join_249 ⟨Nat.le_of_ble_eq_true rfl, Nat.le_of_ble_eq_true rfl⟩ ?_
  rintro _ _ ⟨rfl, k1, k2, k3⟩
  rename_i σ9
  refine zb_st (st' := [.int (nI (zct (jD (w a) (w b) k (M a) (M b)) 4096))]) rfl ?_
  exact zb_iret d_Mo_join_252 rfl ⟨rfl, (fin_y z3 hz ⟨k2, k3⟩).1, k1, (fin_y z3 hz ⟨k2, k3⟩).2⟩
set_option maxHeartbeats 4000000 in
set_option maxRecDepth 100000 in
theorem c_mjoin_is (l : Launch) (G : zG) {σ : zS} {r a b k : Nat} {M : Nat → Nat → Int32} {w : Nat → Nat} (hm : zmw σ M w) (hr : r < 8) (ha : a < 8) (hb : b < 8) (hj : jok (w a) (w b) k) (hn : 300 < zct (jD (w a) (w b) k (M a) (M b)) 4096) : zC l G y_Mo_join w_Mo_join (zrm 2 60) 0 0 [.ref (zad G 30), .int (nI r), .int (nI a), .int (nI b), .int (nI k)] σ (fun o9 σ' => o9 = some (.int 0) ∧ σ'.1 30 0 = 3 ∧ zmw σ' M w ∧ zj σ σ') := by
  refine zC_of (cc := c_Mo_join) (nL := 10) (ret := (some .int)) (own := R_Mo) (by decide +kernel) rfl rfl (Nat.le_of_ble_eq_true rfl) ?_
  refine zb_lv (lv' := [(0, .ref (zad G 30)), (1, .int (nI r)), (2, .int (nI a)), (3, .int (nI b)), (4, .int (nI k))]) rfl ?_
  refine zb_aload_n d_Mo_join_0 rfl rfl ?_
  refine zb_iload_n d_Mo_join_1 rfl rfl ?_
  refine zb_callV (rest := []) (c_none_n l G hr) (lk_Mo_36.cw rfl rfl ⟨Nat.le_of_ble_eq_true rfl, Nat.le_of_ble_eq_true rfl⟩) zgM rfl rfl rfl rfl (Nat.le_of_ble_eq_true rfl) d_Mo_join_2 ⟨Nat.le_of_ble_eq_true rfl, Nat.le_of_ble_eq_true rfl⟩ ?_
  rintro _ _ ⟨rfl, y1⟩
  rename_i σ1
  have z1 : zt σ σ1 0 := y1
  refine zb_st (st' := [.int 0]) rfl ?_
  refine zb_if_ne (tgt := 24) d_Mo_join_5 rfl (fun h5 => absurd h5 (fun z => z rfl)) (fun h5 => ?_)
  refine zb_aload_n d_Mo_join_8 rfl rfl ?_
  refine zb_iload_n d_Mo_join_9 rfl rfl ?_
  refine zb_callV (rest := []) (c_none_n l G ha) (lk_Mo_36.cw rfl rfl ⟨Nat.le_of_ble_eq_true rfl, Nat.le_of_ble_eq_true rfl⟩) zgM rfl rfl rfl rfl (Nat.le_of_ble_eq_true rfl) d_Mo_join_10 ⟨Nat.le_of_ble_eq_true rfl, Nat.le_of_ble_eq_true rfl⟩ ?_
  rintro _ _ ⟨rfl, y2⟩
  rename_i σ2
  have z2 : zt σ σ2 0 := z1.tr y2
  refine zb_st (st' := [.int 0]) rfl ?_
  refine zb_if_ne (tgt := 24) d_Mo_join_13 rfl (fun h13 => absurd h13 (fun z => z rfl)) (fun h13 => ?_)
  refine zb_aload_n d_Mo_join_16 rfl rfl ?_
  refine zb_iload_n d_Mo_join_17 rfl rfl ?_
  refine zb_callV (rest := []) (c_none_n l G hb) (lk_Mo_36.cw rfl rfl ⟨Nat.le_of_ble_eq_true rfl, Nat.le_of_ble_eq_true rfl⟩) zgM rfl rfl rfl rfl (Nat.le_of_ble_eq_true rfl) d_Mo_join_18 ⟨Nat.le_of_ble_eq_true rfl, Nat.le_of_ble_eq_true rfl⟩ ?_
  rintro _ _ ⟨rfl, y3⟩
  rename_i σ3
  have z3 : zt σ σ3 0 := z2.tr y3
  refine zb_st (st' := [.int 0]) rfl ?_
  refine zb_if_eq (tgt := 26) d_Mo_join_21 rfl (fun h21 => ?_) (fun h21 => absurd rfl h21)
  have ho := hj
  unfold jok at ho
  refine zb_aload_n d_Mo_join_26 rfl rfl ?_
  refine zm_width d_Mo_join_27 fl_Mo_13 ?_
  refine zb_iload_n d_Mo_join_30 rfl rfl ?_
  refine zb_ialdN (q := 31) (j := a) d_Mo_join_31 (ia31) (show a < 8 from ha) ?_
  refine zb_top (y := nI (w a)) ((z3.mw hm).1 a ha) ?_
  refine zb_aload_n d_Mo_join_32 rfl rfl ?_
  refine zm_width d_Mo_join_33 fl_Mo_13 ?_
  refine zb_iload_n d_Mo_join_36 rfl rfl ?_
  refine zb_ialdN (q := 31) (j := b) d_Mo_join_37 (ia31) (show b < 8 from hb) ?_
  refine zb_top (y := nI (w b)) ((z3.mw hm).1 b hb) ?_
  refine zb_iadd d_Mo_join_38 ?_
  refine zb_top (y := nI (w a + w b)) (nI_add _ _) ?_
  refine zb_iload d_Mo_join_39 rfl ?_
  refine zb_isub d_Mo_join_41 ?_
  refine zb_top (y := nI (w a + w b - k)) (pk_sub (by omega)) ?_
  refine zb_istore (lv' := [(5, .int (nI (w a + w b - k))), (0, .ref (zad G 30)), (1, .int (nI r)), (2, .int (nI a)), (3, .int (nI b)), (4, .int (nI k))]) d_Mo_join_42 (by decide) rfl ?_
  refine zb_aload_n d_Mo_join_44 rfl rfl ?_
  refine zb_iconst (v := 2) d_Mo_join_45 rfl ?_
  refine zb_iload d_Mo_join_46 rfl ?_
  refine zb_if_lt (tgt := 79) d_Mo_join_48 rfl (fun h48 => absurd h48 (nI_pos (by omega))) (fun h48 => ?_)
  refine zb_iload d_Mo_join_51 rfl ?_
  refine zb_aload_n d_Mo_join_53 rfl rfl ?_
  refine zm_width d_Mo_join_54 fl_Mo_13 ?_
  refine zb_iload_n d_Mo_join_57 rfl rfl ?_
  refine zb_ialdN (q := 31) (j := a) d_Mo_join_58 (ia31) (show a < 8 from ha) ?_
  refine zb_top (y := nI (w a)) ((z3.mw hm).1 a ha) ?_
  refine zb_icmp_gt (tgt := 79) d_Mo_join_59 rfl (fun h59 => absurd h59 (nI_nlt ho.2.2.2.2.1 (by omega))) (fun h59 => ?_)
  refine zb_iload d_Mo_join_62 rfl ?_
  refine zb_aload_n d_Mo_join_64 rfl rfl ?_
  refine zm_width d_Mo_join_65 fl_Mo_13 ?_
  refine zb_iload_n d_Mo_join_68 rfl rfl ?_
  refine zb_ialdN (q := 31) (j := b) d_Mo_join_69 (ia31) (show b < 8 from hb) ?_
  refine zb_top (y := nI (w b)) ((z3.mw hm).1 b hb) ?_
  refine zb_icmp_gt (tgt := 79) d_Mo_join_70 rfl (fun h70 => absurd h70 (nI_nlt ho.2.2.2.2.2.1 (by omega))) (fun h70 => ?_)
  refine zb_iload d_Mo_join_73 rfl ?_
  refine zb_iconst (v := 3) d_Mo_join_75 rfl ?_
  refine zb_icmp_le (tgt := 83) d_Mo_join_76 rfl (fun h76 => ?_) (fun h76 => absurd (nI_le (b := 3) ho.2.2.2.2.2.2 (by decide)) h76)
  refine zb_iconst (v := 0) d_Mo_join_83 rfl ?_
  refine zb_callV (rest := []) (c_refuse_n l G) (lk_Mo_28.cw rfl rfl ⟨Nat.le_of_ble_eq_true rfl, Nat.le_of_ble_eq_true rfl⟩) zgM rfl rfl rfl rfl (Nat.le_of_ble_eq_true rfl) d_Mo_join_84 ⟨Nat.le_of_ble_eq_true rfl, Nat.le_of_ble_eq_true rfl⟩ ?_
  rintro _ _ ⟨rfl, rfl⟩
  refine zb_st (st' := [.int 0]) rfl ?_
  refine zb_if_eq (tgt := 92) d_Mo_join_87 rfl (fun h87 => ?_) (fun h87 => absurd rfl h87)
  refine zb_aload_n d_Mo_join_92 rfl rfl ?_
  refine zb_callV (rest := []) (c_begin l G) (lk_Mo_52.cw rfl rfl ⟨Nat.le_of_ble_eq_true rfl, Nat.le_of_ble_eq_true rfl⟩) zgM rfl rfl rfl rfl (Nat.le_of_ble_eq_true rfl) d_Mo_join_93 ⟨Nat.le_of_ble_eq_true rfl, Nat.le_of_ble_eq_true rfl⟩ ?_
  rintro _ _ ⟨rfl, hb0⟩
  rename_i σb
  have hmk := z3.mw hm
  refine zb_st (st' := []) rfl ?_
  refine zb_iconst (v := 0) d_Mo_join_96 rfl ?_
  refine zb_istore (lv' := [(6, .int 0), (5, .int (nI (w a + w b - k))), (0, .ref (zad G 30)), (1, .int (nI r)), (2, .int (nI a)), (3, .int (nI b)), (4, .int (nI k))]) d_Mo_join_97 (by decide) rfl ?_
  refine zb_lv (lv' := [(6, .int (nI 0)), (5, .int (nI (w a + w b - k))), (0, .ref (zad G 30)), (1, .int (nI r)), (2, .int (nI a)), (3, .int (nI b)), (4, .int (nI k))]) rfl ?_
  refine zb_sub [0, 1, 2, 3, 4, 5, 6] rfl ?_
  refine lp_mjoin l G hmk ha hb hj (fun τ hz => ?_) 4096 0 _ rfl (hb0)
  have hz := zo_cut hz
  refine zb_aload_n d_Mo_join_244 rfl rfl ?_
  refine zb_iload_n d_Mo_join_245 rfl rfl ?_
  refine zb_iload d_Mo_join_246 rfl ?_
  refine zb_iconst (v := 3) d_Mo_join_248 rfl ?_
  refine zb_callV (rest := []) (c_keep_n l G (D := (jD (w a) (w b) k (M a) (M b))) (r := r) (u := w a + w b - k) hz.1 hn) (lk_Mo_58.cw rfl rfl ⟨Nat.le_of_ble_eq_true rfl, Nat.le_of_ble_eq_true rfl⟩) zgM rfl rfl rfl rfl (Nat.le_of_ble_eq_true rfl) d_Mo_join_249 ⟨Nat.le_of_ble_eq_true rfl, Nat.le_of_ble_eq_true rfl⟩ ?_
  rintro _ _ ⟨rfl, k1⟩
  rename_i σ9
  refine zb_st (st' := [.int 0]) rfl ?_
  exact zb_iret d_Mo_join_252 rfl ⟨rfl, fin_n z3 hz k1 hmk⟩
