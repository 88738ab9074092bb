/-- what reach makes of k pairs of numbers -/
def gm (R : Nat → Nat) (k t : Nat) : Int32 := if t % 16 = 0 ∧ t < 4096 ∧ t / 16 < k ∧ (R (t / 256)).testBit (t / 16 % 16) = true then 1 else 0
theorem gm_e {R : Nat → Nat} {k t : Nat} (e : t ≠ 16 * k) : gm R k t = gm R (k + 1) t := by
  unfold gm
  by_cases c : t % 16 = 0 ∧ t < 4096 ∧ t / 16 < k ∧ (R (t / 256)).testBit (t / 16 % 16) = true
  · rw [if_pos c, if_pos ⟨c.1, c.2.1, by omega, c.2.2.2⟩]
  · rw [if_neg c, if_neg (fun z => c ⟨z.1, z.2.1, by omega, z.2.2.2⟩)]
theorem gm_k (R : Nat → Nat) (k : Nat) : gm R k (16 * k) = 0 := if_neg (fun z => by omega)
theorem gm_y {R : Nat → Nat} {x y : Nat} (hx : x < 16) (hy : y < 16) (h : (R x).testBit y = true) : upd (gm R (16 * x + y)) (16 * (16 * x + y)) (gm R (16 * x + y) (16 * (16 * x + y)) + 1) = gm R (16 * x + y + 1) := by
  funext t
  by_cases e : t = 16 * (16 * x + y)
  · rw [e, pk_us, gm_k]
    refine Eq.trans (by decide : (0 : Int32) + 1 = 1) (if_pos ⟨by omega, by omega, by omega, ?_⟩).symm
    rw [show 16 * (16 * x + y) / 256 = x by omega, show 16 * (16 * x + y) / 16 % 16 = y by omega]
    exact h
  · rw [pk_un e]; exact gm_e e
theorem gm_n {R : Nat → Nat} {x y : Nat} (hy : y < 16) (h : ¬ (R x).testBit y = true) : gm R (16 * x + y) = gm R (16 * x + y + 1) := by
  funext t
  by_cases e : t = 16 * (16 * x + y)
  · rw [e, gm_k]
    refine (if_neg (fun z => h ?_)).symm
    have z4 := z.2.2.2
    rw [show 16 * (16 * x + y) / 256 = x by omega, show 16 * (16 * x + y) / 16 % 16 = y by omega] at z4
    exact z4
  · exact gm_e e
theorem or_xy : ∀ x, x < 16 → ∀ y, y < 16 → wn x 0 ||| wn y 1 = 16 * (16 * x + y) := by decide +kernel
/-- what reach makes: a tuple of two numbers has the count 1 where the second can be reached from the first -/
def zrch (m D : Nat → Int32) : Prop := ∀ t, (D t = 1 ∧ t % 16 = 0 ∧ t < 4096 ∧ ws (fun x y => m (256 * x + 16 * y) ≠ 0) 16 (t / 256) (t / 16 % 16)) ∨ (D t = 0 ∧ ¬ (t % 16 = 0 ∧ t < 4096 ∧ ws (fun x y => m (256 * x + 16 * y) ≠ 0) 16 (t / 256) (t / 16 % 16)))
theorem gm_rch {R : Nat → Nat} {m : Nat → Int32} (hI : ∀ x y, x < 16 → y < 16 → ((R x).testBit y = true ↔ ws (fun x y => m (256 * x + 16 * y) ≠ 0) 16 x y)) : zrch m (gm R 256) := by
  intro t
  unfold gm
  by_cases c : t % 16 = 0 ∧ t < 4096 ∧ t / 16 < 256 ∧ (R (t / 256)).testBit (t / 16 % 16) = true
  · refine Or.inl ⟨if_pos c, c.1, c.2.1, (hI _ _ (by omega) (by omega)).mp c.2.2.2⟩
  · refine Or.inr ⟨if_neg c, fun z => c ⟨z.1, z.2.1, by omega, (hI _ _ (by omega) (by omega)).mpr z.2.2⟩⟩
theorem st_iff {T C m : Nat → Int32} {n : Nat} (h : zp T C n m) (hm : ∀ t, m t ≠ 0 → t % 16 = 0) {x y : Nat} (hx : x < 16) (hy : y < 16) : (∃ j, j < n ∧ nu (zN (T j)) 0 = x ∧ nu (zN (T j)) 1 = y) ↔ m (256 * x + 16 * y) ≠ 0 := by
  constructor
  · rintro ⟨j, hj, h1, h2⟩
    have a := h.2.1 j hj
    have b := h.2.2.2.1 j hj
    have c : m (zN (T j)) ≠ 0 := by rw [b.2]; exact b.1
    have d := hm _ c
    have e : zN (T j) = 256 * x + 16 * y := by
      have h1' : zN (T j) / 256 % 16 = x := h1
      have h2' : zN (T j) / 16 % 16 = y := h2
      omega
    rw [← e]; exact c
  · intro hh
    obtain ⟨i, hi, e⟩ := h.2.2.2.2 _ hh
    refine ⟨i, hi, ?_, ?_⟩
    · rw [e]; show (256 * x + 16 * y) / 256 % 16 = x; omega
    · rw [e]; show (256 * x + 16 * y) / 16 % 16 = y; omega
theorem z29.k {σ σ' : zS} (h : z29 σ σ') : zk σ σ' := ⟨fun q hq => h.1 q (by omega), h.2⟩
set_option maxHeartbeats 4000000 in
set_option maxRecDepth 100000 in
theorem lp_reach1 (l : Launch) (G : zG) {σ : zS} {s r : Nat} {ya : Int32} {q : Nat} {R : Nat → Nat} {Fin : List Frame → Array Value → State → State → Prop} (hs : zrl s) (h0 : σ.1 0 0 = nI s) (hR : zrow σ R) {x : Nat} (hx : x < 16) (K : ∀ (τ : zS) (ns : Nat), zf σ τ s → zr τ s ns (gm R (16 * x + 16)) → ns ≤ 16 * x + 16 → zB l G w_Sh_reach R_Sh c_Sh_reach 6 (some .int) [] (zrz 8 150 3) Fin 3 18 102 [(5, .int (nI 16)), (4, .int (nI x)), (0, .ref (zad G 0)), (1, .int (nI r)), (2, .int ya), (3, .ref (zad G q))] [] τ) : ∀ (k y : Nat) (τ : zS) (ns : Nat), y + k = 16 → zf σ τ s → zr τ s ns (gm R (16 * x + y)) → ns ≤ 16 * x + y → zB l G w_Sh_reach R_Sh c_Sh_reach 6 (some .int) [] (zrz 8 150 3) Fin 3 18 56 [(5, .int (nI y)), (4, .int (nI x)), (0, .ref (zad G 0)), (1, .int (nI r)), (2, .int ya), (3, .ref (zad G q))] [] τ := by
  intro k
  induction k with
  | zero =>
    intro y τ ns hi hf hz hns
    have e : y = 16 := by omega
    have z0 : (0 : Nat) ≠ s ∧ (0 : Nat) ≠ s + 1 ∧ (0 : Nat) ≠ s + 2 := by have := hs.1; omega
    have z9 : (29 : Nat) ≠ s ∧ (29 : Nat) ≠ s + 1 ∧ (29 : Nat) ≠ s + 2 := by have := hs; unfold zrl at this; omega
    have hs31 : s < 2 ^ 31 := by have := hs.lt; omega
    have e0 : τ.1 0 0 = nI s := by rw [hf.1 0 z0.1 z0.2.1 z0.2.2]; exact h0
    have e29 : τ.1 29 = σ.1 29 := hf.1 29 z9.1 z9.2.1 z9.2.2
    refine zb_iload d_Sh_reach_56 rfl ?_
    refine zb_bipush (v := 16) d_Sh_reach_58 rfl ?_
    refine zb_icmp_ge (tgt := 102) d_Sh_reach_60 rfl (fun h60 => ?_) (fun h60 => absurd (nI_le (a := 16) (b := y) (by omega) (by omega)) h60)
    refine zb_sub [0, 1, 2, 3, 4, 5] rfl ?_
    rw [e] at hz hns ⊢
    exact K τ ns hf hz hns
  | succ k ih =>
    intro y τ ns hi hf hz hns
    have hlt : y < 16 := by omega
    have z0 : (0 : Nat) ≠ s ∧ (0 : Nat) ≠ s + 1 ∧ (0 : Nat) ≠ s + 2 := by have := hs.1; omega
    have z9 : (29 : Nat) ≠ s ∧ (29 : Nat) ≠ s + 1 ∧ (29 : Nat) ≠ s + 2 := by have := hs; unfold zrl at this; omega
    have hs31 : s < 2 ^ 31 := by have := hs.lt; omega
    have e0 : τ.1 0 0 = nI s := by rw [hf.1 0 z0.1 z0.2.1 z0.2.2]; exact h0
    have e29 : τ.1 29 = σ.1 29 := hf.1 29 z9.1 z9.2.1 z9.2.2
    refine zb_iload d_Sh_reach_56 rfl ?_
    refine zb_bipush (v := 16) d_Sh_reach_58 rfl ?_
    refine zb_icmp_ge (tgt := 102) d_Sh_reach_60 rfl (fun h60 => absurd h60 (nI_ge (a := y) (b := 16) (by omega) (by omega))) (fun h60 => ?_)
    refine zb_aload_n d_Sh_reach_63 rfl rfl ?_
    refine zb_iload d_Sh_reach_64 rfl ?_
    refine zb_iload d_Sh_reach_66 rfl ?_
    refine zb_callV (rest := []) (c_isReached l G (x := x) (y := y) (R := R) hx (by omega) (by rw [e29]; exact (hR x hx).1) (hR x hx).2) (lk_Sh_99.cw rfl rfl ⟨Nat.le_of_ble_eq_true rfl, Nat.le_of_ble_eq_true rfl⟩) zgS rfl rfl rfl rfl (Nat.le_of_ble_eq_true rfl) d_Sh_reach_68 ⟨Nat.le_of_ble_eq_true rfl, Nat.le_of_ble_eq_true rfl⟩ ?_
    rintro _ _ ⟨rfl, rfl⟩
    refine zb_st (st' := [.int (if R x / 2 ^ y % 2 = 1 then 1 else 0)]) rfl ?_
    by_cases hb : (R x).testBit y = true
    · refine zb_top (y := 1) (by rw [if_pos ((tb_div _ _).mp hb)]) ?_
      refine zb_if_eq (tgt := 96) d_Sh_reach_71 rfl (fun h71 => absurd h71 (by decide)) (fun h71 => ?_)
      refine zb_aload_n d_Sh_reach_74 rfl rfl ?_
      refine zs_spare d_Sh_reach_75 fl_Sh_16 ?_
      refine zb_st (st' := .ref (zad G s) :: []) (by rw [e0, nI_clamp hs31]) ?_
      refine zb_iload d_Sh_reach_78 rfl ?_
      refine zb_iconst (v := 0) d_Sh_reach_80 rfl ?_
      refine zb_callS (rest := [.ref (zad G s)]) (c_withNumber l G (x := x) (p := 0) hx (by decide)) (lk_Sh_102.cw rfl rfl ⟨Nat.le_of_ble_eq_true rfl, Nat.le_of_ble_eq_true rfl⟩) rfl rfl (Nat.le_of_ble_eq_true rfl) d_Sh_reach_81 ⟨Nat.le_of_ble_eq_true rfl, Nat.le_of_ble_eq_true rfl⟩ ?_
      rintro _ _ ⟨rfl, rfl⟩
      refine zb_st (st' := [.int (nI (wn x 0)), .ref (zad G s)]) rfl ?_
      refine zb_iload d_Sh_reach_84 rfl ?_
      refine zb_iconst (v := 1) d_Sh_reach_86 rfl ?_
      refine zb_callS (rest := [.int (nI (wn x 0)), .ref (zad G s)]) (c_withNumber l G (x := y) (p := 1) hlt (by decide)) (lk_Sh_102.cw rfl rfl ⟨Nat.le_of_ble_eq_true rfl, Nat.le_of_ble_eq_true rfl⟩) rfl rfl (Nat.le_of_ble_eq_true rfl) d_Sh_reach_87 ⟨Nat.le_of_ble_eq_true rfl, Nat.le_of_ble_eq_true rfl⟩ ?_
      rintro _ _ ⟨rfl, rfl⟩
      refine zb_st (st' := [.int (nI (wn y 1)), .int (nI (wn x 0)), .ref (zad G s)]) rfl ?_
      refine zb_ior d_Sh_reach_90 ?_
      refine zb_top (y := nI (16 * (16 * x + y))) (by rw [nI_or, or_xy x hx y hlt]) ?_
      refine zb_iconst (v := 1) d_Sh_reach_91 rfl ?_
      refine zb_callV (rest := []) (c_raise_y l G hz (t := 16 * (16 * x + y)) (by omega) (Or.inr (Or.inr (by omega)))) (lk_Sh_47.cw rfl rfl ⟨Nat.le_of_ble_eq_true rfl, Nat.le_of_ble_eq_true rfl⟩) (zgR hs) rfl rfl rfl rfl (Nat.le_of_ble_eq_true rfl) d_Sh_reach_92 ⟨Nat.le_of_ble_eq_true rfl, Nat.le_of_ble_eq_true rfl⟩ ?_
      rintro _ _ ⟨rfl, n2, w1, w2⟩
      rename_i τ9
      refine zb_st (st' := [.int 1]) rfl ?_
      refine zb_pop d_Sh_reach_95 rfl ?_
      refine zb_iinc (v := nI (y + 1)) (lv' := [(5, .int (nI (y + 1))), (4, .int (nI x)), (0, .ref (zad G 0)), (1, .int (nI r)), (2, .int ya), (3, .ref (zad G q))]) d_Sh_reach_96 rfl (nI_1 y) (by decide) rfl ?_
      refine zb_goto (tgt := 56) d_Sh_reach_99 rfl ?_
      refine zb_sub [0, 1, 2, 3, 4, 5] rfl ?_
      exact ih (y + 1) τ9 n2 (by omega) (hf.tr w2) (by rw [gm_y hx hlt hb] at w1; exact w1) (Nat.le_trans (zr_up hz w1) (by omega))
    · refine zb_top (y := 0) (by rw [if_neg (fun z => hb ((tb_div _ _).mpr z))]) ?_
      refine zb_if_eq (tgt := 96) d_Sh_reach_71 rfl (fun h71 => ?_) (fun h71 => absurd rfl h71)
      refine zb_iinc (v := nI (y + 1)) (lv' := [(5, .int (nI (y + 1))), (4, .int (nI x)), (0, .ref (zad G 0)), (1, .int (nI r)), (2, .int ya), (3, .ref (zad G q))]) d_Sh_reach_96 rfl (nI_1 y) (by decide) rfl ?_
      refine zb_goto (tgt := 56) d_Sh_reach_99 rfl ?_
      refine zb_sub [0, 1, 2, 3, 4, 5] rfl ?_
      exact ih (y + 1) τ ns (by omega) hf (by rw [gm_n hlt hb] at hz; exact hz) (by omega)
set_option maxHeartbeats 4000000 in
set_option maxRecDepth 100000 in
theorem lp_reach2 (l : Launch) (G : zG) {σ : zS} {s r : Nat} {ya : Int32} {q : Nat} {R : Nat → Nat} {Fin : List Frame → Array Value → State → State → Prop} (hs : zrl s) (h0 : σ.1 0 0 = nI s) (hR : zrow σ R) (K : ∀ (τ : zS) (ns : Nat), zf σ τ s → zr τ s ns (gm R (16 * 16)) → zB l G w_Sh_reach R_Sh c_Sh_reach 6 (some .int) [] (zrz 8 150 3) Fin 3 18 108 [(4, .int (nI 16)), (0, .ref (zad G 0)), (1, .int (nI r)), (2, .int ya), (3, .ref (zad G q))] [] τ) : ∀ (k x : Nat) (τ : zS) (ns : Nat), x + k = 16 → zf σ τ s → zr τ s ns (gm R (16 * x)) → ns ≤ 16 * x → zB l G w_Sh_reach R_Sh c_Sh_reach 6 (some .int) [] (zrz 8 150 3) Fin 3 18 46 [(4, .int (nI x)), (0, .ref (zad G 0)), (1, .int (nI r)), (2, .int ya), (3, .ref (zad G q))] [] τ := by
  intro k
  induction k with
  | zero =>
    intro x τ ns hi hf hz hns
    have e : x = 16 := by omega
    refine zb_iload d_Sh_reach_46 rfl ?_
    refine zb_bipush (v := 16) d_Sh_reach_48 rfl ?_
    refine zb_icmp_ge (tgt := 108) d_Sh_reach_50 rfl (fun h50 => ?_) (fun h50 => absurd (nI_le (a := 16) (b := x) (by omega) (by omega)) h50)
    refine zb_sub [0, 1, 2, 3, 4] rfl ?_
    rw [e] at hz ⊢
    exact K τ ns hf hz
  | succ k ih =>
    intro x τ ns hi hf hz hns
    have hlt : x < 16 := by omega
    refine zb_iload d_Sh_reach_46 rfl ?_
    refine zb_bipush (v := 16) d_Sh_reach_48 rfl ?_
    refine zb_icmp_ge (tgt := 108) d_Sh_reach_50 rfl (fun h50 => absurd h50 (nI_ge (a := x) (b := 16) (by omega) (by omega))) (fun h50 => ?_)
    refine zb_iconst (v := 0) d_Sh_reach_53 rfl ?_
    refine zb_istore (lv' := [(5, .int 0), (4, .int (nI x)), (0, .ref (zad G 0)), (1, .int (nI r)), (2, .int ya), (3, .ref (zad G q))]) d_Sh_reach_54 (by decide) rfl ?_
    refine zb_lv (lv' := [(5, .int (nI 0)), (4, .int (nI x)), (0, .ref (zad G 0)), (1, .int (nI r)), (2, .int ya), (3, .ref (zad G q))]) rfl ?_
    refine zb_sub [0, 1, 2, 3, 4, 5] rfl ?_
    refine lp_reach1 l G hs h0 hR hlt (fun τ2 ns2 hf2 hz2 hns2 => ?_) 16 0 τ ns rfl hf hz hns
    refine zb_iinc (v := nI (x + 1)) (lv' := [(4, .int (nI (x + 1))), (5, .int (nI 16)), (0, .ref (zad G 0)), (1, .int (nI r)), (2, .int ya), (3, .ref (zad G q))]) d_Sh_reach_102 rfl (nI_1 x) (by decide) rfl ?_
    refine zb_goto (tgt := 46) d_Sh_reach_105 rfl ?_
    refine zb_sub [0, 2, 3, 4, 5] rfl ?_
    exact ih (x + 1) τ2 ns2 (by omega) hf2 (by rw [Nat.mul_succ]; exact hz2) (by omega)
set_option maxHeartbeats 4000000 in
set_option maxRecDepth 100000 in
/-- reach(to, a) -/
theorem c_reach (l : Launch) (G : zG) {σ : zS} {x y : Int32} {M : Nat → Nat → Int32} {w : Nat → Nat} (hl : l.stackTraces = false) (hw : zwf σ M w) : zCX l G y_Sh_reach w_Sh_reach (zrz 8 150 3) 3 18 [.ref (zad G 0), .int x, .int y] σ (fun v σ' => ∃ r a : Nat, r < 8 ∧ x = nI r ∧ a < 8 ∧ y = nI a ∧ w a = 2 ∧ ∃ D : Nat → Int32, zrch (M a) D ∧ v = some (.int (nI (zct D 4096))) ∧ zwf σ' (uM M r D) (uM w r 2) ∧ zk σ σ') (fun E σ' => (E = zNS ∧ ¬ (zgr x ∧ zgr y) ∨ E = zIA ∧ ∃ r : Nat, r < 8 ∧ x = nI r ∧ ∃ a : Nat, a < 8 ∧ y = nI a ∧ w a ≠ 2) ∧ zwf σ' M w ∧ zk σ σ') := by
  refine zCX_of (cc := c_Sh_reach) (nL := 6) (ret := (some .int)) (own := R_Sh) (by decide +kernel) rfl rfl (Nat.le_of_ble_eq_true rfl) ?_
  refine zb_lv (lv' := [(0, .ref (zad G 0)), (1, .int x), (2, .int y)]) rfl ?_
  refine zb_iload_n d_Sh_reach_0 rfl rfl ?_
  refine zx_callS (rest := []) (c_mustBe l G hl) (lk_Sh_63.cw rfl rfl ⟨Nat.le_of_ble_eq_true rfl, Nat.le_of_ble_eq_true rfl⟩) rfl rfl (Nat.le_of_ble_eq_true rfl) d_Sh_reach_1 ⟨Nat.le_of_ble_eq_true rfl, Nat.le_of_ble_eq_true rfl⟩ ?_ ?_
  rotate_left
  · rintro E _ ⟨rfl, hx, rfl⟩; exact zx_out ⟨Or.inl ⟨rfl, fun z => hx z.1⟩, hw, zk.rf _⟩ (Nat.le_of_ble_eq_true rfl) (Nat.le_of_ble_eq_true rfl)
  rintro _ _ ⟨rfl, ⟨r, hr, rfl⟩, rfl⟩
  refine zb_lv (lv' := [(0, .ref (zad G 0)), (1, .int (nI r)), (2, .int y)]) rfl ?_
  refine zb_st (st' := []) rfl ?_
  refine zb_aload_n d_Sh_reach_4 rfl rfl ?_
  refine zb_iload_n d_Sh_reach_5 rfl rfl ?_
  refine zx_callV (rest := []) (c_relationOf l G hl) (lk_Sh_24.cw rfl rfl ⟨Nat.le_of_ble_eq_true rfl, Nat.le_of_ble_eq_true rfl⟩) zgS rfl rfl rfl rfl (Nat.le_of_ble_eq_true rfl) d_Sh_reach_6 ⟨Nat.le_of_ble_eq_true rfl, Nat.le_of_ble_eq_true rfl⟩ ?_ ?_
  rotate_left
  · rintro E _ ⟨rfl, hx, rfl⟩; exact zx_out ⟨Or.inl ⟨rfl, fun z => hx z.2⟩, hw, zk.rf _⟩ (Nat.le_of_ble_eq_true rfl) (Nat.le_of_ble_eq_true rfl)
  rintro _ _ ⟨a, ha, rfl, rfl, rfl⟩
  refine zb_lv (lv' := [(0, .ref (zad G 0)), (1, .int (nI r)), (2, .int (nI a))]) rfl ?_
  refine zb_st (st' := [.ref (zad G (zN (σ.1 1 a)))]) rfl ?_
  refine zb_astore_n (lv' := [(3, .ref (zad G (zN (σ.1 1 a)))), (0, .ref (zad G 0)), (1, .int (nI r)), (2, .int (nI a))]) d_Sh_reach_9 rfl (by decide) rfl ?_
  have ha2 := hw.at ha
  obtain ⟨n, hn⟩ := ha2.2.2.2.1
  have hw3 := ha2.2.2.1
  refine zb_aload_n d_Sh_reach_10 rfl rfl ?_
  refine zr_width (q := zN (σ.1 1 a)) d_Sh_reach_11 fl_Sh_40 (hw.rl ha) ?_
  refine zb_top (y := nI (w a)) (ha2.1) ?_
  refine zb_iconst (v := 2) d_Sh_reach_14 rfl ?_
  refine zb_icmp_ne (tgt := 22) d_Sh_reach_15 rfl (fun h15 => ?_) (fun h15 => ?_)
  · refine zb_iconst (v := 0) d_Sh_reach_22 rfl ?_
    refine zx_callS (rest := []) (c_refuseUnless l G hl) (lk_Sh_28.cw rfl rfl ⟨Nat.le_of_ble_eq_true rfl, Nat.le_of_ble_eq_true rfl⟩) rfl rfl (Nat.le_of_ble_eq_true rfl) d_Sh_reach_23 ⟨Nat.le_of_ble_eq_true rfl, Nat.le_of_ble_eq_true rfl⟩ ?_ ?_
    rotate_left
    · rintro E _ ⟨rfl, -, rfl⟩; exact zx_out ⟨Or.inr ⟨rfl, r, hr, rfl, a, ha, rfl, fun e => h15 (by rw [e]; rfl)⟩, hw, zk.rf _⟩ (Nat.le_of_ble_eq_true rfl) (Nat.le_of_ble_eq_true rfl)
    rintro _ _ ⟨-, h0, -⟩
    exact absurd rfl h0
  · refine zb_iconst (v := 1) d_Sh_reach_18 rfl ?_
    refine zb_goto (tgt := 23) d_Sh_reach_19 rfl ?_
    refine zx_callS (rest := []) (c_refuseUnless l G hl) (lk_Sh_28.cw rfl rfl ⟨Nat.le_of_ble_eq_true rfl, Nat.le_of_ble_eq_true rfl⟩) rfl rfl (Nat.le_of_ble_eq_true rfl) d_Sh_reach_23 ⟨Nat.le_of_ble_eq_true rfl, Nat.le_of_ble_eq_true rfl⟩ ?_ ?_
    rotate_left
    · rintro E _ ⟨-, h0, -⟩; exact absurd h0 (by decide)
    rintro _ _ ⟨rfl, -, rfl⟩
    refine zb_st (st' := []) rfl ?_
    have hwa : w a = 2 := (nI_eq (b := 2) (by omega) (by decide)).mp h15
    refine zb_aload_n d_Sh_reach_26 rfl rfl ?_
    refine zb_aload_n d_Sh_reach_27 rfl rfl ?_
    refine zb_callV (rest := []) (c_takeSteps l G hn) (lk_Sh_92.cw rfl rfl ⟨Nat.le_of_ble_eq_true rfl, Nat.le_of_ble_eq_true rfl⟩) zgS rfl rfl rfl rfl (Nat.le_of_ble_eq_true rfl) d_Sh_reach_28 ⟨Nat.le_of_ble_eq_true rfl, Nat.le_of_ble_eq_true rfl⟩ ?_
    rintro _ _ ⟨rfl, f1, R1, hR1, hI1⟩
    rename_i σ1
    refine zb_st (st' := []) rfl ?_
    refine zb_aload_n d_Sh_reach_31 rfl rfl ?_
    refine zb_callV (rest := []) (c_followSteps l G (E := fun x y => M a (256 * x + 16 * y) ≠ 0) hR1 (fun x y hx hy => (hI1 x y hx hy).trans (st_iff hn.2.2 (fun t ht => by have := ha2.2.2.2.2 t ht; rw [hwa] at this; exact this) hx hy))) (lk_Sh_96.cw rfl rfl ⟨Nat.le_of_ble_eq_true rfl, Nat.le_of_ble_eq_true rfl⟩) zgS rfl rfl rfl rfl (Nat.le_of_ble_eq_true rfl) d_Sh_reach_32 ⟨Nat.le_of_ble_eq_true rfl, Nat.le_of_ble_eq_true rfl⟩ ?_
    rintro _ _ ⟨rfl, f2, R, hR, hI⟩
    rename_i σ2
    have f12 := f1.tr f2
    have hw2 : zwf σ2 M w := zwf_spare hw (fun k _ _ _ h => f12.1 k (by omega))
    refine zb_st (st' := []) rfl ?_
    refine zb_aload_n d_Sh_reach_35 rfl rfl ?_
    refine zs_spare d_Sh_reach_36 fl_Sh_16 ?_
    refine zb_iconst (v := 2) d_Sh_reach_39 rfl ?_
    refine zb_callV (rest := []) (c_startAnew l G hw2.sp) (lk_Sh_36.cw rfl rfl ⟨Nat.le_of_ble_eq_true rfl, Nat.le_of_ble_eq_true rfl⟩) (zgR hw2.sp) rfl rfl rfl rfl (Nat.le_of_ble_eq_true rfl) d_Sh_reach_40 ⟨Nat.le_of_ble_eq_true rfl, Nat.le_of_ble_eq_true rfl⟩ ?_
    rintro _ _ ⟨rfl, rfl⟩
    refine zb_st (st' := []) rfl ?_
    refine zb_iconst (v := 0) d_Sh_reach_43 rfl ?_
    refine zb_istore (lv' := [(4, .int 0), (3, .ref (zad G (zN (σ.1 1 a)))), (0, .ref (zad G 0)), (1, .int (nI r)), (2, .int (nI a))]) d_Sh_reach_44 (by decide) rfl ?_
    refine zb_lv (lv' := [(4, .int (nI 0)), (3, .ref (zad G (zN (σ.1 1 a)))), (0, .ref (zad G 0)), (1, .int (nI r)), (2, .int (nI a))]) rfl ?_
    refine zb_sub [0, 2, 3, 4, 1] rfl ?_
    have hs2 := hw2.sp
    have n29 : (29 : Nat) ≠ zN (σ2.1 0 0) := by have := hs2; unfold zrl at this; omega
    have n0 : (0 : Nat) ≠ zN (σ2.1 0 0) := by have := hs2.1; omega
    have n1 : (1 : Nat) ≠ zN (σ2.1 0 0) := by have := hs2.1; omega
    have nn0 : (0 : Nat) ≠ zN (σ2.1 0 0) + 1 ∧ (0 : Nat) ≠ zN (σ2.1 0 0) + 2 ∧ (1 : Nat) ≠ zN (σ2.1 0 0) + 1 ∧ (1 : Nat) ≠ zN (σ2.1 0 0) + 2 := by have := hs2.1; omega
    refine lp_reach2 l G (s := zN (σ2.1 0 0)) (R := R) hs2 (by rw [zst_n σ2 _ n0]; exact hs2.nI) (fun x hx => by rw [zst_n σ2 _ n29]; exact hR x hx) (fun τ ns hf hz => ?_) 16 0 _ 0 (by omega) (zf.rf _ _) (by rw [show gm R (16 * 0) = (fun _ => 0) from funext fun t => if_neg (fun z => by omega)]; exact zr_start hs2) (Nat.le_refl _)
    have t0 : τ.1 0 = σ2.1 0 := (hf.1 0 n0 nn0.1 nn0.2.1).trans (zst_n σ2 _ n0)
    have t1 : τ.1 1 = σ2.1 1 := (hf.1 1 n1 nn0.2.2.1 nn0.2.2.2).trans (zst_n σ2 _ n1)
    refine zb_aload_n d_Sh_reach_108 rfl rfl ?_
    refine zb_iload_n d_Sh_reach_109 rfl rfl ?_
    refine zb_callV (rest := []) (c_keepSpareAs l G hr (by rw [t0]; exact hw2.sp) (by rw [t1]; exact hw2.rl hr)) (lk_Sh_70.cw rfl rfl ⟨Nat.le_of_ble_eq_true rfl, Nat.le_of_ble_eq_true rfl⟩) zgS rfl rfl rfl rfl (Nat.le_of_ble_eq_true rfl) d_Sh_reach_110 ⟨Nat.le_of_ble_eq_true rfl, Nat.le_of_ble_eq_true rfl⟩ ?_
    rintro _ _ ⟨rfl, k1, k2, k3, k4⟩
    rename_i σ9
    refine zb_st (st' := [.int (τ.1 (zN (τ.1 0 0)) 1)]) rfl ?_
    have hfin := zfin (u := 2) hw2 ((zst_k σ2 _ hw2.sp).tr (zf.k hw2.sp hf)) (fun k h1 h2 h3 h4 => (hf.1 k h1 h2 h3).trans (zst_n σ2 _ h1)) hr (hf.2.2.trans (zst_0 σ2 _ _)) (by decide) (by decide) hz (fun t h => by
      rcases gm_rch hI t with z | z
      · exact z.2.1
      · exact absurd z.1 h) (v := some (.int (τ.1 (zN (τ.1 0 0)) 1))) ⟨rfl, k1, k2, k3, k4⟩
    exact zx_ret (zb_iret d_Sh_reach_113 rfl ⟨r, a, hr, rfl, ha, rfl, hwa, gm R 256, gm_rch hI, hfin.1, hfin.2.1, f12.k.tr hfin.2.2⟩)
