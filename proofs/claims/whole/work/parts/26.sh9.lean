theorem pl_le {T C m : Nat → Int32} {n a b f g : Nat} (h : zp T C n m) (hab : a ≤ b) (hb : b < 2 ^ 31) (hf : pl T n (nI a) f) (hg : pl T n (nI b) g) : f ≤ g := by
  refine Nat.not_lt.mp fun z => ?_
  have hn : g < n := Nat.lt_of_lt_of_le z hf.1
  have h1 := hf.2.1 g z
  have h2 := hg.2.2 g (Nat.le_refl _) hn
  rw [h.lt hn (by omega)] at h1
  rw [h.lt hn hb] at h2
  omega
set_option maxHeartbeats 4000000 in
set_option maxRecDepth 100000 in
theorem lp_join1 (l : Launch) (G : zG) {σ : zS} {s q1 q2 n1 n2 u v k i f g : Nat} {m1 m2 : Nat → Int32} (hs : zrl s) (n1s : q1 ≠ s) (n2s : q2 ≠ s) (h0 : σ.1 0 0 = nI s) (h1 : zr σ q1 n1 m1) (h2 : zr σ q2 n2 m2) (hu : σ.1 q1 0 = nI u) (hj : jok u v k) (d1 : ∀ t, m1 t ≠ 0 → t % 2 ^ (12 - 4 * u) = 0) (d2 : ∀ t, m2 t ≠ 0 → t % 2 ^ (12 - 4 * v) = 0) (hi : i < n1) (hgn : g ≤ n2) (hrg : ∀ j, j < n2 → ((f ≤ j ∧ j < g) ↔ (zN (σ.1 (q2 + 1) j)) / 2 ^ (12 - 4 * k) = ((zN (σ.1 (q1 + 1) i)) / 2 ^ (12 - 4 * u) % 2 ^ (4 * k)))) : ∀ (d j : Nat) (τ : zS) (ns : Nat) (m : Nat → Int32), j + d = g → f ≤ j → zf σ τ s → zr τ s ns m → inv (jD u v k m1 m2) m (jS2 u k (σ.1 (q1 + 1)) (σ.1 (q2 + 1)) i f j) → zB l G w_Sh_joinOne R_Sh c_Sh_joinOne 12 (some .boolean) [] (zrm 4 150) (zR G (fun x σ' => (x = some (.int 1) ∧ (∃ (n' : Nat) (m' : Nat → Int32), zr σ' s n' m' ∧ inv (jD u v k m1 m2) m' (jS1 u (σ.1 (q1 + 1)) (i + 1))) ∨ x = some (.int 0) ∧ 300 < zct (jD u v k m1 m2) 4096) ∧ zf σ σ' s) 0 0) 0 0 69 [(11, .int (nI j)), (10, .int 1), (9, .int (nI (4 * (u - k)))), (8, .int (nI g)), (7, .int (nI f)), (6, .int (nI ((zN (σ.1 (q1 + 1) i)) / 2 ^ (12 - 4 * u) % 2 ^ (4 * k)))), (5, .int (nI (zN (σ.1 (q1 + 1) i)))), (0, .ref (zad G 0)), (1, .ref (zad G q1)), (2, .int (nI i)), (3, .ref (zad G q2)), (4, .int (nI k))] [] τ := by
  intro d
  induction d with
  | zero =>
    intro j τ ns m hd hfj hf hz hI
    have e : g = j := by omega
    have ap1 := h1.1.apart hs n1s
    have ap2 := h2.1.apart hs n2s
    have z0 : (0 : Nat) ≠ s ∧ (0 : Nat) ≠ s + 1 ∧ (0 : Nat) ≠ s + 2 := by have := hs.1; omega
    have hs31 : s < 2 ^ 31 := by have := hs.lt; omega
    have e0 : τ.1 0 0 = nI s := by rw [hf.1 0 z0.1 z0.2.1 z0.2.2]; exact h0
    have e11 : τ.1 (q1 + 1) = σ.1 (q1 + 1) := hf.1 _ ap1.2.2.2.1 ap1.2.2.2.2.1 ap1.2.2.2.2.2.1
    have e12 : τ.1 (q1 + 2) = σ.1 (q1 + 2) := hf.1 _ ap1.2.2.2.2.2.2.1 ap1.2.2.2.2.2.2.2.1 ap1.2.2.2.2.2.2.2.2
    have e21 : τ.1 (q2 + 1) = σ.1 (q2 + 1) := hf.1 _ ap2.2.2.2.1 ap2.2.2.2.2.1 ap2.2.2.2.2.2.1
    have e22 : τ.1 (q2 + 2) = σ.1 (q2 + 2) := hf.1 _ ap2.2.2.2.2.2.2.1 ap2.2.2.2.2.2.2.2.1 ap2.2.2.2.2.2.2.2.2
    have hn1 := h1.2.2.1
    have hn2 := h2.2.2.1
    have ho := hj
    unfold jok at ho
    refine zb_iload d_Sh_joinOne_69 rfl ?_
    refine zb_iload d_Sh_joinOne_71 rfl ?_
    refine zb_icmp_ge (tgt := 123) d_Sh_joinOne_73 rfl (fun h73 => ?_) (fun h73 => absurd (nI_le (a := g) (b := j) (by omega) (by omega)) h73)
    refine zb_iload d_Sh_joinOne_123 rfl ?_
    exact zb_zret d_Sh_joinOne_125 rfl rfl ⟨Or.inl ⟨rfl, ns, m, hz, inv_ext hI (fun t ht => by rw [← e]; exact jS_end (C1 := σ.1 (q1 + 2)) (n1 := n1) hj h2.2.2 hrg t ht)⟩, hf⟩
  | succ d ih =>
    intro j τ ns m hd hfj hf hz hI
    have hlt : j < g := by omega
    have hj2 : j < n2 := by omega
    have ap1 := h1.1.apart hs n1s
    have ap2 := h2.1.apart hs n2s
    have z0 : (0 : Nat) ≠ s ∧ (0 : Nat) ≠ s + 1 ∧ (0 : Nat) ≠ s + 2 := by have := hs.1; omega
    have hs31 : s < 2 ^ 31 := by have := hs.lt; omega
    have e0 : τ.1 0 0 = nI s := by rw [hf.1 0 z0.1 z0.2.1 z0.2.2]; exact h0
    have e11 : τ.1 (q1 + 1) = σ.1 (q1 + 1) := hf.1 _ ap1.2.2.2.1 ap1.2.2.2.2.1 ap1.2.2.2.2.2.1
    have e12 : τ.1 (q1 + 2) = σ.1 (q1 + 2) := hf.1 _ ap1.2.2.2.2.2.2.1 ap1.2.2.2.2.2.2.2.1 ap1.2.2.2.2.2.2.2.2
    have e21 : τ.1 (q2 + 1) = σ.1 (q2 + 1) := hf.1 _ ap2.2.2.2.1 ap2.2.2.2.2.1 ap2.2.2.2.2.2.1
    have e22 : τ.1 (q2 + 2) = σ.1 (q2 + 2) := hf.1 _ ap2.2.2.2.2.2.2.1 ap2.2.2.2.2.2.2.2.1 ap2.2.2.2.2.2.2.2.2
    have hn1 := h1.2.2.1
    have hn2 := h2.2.2.1
    have ho := hj
    unfold jok at ho
    have hm : jm u v k (zN (σ.1 (q1 + 1) i)) (zN (σ.1 (q2 + 1) j)) := ⟨(h1.2.2.2.1 i hi).1, d1 _ (by rw [(h1.2.2.2.2.2.1 i hi).2]; exact (h1.2.2.2.2.2.1 i hi).1), (h2.2.2.2.1 j hj2).1, d2 _ (by rw [(h2.2.2.2.2.2.1 j hj2).2]; exact (h2.2.2.2.2.2.1 j hj2).1), (hrg j hj2).mp ⟨hfj, hlt⟩⟩
    have hJ : jj u k (zN (σ.1 (q1 + 1) i)) (zN (σ.1 (q2 + 1) j)) < 4096 := (jj_in hj hm).1
    refine zb_iload d_Sh_joinOne_69 rfl ?_
    refine zb_iload d_Sh_joinOne_71 rfl ?_
    refine zb_icmp_ge (tgt := 123) d_Sh_joinOne_73 rfl (fun h73 => absurd h73 (nI_ge (a := j) (b := g) (by omega) (by omega))) (fun h73 => ?_)
    refine zb_iload d_Sh_joinOne_76 rfl ?_
    refine zb_if_eq (tgt := 123) d_Sh_joinOne_78 rfl (fun h78 => absurd h78 (by decide)) (fun h78 => ?_)
    refine zb_aload_n d_Sh_joinOne_81 rfl rfl ?_
    refine zs_spare d_Sh_joinOne_82 fl_Sh_16 ?_
    refine zb_st (st' := .ref (zad G s) :: []) (by rw [e0, nI_clamp hs31]) ?_
    refine zb_iload d_Sh_joinOne_85 rfl ?_
    refine zb_aload_n d_Sh_joinOne_87 rfl rfl ?_
    refine zr_tuples (q := q2) d_Sh_joinOne_88 fl_Sh_60 h2.1 ?_
    refine zb_iload d_Sh_joinOne_91 rfl ?_
    refine zb_ialdN (q := q2 + 1) (j := j) d_Sh_joinOne_93 (h2.1.t) (by rw [h2.1.nt]; omega) ?_
    refine zb_top (y := nI (zN (σ.1 (q2 + 1) j))) (by rw [e21]; exact (h2.2.2.2.1 j hj2).2) ?_
    refine zb_iload d_Sh_joinOne_94 rfl ?_
    refine zb_ishr d_Sh_joinOne_96 ?_
    refine zb_top (y := nI ((zN (σ.1 (q2 + 1) j)) / 2 ^ (4 * (u - k)))) (sh_r (by have := (h2.2.2.2.1 j hj2).1; omega) (by omega)) ?_
    refine zb_ior d_Sh_joinOne_97 ?_
    refine zb_top (y := nI (jj u k (zN (σ.1 (q1 + 1) i)) (zN (σ.1 (q2 + 1) j)))) (nI_or _ _) ?_
    refine zb_aload_n d_Sh_joinOne_98 rfl rfl ?_
    refine zr_counts (q := q1) d_Sh_joinOne_99 fl_Sh_82 h1.1 ?_
    refine zb_iload_n d_Sh_joinOne_102 rfl rfl ?_
    refine zb_ialdN (q := q1 + 2) (j := i) d_Sh_joinOne_103 (h1.1.c) (by rw [h1.1.nc]; omega) ?_
    refine zb_top (y := σ.1 (q1 + 2) i) (by rw [e12]) ?_
    refine zb_aload_n d_Sh_joinOne_104 rfl rfl ?_
    refine zr_counts (q := q2) d_Sh_joinOne_105 fl_Sh_82 h2.1 ?_
    refine zb_iload d_Sh_joinOne_108 rfl ?_
    refine zb_ialdN (q := q2 + 2) (j := j) d_Sh_joinOne_110 (h2.1.c) (by rw [h2.1.nc]; omega) ?_
    refine zb_top (y := σ.1 (q2 + 2) j) (by rw [e22]) ?_
    refine zb_imul d_Sh_joinOne_111 ?_
    refine zb_top (y := (jD u v k m1 m2) (jj u k (zN (σ.1 (q1 + 1) i)) (zN (σ.1 (q2 + 1) j)))) (by rw [jD_at hj hm, (h1.2.2.2.2.2.1 i hi).2, (h2.2.2.2.2.2.1 j hj2).2]) ?_
    by_cases hc : m (jj u k (zN (σ.1 (q1 + 1) i)) (zN (σ.1 (q2 + 1) j))) ≠ 0 ∨ (jD u v k m1 m2) (jj u k (zN (σ.1 (q1 + 1) i)) (zN (σ.1 (q2 + 1) j))) = 0 ∨ ns < 300
    · refine zb_callV (rest := []) (c_raise_y l G hz (t := jj u k (zN (σ.1 (q1 + 1) i)) (zN (σ.1 (q2 + 1) j))) hJ hc) (lk_Sh_47.cw rfl rfl ⟨Nat.le_of_ble_eq_true rfl, Nat.le_of_ble_eq_true rfl⟩) (zgR hs) rfl rfl rfl rfl (Nat.le_of_ble_eq_true rfl) d_Sh_joinOne_112 ⟨Nat.le_of_ble_eq_true rfl, Nat.le_of_ble_eq_true rfl⟩ ?_
      rintro _ _ ⟨rfl, n9, w1, w2⟩
      rename_i τ9
      refine zb_st (st' := [.int 1]) rfl ?_
      refine zb_istore (lv' := [(10, .int 1), (11, .int (nI j)), (9, .int (nI (4 * (u - k)))), (8, .int (nI g)), (7, .int (nI f)), (6, .int (nI ((zN (σ.1 (q1 + 1) i)) / 2 ^ (12 - 4 * u) % 2 ^ (4 * k)))), (5, .int (nI (zN (σ.1 (q1 + 1) i)))), (0, .ref (zad G 0)), (1, .ref (zad G q1)), (2, .int (nI i)), (3, .ref (zad G q2)), (4, .int (nI k))]) d_Sh_joinOne_115 (by decide) rfl ?_
      refine zb_iinc (v := nI (j + 1)) (lv' := [(11, .int (nI (j + 1))), (10, .int 1), (9, .int (nI (4 * (u - k)))), (8, .int (nI g)), (7, .int (nI f)), (6, .int (nI ((zN (σ.1 (q1 + 1) i)) / 2 ^ (12 - 4 * u) % 2 ^ (4 * k)))), (5, .int (nI (zN (σ.1 (q1 + 1) i)))), (0, .ref (zad G 0)), (1, .ref (zad G q1)), (2, .int (nI i)), (3, .ref (zad G q2)), (4, .int (nI k))]) d_Sh_joinOne_117 rfl (nI_1 j) (by decide) rfl ?_
      refine zb_goto (tgt := 69) d_Sh_joinOne_120 rfl ?_
      refine zb_sub [0, 1, 2, 3, 4, 5, 6, 7, 8, 9, 10, 11] rfl ?_
      exact ih (j + 1) τ9 n9 _ (by omega) (by omega) (hf.tr w2) w1 (inv_ext (inv_up hI (jS_new hj h1.2.2 h2.2.2 hi hj2 hm)) (fun t ht => jS_step (C1 := σ.1 (q1 + 2)) (n1 := n1) hj h2.2.2 hj2 hfj hm t ht))
    · refine zb_callV (rest := []) (c_raise_n l G hz (t := jj u k (zN (σ.1 (q1 + 1) i)) (zN (σ.1 (q2 + 1) j))) hJ hc) (lk_Sh_47.cw rfl rfl ⟨Nat.le_of_ble_eq_true rfl, Nat.le_of_ble_eq_true rfl⟩) (zgR hs) rfl rfl rfl rfl (Nat.le_of_ble_eq_true rfl) d_Sh_joinOne_112 ⟨Nat.le_of_ble_eq_true rfl, Nat.le_of_ble_eq_true rfl⟩ ?_
      rintro _ _ ⟨rfl, rfl⟩
      refine zb_st (st' := [.int 0]) rfl ?_
      refine zb_istore (lv' := [(10, .int 0), (11, .int (nI j)), (9, .int (nI (4 * (u - k)))), (8, .int (nI g)), (7, .int (nI f)), (6, .int (nI ((zN (σ.1 (q1 + 1) i)) / 2 ^ (12 - 4 * u) % 2 ^ (4 * k)))), (5, .int (nI (zN (σ.1 (q1 + 1) i)))), (0, .ref (zad G 0)), (1, .ref (zad G q1)), (2, .int (nI i)), (3, .ref (zad G q2)), (4, .int (nI k))]) d_Sh_joinOne_115 (by decide) rfl ?_
      refine zb_iinc (v := nI (j + 1)) (lv' := [(11, .int (nI (j + 1))), (10, .int 0), (9, .int (nI (4 * (u - k)))), (8, .int (nI g)), (7, .int (nI f)), (6, .int (nI ((zN (σ.1 (q1 + 1) i)) / 2 ^ (12 - 4 * u) % 2 ^ (4 * k)))), (5, .int (nI (zN (σ.1 (q1 + 1) i)))), (0, .ref (zad G 0)), (1, .ref (zad G q1)), (2, .int (nI i)), (3, .ref (zad G q2)), (4, .int (nI k))]) d_Sh_joinOne_117 rfl (nI_1 j) (by decide) rfl ?_
      refine zb_goto (tgt := 69) d_Sh_joinOne_120 rfl ?_
      refine zb_iload d_Sh_joinOne_69 rfl ?_
      refine zb_iload d_Sh_joinOne_71 rfl ?_
      refine zb_icmp_ge (tgt := 123) d_Sh_joinOne_73 rfl (fun h73 => ?_) (fun h73 => ?_)
      · refine zb_iload d_Sh_joinOne_123 rfl ?_
        exact zb_zret d_Sh_joinOne_125 rfl rfl ⟨Or.inr ⟨rfl, full hz (inv_or hI) hJ hc⟩, hf⟩
      · refine zb_iload d_Sh_joinOne_76 rfl ?_
        refine zb_if_eq (tgt := 123) d_Sh_joinOne_78 rfl (fun h78 => ?_) (fun h78 => absurd rfl h78)
        refine zb_iload d_Sh_joinOne_123 rfl ?_
        exact zb_zret d_Sh_joinOne_125 rfl rfl ⟨Or.inr ⟨rfl, full hz (inv_or hI) hJ hc⟩, hf⟩
set_option maxHeartbeats 4000000 in
set_option maxRecDepth 100000 in
/-- joinOne(left, i, right, on) -/
theorem c_joinOne (l : Launch) (G : zG) {σ : zS} {s q1 q2 n1 n2 u v k i ns : Nat} {m1 m2 m : Nat → Int32} (hs : zrl s) (n1s : q1 ≠ s) (n2s : q2 ≠ s) (h0 : σ.1 0 0 = nI s) (h1 : zr σ q1 n1 m1) (h2 : zr σ q2 n2 m2) (hu : σ.1 q1 0 = nI u) (hj : jok u v k) (d1 : ∀ t, m1 t ≠ 0 → t % 2 ^ (12 - 4 * u) = 0) (d2 : ∀ t, m2 t ≠ 0 → t % 2 ^ (12 - 4 * v) = 0) (hi : i < n1) (hz : zr σ s ns m) (hI : inv (jD u v k m1 m2) m (jS1 u (σ.1 (q1 + 1)) i)) : zC l G y_Sh_joinOne w_Sh_joinOne (zrm 4 150) 0 0 [.ref (zad G 0), .ref (zad G q1), .int (nI i), .ref (zad G q2), .int (nI k)] σ (fun x σ' => (x = some (.int 1) ∧ (∃ (n' : Nat) (m' : Nat → Int32), zr σ' s n' m' ∧ inv (jD u v k m1 m2) m' (jS1 u (σ.1 (q1 + 1)) (i + 1))) ∨ x = some (.int 0) ∧ 300 < zct (jD u v k m1 m2) 4096) ∧ zf σ σ' s) := by
  refine zC_of (cc := c_Sh_joinOne) (nL := 12) (ret := (some .boolean)) (own := R_Sh) (by decide +kernel) rfl rfl (Nat.le_of_ble_eq_true rfl) ?_
  refine zb_lv (lv' := [(0, .ref (zad G 0)), (1, .ref (zad G q1)), (2, .int (nI i)), (3, .ref (zad G q2)), (4, .int (nI k))]) rfl ?_
  have ho := hj
  unfold jok at ho
  have hk3 : k ≤ 3 := by omega
  have hu3 : u ≤ 3 := by omega
  have hn1 := h1.2.2.1
  have ha := (h1.2.2.2.1 i hi).1
  have hsh : ((zN (σ.1 (q1 + 1) i)) / 2 ^ (12 - 4 * u) % 2 ^ (4 * k)) < 2 ^ (4 * k) := Nat.mod_lt _ (Nat.two_pow_pos _)
  have hb : (((zN (σ.1 (q1 + 1) i)) / 2 ^ (12 - 4 * u) % 2 ^ (4 * k)) + 1) * 2 ^ (12 - 4 * k) ≤ 4096 := by
    have h9 : (((zN (σ.1 (q1 + 1) i)) / 2 ^ (12 - 4 * u) % 2 ^ (4 * k)) + 1) * 2 ^ (12 - 4 * k) ≤ 2 ^ (4 * k) * 2 ^ (12 - 4 * k) := Nat.mul_le_mul_right _ hsh
    rw [← Nat.pow_add, show 4 * k + (12 - 4 * k) = 12 by omega] at h9
    exact h9
  have hle : ((zN (σ.1 (q1 + 1) i)) / 2 ^ (12 - 4 * u) % 2 ^ (4 * k)) * 2 ^ (12 - 4 * k) ≤ (((zN (σ.1 (q1 + 1) i)) / 2 ^ (12 - 4 * u) % 2 ^ (4 * k)) + 1) * 2 ^ (12 - 4 * k) := Nat.mul_le_mul_right _ (Nat.le_succ _)
  refine zb_aload_n d_Sh_joinOne_0 rfl rfl ?_
  refine zr_tuples (q := q1) d_Sh_joinOne_1 fl_Sh_60 h1.1 ?_
  refine zb_iload_n d_Sh_joinOne_4 rfl rfl ?_
  refine zb_ialdN (q := q1 + 1) (j := i) d_Sh_joinOne_5 (h1.1.t) (by rw [h1.1.nt]; omega) ?_
  refine zb_top (y := nI (zN (σ.1 (q1 + 1) i))) ((h1.2.2.2.1 i hi).2) ?_
  refine zb_istore (lv' := [(5, .int (nI (zN (σ.1 (q1 + 1) i)))), (0, .ref (zad G 0)), (1, .ref (zad G q1)), (2, .int (nI i)), (3, .ref (zad G q2)), (4, .int (nI k))]) d_Sh_joinOne_6 (by decide) rfl ?_
  refine zb_iload d_Sh_joinOne_8 rfl ?_
  refine zb_aload_n d_Sh_joinOne_10 rfl rfl ?_
  refine zr_width (q := q1) d_Sh_joinOne_11 fl_Sh_40 h1.1 ?_
  refine zb_top (y := nI u) (hu) ?_
  refine zb_iload d_Sh_joinOne_14 rfl ?_
  refine zb_callS (rest := []) (c_lastNumbers l G ha hu3 hk3) (lk_Sh_129.cw rfl rfl ⟨Nat.le_of_ble_eq_true rfl, Nat.le_of_ble_eq_true rfl⟩) rfl rfl (Nat.le_of_ble_eq_true rfl) d_Sh_joinOne_16 ⟨Nat.le_of_ble_eq_true rfl, Nat.le_of_ble_eq_true rfl⟩ ?_
  rintro _ _ ⟨rfl, rfl⟩
  refine zb_st (st' := [.int (nI ((zN (σ.1 (q1 + 1) i)) / 2 ^ (12 - 4 * u) % 2 ^ (4 * k)))]) rfl ?_
  refine zb_istore (lv' := [(6, .int (nI ((zN (σ.1 (q1 + 1) i)) / 2 ^ (12 - 4 * u) % 2 ^ (4 * k)))), (5, .int (nI (zN (σ.1 (q1 + 1) i)))), (0, .ref (zad G 0)), (1, .ref (zad G q1)), (2, .int (nI i)), (3, .ref (zad G q2)), (4, .int (nI k))]) d_Sh_joinOne_19 (by decide) rfl ?_
  refine zb_aload_n d_Sh_joinOne_21 rfl rfl ?_
  refine zb_iload d_Sh_joinOne_22 rfl ?_
  refine zb_iload d_Sh_joinOne_24 rfl ?_
  refine zb_callS (rest := [.int (nI ((zN (σ.1 (q1 + 1) i)) / 2 ^ (12 - 4 * u) % 2 ^ (4 * k))), .ref (zad G q2)]) (c_bitsBehind l G hk3) (lk_Sh_132.cw rfl rfl ⟨Nat.le_of_ble_eq_true rfl, Nat.le_of_ble_eq_true rfl⟩) rfl rfl (Nat.le_of_ble_eq_true rfl) d_Sh_joinOne_26 ⟨Nat.le_of_ble_eq_true rfl, Nat.le_of_ble_eq_true rfl⟩ ?_
  rintro _ _ ⟨rfl, rfl⟩
  refine zb_st (st' := [.int (nI (12 - 4 * k)), .int (nI ((zN (σ.1 (q1 + 1) i)) / 2 ^ (12 - 4 * u) % 2 ^ (4 * k))), .ref (zad G q2)]) rfl ?_
  refine zb_ishl d_Sh_joinOne_29 ?_
  refine zb_top (y := nI (((zN (σ.1 (q1 + 1) i)) / 2 ^ (12 - 4 * u) % 2 ^ (4 * k)) * 2 ^ (12 - 4 * k))) (sh_lN (by omega) (by omega)) ?_
  refine zb_callV (rest := []) (c_placeOf l G h2.1 h2.2.1 h2.2.2.1 h2.2.2.srt) (lk_Sh_135.cw rfl rfl ⟨Nat.le_of_ble_eq_true rfl, Nat.le_of_ble_eq_true rfl⟩) (zgR h2.1) rfl rfl rfl rfl (Nat.le_of_ble_eq_true rfl) d_Sh_joinOne_30 ⟨Nat.le_of_ble_eq_true rfl, Nat.le_of_ble_eq_true rfl⟩ ?_
  rintro _ _ ⟨⟨f, rfl, hpf⟩, rfl⟩
  refine zb_st (st' := [.int (nI f)]) rfl ?_
  refine zb_istore (lv' := [(7, .int (nI f)), (6, .int (nI ((zN (σ.1 (q1 + 1) i)) / 2 ^ (12 - 4 * u) % 2 ^ (4 * k)))), (5, .int (nI (zN (σ.1 (q1 + 1) i)))), (0, .ref (zad G 0)), (1, .ref (zad G q1)), (2, .int (nI i)), (3, .ref (zad G q2)), (4, .int (nI k))]) d_Sh_joinOne_33 (by decide) rfl ?_
  refine zb_aload_n d_Sh_joinOne_35 rfl rfl ?_
  refine zb_iload d_Sh_joinOne_36 rfl ?_
  refine zb_iconst (v := 1) d_Sh_joinOne_38 rfl ?_
  refine zb_iadd d_Sh_joinOne_39 ?_
  refine zb_top (y := nI (((zN (σ.1 (q1 + 1) i)) / 2 ^ (12 - 4 * u) % 2 ^ (4 * k)) + 1)) (nI_1 _) ?_
  refine zb_iload d_Sh_joinOne_40 rfl ?_
  refine zb_callS (rest := [.int (nI (((zN (σ.1 (q1 + 1) i)) / 2 ^ (12 - 4 * u) % 2 ^ (4 * k)) + 1)), .ref (zad G q2)]) (c_bitsBehind l G hk3) (lk_Sh_132.cw rfl rfl ⟨Nat.le_of_ble_eq_true rfl, Nat.le_of_ble_eq_true rfl⟩) rfl rfl (Nat.le_of_ble_eq_true rfl) d_Sh_joinOne_42 ⟨Nat.le_of_ble_eq_true rfl, Nat.le_of_ble_eq_true rfl⟩ ?_
  rintro _ _ ⟨rfl, rfl⟩
  refine zb_st (st' := [.int (nI (12 - 4 * k)), .int (nI (((zN (σ.1 (q1 + 1) i)) / 2 ^ (12 - 4 * u) % 2 ^ (4 * k)) + 1)), .ref (zad G q2)]) rfl ?_
  refine zb_ishl d_Sh_joinOne_45 ?_
  refine zb_top (y := nI ((((zN (σ.1 (q1 + 1) i)) / 2 ^ (12 - 4 * u) % 2 ^ (4 * k)) + 1) * 2 ^ (12 - 4 * k))) (sh_lN (by omega) (by omega)) ?_
  refine zb_callV (rest := []) (c_placeOf l G h2.1 h2.2.1 h2.2.2.1 h2.2.2.srt) (lk_Sh_135.cw rfl rfl ⟨Nat.le_of_ble_eq_true rfl, Nat.le_of_ble_eq_true rfl⟩) (zgR h2.1) rfl rfl rfl rfl (Nat.le_of_ble_eq_true rfl) d_Sh_joinOne_46 ⟨Nat.le_of_ble_eq_true rfl, Nat.le_of_ble_eq_true rfl⟩ ?_
  rintro _ _ ⟨⟨g, rfl, hpg⟩, rfl⟩
  refine zb_st (st' := [.int (nI g)]) rfl ?_
  refine zb_istore (lv' := [(8, .int (nI g)), (7, .int (nI f)), (6, .int (nI ((zN (σ.1 (q1 + 1) i)) / 2 ^ (12 - 4 * u) % 2 ^ (4 * k)))), (5, .int (nI (zN (σ.1 (q1 + 1) i)))), (0, .ref (zad G 0)), (1, .ref (zad G q1)), (2, .int (nI i)), (3, .ref (zad G q2)), (4, .int (nI k))]) d_Sh_joinOne_49 (by decide) rfl ?_
  refine zb_iconst (v := 4) d_Sh_joinOne_51 rfl ?_
  refine zb_aload_n d_Sh_joinOne_52 rfl rfl ?_
  refine zr_width (q := q1) d_Sh_joinOne_53 fl_Sh_40 h1.1 ?_
  refine zb_top (y := nI u) (hu) ?_
  refine zb_iload d_Sh_joinOne_56 rfl ?_
  refine zb_isub d_Sh_joinOne_58 ?_
  refine zb_top (y := nI (u - k)) (pk_sub (by omega)) ?_
  refine zb_imul d_Sh_joinOne_59 ?_
  refine zb_top (y := nI (4 * (u - k))) (pk_mul 4 _) ?_
  refine zb_istore (lv' := [(9, .int (nI (4 * (u - k)))), (8, .int (nI g)), (7, .int (nI f)), (6, .int (nI ((zN (σ.1 (q1 + 1) i)) / 2 ^ (12 - 4 * u) % 2 ^ (4 * k)))), (5, .int (nI (zN (σ.1 (q1 + 1) i)))), (0, .ref (zad G 0)), (1, .ref (zad G q1)), (2, .int (nI i)), (3, .ref (zad G q2)), (4, .int (nI k))]) d_Sh_joinOne_60 (by decide) rfl ?_
  refine zb_iconst (v := 1) d_Sh_joinOne_62 rfl ?_
  refine zb_istore (lv' := [(10, .int 1), (9, .int (nI (4 * (u - k)))), (8, .int (nI g)), (7, .int (nI f)), (6, .int (nI ((zN (σ.1 (q1 + 1) i)) / 2 ^ (12 - 4 * u) % 2 ^ (4 * k)))), (5, .int (nI (zN (σ.1 (q1 + 1) i)))), (0, .ref (zad G 0)), (1, .ref (zad G q1)), (2, .int (nI i)), (3, .ref (zad G q2)), (4, .int (nI k))]) d_Sh_joinOne_63 (by decide) rfl ?_
  refine zb_iload d_Sh_joinOne_65 rfl ?_
  refine zb_istore (lv' := [(11, .int (nI f)), (10, .int 1), (9, .int (nI (4 * (u - k)))), (8, .int (nI g)), (7, .int (nI f)), (6, .int (nI ((zN (σ.1 (q1 + 1) i)) / 2 ^ (12 - 4 * u) % 2 ^ (4 * k)))), (5, .int (nI (zN (σ.1 (q1 + 1) i)))), (0, .ref (zad G 0)), (1, .ref (zad G q1)), (2, .int (nI i)), (3, .ref (zad G q2)), (4, .int (nI k))]) d_Sh_joinOne_67 (by decide) rfl ?_
  refine zb_sub [0, 1, 2, 3, 4, 5, 6, 7, 8, 9, 10, 11] rfl ?_
  exact lp_join1 l G hs n1s n2s h0 h1 h2 hu hj d1 d2 hi hpg.1 (pl_rng h2.2.2 hk3 hsh hpf hpg) (g - f) f σ ns m (by have := pl_le h2.2.2 hle (by omega) hpf hpg; omega) (Nat.le_refl _) (zf.rf _ _) hz (inv_ext hI (fun t _ => jS_start u k _ _ i f t))
set_option maxHeartbeats 4000000 in
set_option maxRecDepth 100000 in
theorem lp_join2 (l : Launch) (G : zG) {σ : zS} {s q1 q2 n1 n2 u v k r : Nat} {ya zb : Int32} {m1 m2 : Nat → Int32} {Fin : List Frame → Array Value → State → State → Prop} (hs : zrl s) (n1s : q1 ≠ s) (n2s : q2 ≠ s) (h0 : σ.1 0 0 = nI s) (h1 : zr σ q1 n1 m1) (h2 : zr σ q2 n2 m2) (hu : σ.1 q1 0 = nI u) (hj : jok u v k) (d1 : ∀ t, m1 t ≠ 0 → t % 2 ^ (12 - 4 * u) = 0) (d2 : ∀ t, m2 t ≠ 0 → t % 2 ^ (12 - 4 * v) = 0) (K1 : ∀ (τ : zS) (ns : Nat), zf σ τ s → zr τ s ns (jD u v k m1 m2) → zB l G w_Sh_join R_Sh c_Sh_join 10 (some .int) [] (zrz 8 190 6) Fin 5 30 131 [(9, .int (nI n1)), (8, .int 1), (7, .int (nI (u + v - k))), (0, .ref (zad G 0)), (1, .int (nI r)), (2, .int ya), (3, .int zb), (4, .int (nI k)), (5, .ref (zad G q1)), (6, .ref (zad G q2))] [] τ) (K0 : ∀ (τ : zS) (i : Int32), zf σ τ s → 300 < zct (jD u v k m1 m2) 4096 → zB l G w_Sh_join R_Sh c_Sh_join 10 (some .int) [] (zrz 8 190 6) Fin 5 30 131 [(9, .int i), (8, .int 0), (7, .int (nI (u + v - k))), (0, .ref (zad G 0)), (1, .int (nI r)), (2, .int ya), (3, .int zb), (4, .int (nI k)), (5, .ref (zad G q1)), (6, .ref (zad G q2))] [] τ) : ∀ (d i : Nat) (τ : zS) (ns : Nat) (m : Nat → Int32), i + d = n1 → zf σ τ s → zr τ s ns m → inv (jD u v k m1 m2) m (jS1 u (σ.1 (q1 + 1)) i) → zB l G w_Sh_join R_Sh c_Sh_join 10 (some .int) [] (zrz 8 190 6) Fin 5 30 96 [(9, .int (nI i)), (8, .int 1), (7, .int (nI (u + v - k))), (0, .ref (zad G 0)), (1, .int (nI r)), (2, .int ya), (3, .int zb), (4, .int (nI k)), (5, .ref (zad G q1)), (6, .ref (zad G q2))] [] τ := by
  intro d
  induction d with
  | zero =>
    intro i τ ns m hd hf hz hI
    have e : i = n1 := by omega
    have ap1 := h1.1.apart hs n1s
    have ap2 := h2.1.apart hs n2s
    have z0 : (0 : Nat) ≠ s ∧ (0 : Nat) ≠ s + 1 ∧ (0 : Nat) ≠ s + 2 := by have := hs.1; omega
    have e0 : τ.1 0 0 = nI s := by rw [hf.1 0 z0.1 z0.2.1 z0.2.2]; exact h0
    have e10 : τ.1 q1 = σ.1 q1 := hf.1 _ ap1.1 ap1.2.1 ap1.2.2.1
    have e11 : τ.1 (q1 + 1) = σ.1 (q1 + 1) := hf.1 _ ap1.2.2.2.1 ap1.2.2.2.2.1 ap1.2.2.2.2.2.1
    have e12 : τ.1 (q1 + 2) = σ.1 (q1 + 2) := hf.1 _ ap1.2.2.2.2.2.2.1 ap1.2.2.2.2.2.2.2.1 ap1.2.2.2.2.2.2.2.2
    have e20 : τ.1 q2 = σ.1 q2 := hf.1 _ ap2.1 ap2.2.1 ap2.2.2.1
    have e21 : τ.1 (q2 + 1) = σ.1 (q2 + 1) := hf.1 _ ap2.2.2.2.1 ap2.2.2.2.2.1 ap2.2.2.2.2.2.1
    have e22 : τ.1 (q2 + 2) = σ.1 (q2 + 2) := hf.1 _ ap2.2.2.2.2.2.2.1 ap2.2.2.2.2.2.2.2.1 ap2.2.2.2.2.2.2.2.2
    have g1 := h1.same (σ' := τ) e10 e11 e12
    have g2 := h2.same (σ' := τ) e20 e21 e22
    have hn1 := h1.2.2.1
    refine zb_iload d_Sh_join_96 rfl ?_
    refine zb_aload d_Sh_join_98 rfl ?_
    refine zr_size (q := q1) d_Sh_join_100 fl_Sh_32 h1.1 ?_
    refine zb_top (y := nI n1) (by rw [e10]; exact h1.2.1) ?_
    refine zb_icmp_ge (tgt := 131) d_Sh_join_103 rfl (fun h103 => ?_) (fun h103 => absurd (nI_le (a := n1) (b := i) (by omega) (by omega)) h103)
    refine zb_sub [0, 1, 2, 3, 4, 5, 6, 7, 8, 9] rfl ?_
    rw [e] at hI ⊢
    rw [jS_all h1.2.2 hI] at hz
    exact K1 τ ns hf hz
  | succ d ih =>
    intro i τ ns m hd hf hz hI
    have hlt : i < n1 := by omega
    have ap1 := h1.1.apart hs n1s
    have ap2 := h2.1.apart hs n2s
    have z0 : (0 : Nat) ≠ s ∧ (0 : Nat) ≠ s + 1 ∧ (0 : Nat) ≠ s + 2 := by have := hs.1; omega
    have e0 : τ.1 0 0 = nI s := by rw [hf.1 0 z0.1 z0.2.1 z0.2.2]; exact h0
    have e10 : τ.1 q1 = σ.1 q1 := hf.1 _ ap1.1 ap1.2.1 ap1.2.2.1
    have e11 : τ.1 (q1 + 1) = σ.1 (q1 + 1) := hf.1 _ ap1.2.2.2.1 ap1.2.2.2.2.1 ap1.2.2.2.2.2.1
    have e12 : τ.1 (q1 + 2) = σ.1 (q1 + 2) := hf.1 _ ap1.2.2.2.2.2.2.1 ap1.2.2.2.2.2.2.2.1 ap1.2.2.2.2.2.2.2.2
    have e20 : τ.1 q2 = σ.1 q2 := hf.1 _ ap2.1 ap2.2.1 ap2.2.2.1
    have e21 : τ.1 (q2 + 1) = σ.1 (q2 + 1) := hf.1 _ ap2.2.2.2.1 ap2.2.2.2.2.1 ap2.2.2.2.2.2.1
    have e22 : τ.1 (q2 + 2) = σ.1 (q2 + 2) := hf.1 _ ap2.2.2.2.2.2.2.1 ap2.2.2.2.2.2.2.2.1 ap2.2.2.2.2.2.2.2.2
    have g1 := h1.same (σ' := τ) e10 e11 e12
    have g2 := h2.same (σ' := τ) e20 e21 e22
    have hn1 := h1.2.2.1
    refine zb_iload d_Sh_join_96 rfl ?_
    refine zb_aload d_Sh_join_98 rfl ?_
    refine zr_size (q := q1) d_Sh_join_100 fl_Sh_32 h1.1 ?_
    refine zb_top (y := nI n1) (by rw [e10]; exact h1.2.1) ?_
    refine zb_icmp_ge (tgt := 131) d_Sh_join_103 rfl (fun h103 => absurd h103 (nI_ge (a := i) (b := n1) (by omega) (by omega))) (fun h103 => ?_)
    refine zb_iload d_Sh_join_106 rfl ?_
    refine zb_if_eq (tgt := 131) d_Sh_join_108 rfl (fun h108 => absurd h108 (by decide)) (fun h108 => ?_)
    refine zb_aload_n d_Sh_join_111 rfl rfl ?_
    refine zb_aload d_Sh_join_112 rfl ?_
    refine zb_iload d_Sh_join_114 rfl ?_
    refine zb_aload d_Sh_join_116 rfl ?_
    refine zb_iload d_Sh_join_118 rfl ?_
    refine zb_callV (rest := []) (c_joinOne l G hs n1s n2s e0 g1 g2 (by rw [e10]; exact hu) hj d1 d2 hlt hz (by rw [e11]; exact hI)) (lk_Sh_66.cw rfl rfl ⟨(Nat.le_of_ble_eq_true rfl), (Nat.le_of_ble_eq_true rfl)⟩) zgS rfl rfl rfl rfl (Nat.le_of_ble_eq_true rfl) d_Sh_join_120 ⟨(Nat.le_of_ble_eq_true rfl), (Nat.le_of_ble_eq_true rfl)⟩ ?_
    rintro v9 τ9 ⟨⟨rfl, n9, m9, z9, i9⟩ | ⟨rfl, hfull⟩, f9⟩
    · refine zb_st (st' := [.int 1]) rfl ?_
      refine zb_istore (lv' := [(8, .int 1), (9, .int (nI i)), (7, .int (nI (u + v - k))), (0, .ref (zad G 0)), (1, .int (nI r)), (2, .int ya), (3, .int zb), (4, .int (nI k)), (5, .ref (zad G q1)), (6, .ref (zad G q2))]) d_Sh_join_123 (by decide) rfl ?_
      refine zb_iinc (v := nI (i + 1)) (lv' := [(9, .int (nI (i + 1))), (8, .int 1), (7, .int (nI (u + v - k))), (0, .ref (zad G 0)), (1, .int (nI r)), (2, .int ya), (3, .int zb), (4, .int (nI k)), (5, .ref (zad G q1)), (6, .ref (zad G q2))]) d_Sh_join_125 rfl (nI_1 i) (by decide) rfl ?_
      refine zb_goto (tgt := 96) d_Sh_join_128 rfl ?_
      refine zb_sub [0, 1, 2, 3, 4, 5, 6, 7, 8, 9] rfl ?_
      exact ih (i + 1) τ9 n9 m9 (by omega) (hf.tr f9) z9 (by rw [e11] at i9; exact i9)
    · refine zb_st (st' := [.int 0]) rfl ?_
      refine zb_istore (lv' := [(8, .int 0), (9, .int (nI i)), (7, .int (nI (u + v - k))), (0, .ref (zad G 0)), (1, .int (nI r)), (2, .int ya), (3, .int zb), (4, .int (nI k)), (5, .ref (zad G q1)), (6, .ref (zad G q2))]) d_Sh_join_123 (by decide) rfl ?_
      refine zb_iinc (v := nI (i + 1)) (lv' := [(9, .int (nI (i + 1))), (8, .int 0), (7, .int (nI (u + v - k))), (0, .ref (zad G 0)), (1, .int (nI r)), (2, .int ya), (3, .int zb), (4, .int (nI k)), (5, .ref (zad G q1)), (6, .ref (zad G q2))]) d_Sh_join_125 rfl (nI_1 i) (by decide) rfl ?_
      refine zb_goto (tgt := 96) d_Sh_join_128 rfl ?_
      refine zb_iload d_Sh_join_96 rfl ?_
      refine zb_aload d_Sh_join_98 rfl ?_
      refine zr_size (q := q1) d_Sh_join_100 fl_Sh_32 h1.1 ?_
      refine zb_top (y := nI n1) (by rw [f9.1 _ ap1.1 ap1.2.1 ap1.2.2.1, e10]; exact h1.2.1) ?_
      refine zb_icmp_ge (tgt := 131) d_Sh_join_103 rfl (fun h103 => ?_) (fun h103 => ?_)
      · refine zb_sub [0, 1, 2, 3, 4, 5, 6, 7, 8, 9] rfl ?_
        exact K0 τ9 _ (hf.tr f9) hfull
      · refine zb_iload d_Sh_join_106 rfl ?_
        refine zb_if_eq (tgt := 131) d_Sh_join_108 rfl (fun h108 => ?_) (fun h108 => absurd rfl h108)
        refine zb_sub [0, 1, 2, 3, 4, 5, 6, 7, 8, 9] rfl ?_
        exact K0 τ9 _ (hf.tr f9) hfull
set_option maxHeartbeats 4000000 in
set_option maxRecDepth 100000 in
/-- join(to, a, b, on) -/
theorem c_join (l : Launch) (G : zG) {σ : zS} {x y z o : Int32} {M : Nat → Nat → Int32} {w : Nat → Nat} (hl : l.stackTraces = false) (hw : zwf σ M w) : zCX l G y_Sh_join w_Sh_join (zrz 8 190 6) 6 36 [.ref (zad G 0), .int x, .int y, .int z, .int o] σ (fun v σ' => ∃ r a b k : Nat, r < 8 ∧ x = nI r ∧ a < 8 ∧ y = nI a ∧ b < 8 ∧ z = nI b ∧ o = nI k ∧ jok (w a) (w b) k ∧ zct (jD (w a) (w b) k (M a) (M b)) 4096 ≤ 300 ∧ v = some (.int (nI (zct (jD (w a) (w b) k (M a) (M b)) 4096))) ∧ zwf σ' (uM M r (jD (w a) (w b) k (M a) (M b))) (uM w r (w a + w b - k)) ∧ zk σ σ') (fun E σ' => (E = zNS ∧ ¬ (zgr x ∧ zgr y ∧ zgr z) ∨ (E = zIA ∧ ∃ r a b : Nat, r < 8 ∧ x = nI r ∧ a < 8 ∧ y = nI a ∧ b < 8 ∧ z = nI b ∧ ¬ ∃ k : Nat, o = nI k ∧ jok (w a) (w b) k) ∨ E = zIS ∧ ∃ r a b k : Nat, r < 8 ∧ x = nI r ∧ a < 8 ∧ y = nI a ∧ b < 8 ∧ z = nI b ∧ o = nI k ∧ jok (w a) (w b) k ∧ 300 < zct (jD (w a) (w b) k (M a) (M b)) 4096) ∧ zwf σ' M w ∧ zk σ σ') := by
  refine zCX_of (cc := c_Sh_join) (nL := 10) (ret := (some .int)) (own := R_Sh) (by decide +kernel) rfl rfl (Nat.le_of_ble_eq_true rfl) ?_
  refine zb_lv (lv' := [(0, .ref (zad G 0)), (1, .int x), (2, .int y), (3, .int z), (4, .int o)]) rfl ?_
  refine zb_iload_n d_Sh_join_0 rfl rfl ?_
  refine zx_callS (rest := []) (c_mustBe l G hl) (lk_Sh_63.cw rfl rfl ⟨Nat.le_of_ble_eq_true rfl, Nat.le_of_ble_eq_true rfl⟩) rfl rfl (Nat.le_of_ble_eq_true rfl) d_Sh_join_1 ⟨Nat.le_of_ble_eq_true rfl, Nat.le_of_ble_eq_true rfl⟩ ?_ ?_
  rotate_left
  · rintro E _ ⟨rfl, hx, rfl⟩; exact zx_out ⟨Or.inl ⟨rfl, fun z => hx z.1⟩, hw, zk.rf _⟩ (Nat.le_of_ble_eq_true rfl) (Nat.le_of_ble_eq_true rfl)
  rintro _ _ ⟨rfl, ⟨r, hr, rfl⟩, rfl⟩
  refine zb_lv (lv' := [(0, .ref (zad G 0)), (1, .int (nI r)), (2, .int y), (3, .int z), (4, .int o)]) rfl ?_
  refine zb_st (st' := []) rfl ?_
  refine zb_aload_n d_Sh_join_4 rfl rfl ?_
  refine zb_iload_n d_Sh_join_5 rfl rfl ?_
  refine zx_callV (rest := []) (c_relationOf l G hl) (lk_Sh_24.cw rfl rfl ⟨Nat.le_of_ble_eq_true rfl, Nat.le_of_ble_eq_true rfl⟩) zgS rfl rfl rfl rfl (Nat.le_of_ble_eq_true rfl) d_Sh_join_6 ⟨Nat.le_of_ble_eq_true rfl, Nat.le_of_ble_eq_true rfl⟩ ?_ ?_
  rotate_left
  · rintro E _ ⟨rfl, hx, rfl⟩; exact zx_out ⟨Or.inl ⟨rfl, fun z => hx z.2.1⟩, hw, zk.rf _⟩ (Nat.le_of_ble_eq_true rfl) (Nat.le_of_ble_eq_true rfl)
  rintro _ _ ⟨a, ha, rfl, rfl, rfl⟩
  refine zb_lv (lv' := [(0, .ref (zad G 0)), (1, .int (nI r)), (2, .int (nI a)), (3, .int z), (4, .int o)]) rfl ?_
  refine zb_st (st' := [.ref (zad G (zN (σ.1 1 a)))]) rfl ?_
  refine zb_astore (lv' := [(5, .ref (zad G (zN (σ.1 1 a)))), (0, .ref (zad G 0)), (1, .int (nI r)), (2, .int (nI a)), (3, .int z), (4, .int o)]) d_Sh_join_9 (by decide) rfl ?_
  refine zb_aload_n d_Sh_join_11 rfl rfl ?_
  refine zb_iload_n d_Sh_join_12 rfl rfl ?_
  refine zx_callV (rest := []) (c_relationOf l G hl) (lk_Sh_24.cw rfl rfl ⟨Nat.le_of_ble_eq_true rfl, Nat.le_of_ble_eq_true rfl⟩) zgS rfl rfl rfl rfl (Nat.le_of_ble_eq_true rfl) d_Sh_join_13 ⟨Nat.le_of_ble_eq_true rfl, Nat.le_of_ble_eq_true rfl⟩ ?_ ?_
  rotate_left
  · rintro E _ ⟨rfl, hx, rfl⟩; exact zx_out ⟨Or.inl ⟨rfl, fun z => hx z.2.2⟩, hw, zk.rf _⟩ (Nat.le_of_ble_eq_true rfl) (Nat.le_of_ble_eq_true rfl)
  rintro _ _ ⟨b, hb, rfl, rfl, rfl⟩
  refine zb_lv (lv' := [(5, .ref (zad G (zN (σ.1 1 a)))), (0, .ref (zad G 0)), (1, .int (nI r)), (2, .int (nI a)), (3, .int (nI b)), (4, .int o)]) rfl ?_
  refine zb_st (st' := [.ref (zad G (zN (σ.1 1 b)))]) rfl ?_
  refine zb_astore (lv' := [(6, .ref (zad G (zN (σ.1 1 b)))), (5, .ref (zad G (zN (σ.1 1 a)))), (0, .ref (zad G 0)), (1, .int (nI r)), (2, .int (nI a)), (3, .int (nI b)), (4, .int o)]) d_Sh_join_16 (by decide) rfl ?_
  have hwa := (hw.at ha).2.2.1
  have hwb := (hw.at hb).2.2.1
  have hwa1 := (hw.at ha).2.1
  have hwb1 := (hw.at hb).2.1
  refine zb_iload d_Sh_join_18 rfl ?_
  refine zb_if_lt (tgt := 47) d_Sh_join_20 rfl (fun h20 => ?_) (fun h20 => ?_)
  · refine zb_iconst (v := 0) d_Sh_join_47 rfl ?_
    refine zx_callS (rest := []) (c_refuseUnless l G hl) (lk_Sh_28.cw rfl rfl ⟨Nat.le_of_ble_eq_true rfl, Nat.le_of_ble_eq_true rfl⟩) rfl rfl (Nat.le_of_ble_eq_true rfl) d_Sh_join_48 ⟨Nat.le_of_ble_eq_true rfl, Nat.le_of_ble_eq_true rfl⟩ ?_ ?_
    rotate_left
    · rintro E _ ⟨rfl, -, rfl⟩; exact zx_out ⟨Or.inr (Or.inl ⟨rfl, r, a, b, hr, rfl, ha, rfl, hb, rfl, fun ⟨k, e, h1⟩ => by subst e; unfold jok at h1; exact absurd h20 (nI_pos (by omega))⟩), hw, zk.rf _⟩ (Nat.le_of_ble_eq_true rfl) (Nat.le_of_ble_eq_true rfl)
    rintro _ _ ⟨-, h0, -⟩
    exact absurd rfl h0
  · refine zb_iload d_Sh_join_23 rfl ?_
    refine zb_aload d_Sh_join_25 rfl ?_
    refine zr_width (q := zN (σ.1 1 a)) d_Sh_join_27 fl_Sh_40 (hw.rl ha) ?_
    refine zb_top (y := nI (w a)) ((hw.at ha).1) ?_
    refine zb_icmp_gt (tgt := 47) d_Sh_join_30 rfl (fun h30 => ?_) (fun h30 => ?_)
    · refine zb_iconst (v := 0) d_Sh_join_47 rfl ?_
      refine zx_callS (rest := []) (c_refuseUnless l G hl) (lk_Sh_28.cw rfl rfl ⟨Nat.le_of_ble_eq_true rfl, Nat.le_of_ble_eq_true rfl⟩) rfl rfl (Nat.le_of_ble_eq_true rfl) d_Sh_join_48 ⟨Nat.le_of_ble_eq_true rfl, Nat.le_of_ble_eq_true rfl⟩ ?_ ?_
      rotate_left
      · rintro E _ ⟨rfl, -, rfl⟩; exact zx_out ⟨Or.inr (Or.inl ⟨rfl, r, a, b, hr, rfl, ha, rfl, hb, rfl, fun ⟨k, e, h1⟩ => by subst e; unfold jok at h1; exact absurd h30 (nI_nlt (by omega) (by omega))⟩), hw, zk.rf _⟩ (Nat.le_of_ble_eq_true rfl) (Nat.le_of_ble_eq_true rfl)
      rintro _ _ ⟨-, h0, -⟩
      exact absurd rfl h0
    · refine zb_iload d_Sh_join_33 rfl ?_
      refine zb_aload d_Sh_join_35 rfl ?_
      refine zr_width (q := zN (σ.1 1 b)) d_Sh_join_37 fl_Sh_40 (hw.rl hb) ?_
      refine zb_top (y := nI (w b)) ((hw.at hb).1) ?_
      refine zb_icmp_gt (tgt := 47) d_Sh_join_40 rfl (fun h40 => ?_) (fun h40 => ?_)
      · refine zb_iconst (v := 0) d_Sh_join_47 rfl ?_
        refine zx_callS (rest := []) (c_refuseUnless l G hl) (lk_Sh_28.cw rfl rfl ⟨Nat.le_of_ble_eq_true rfl, Nat.le_of_ble_eq_true rfl⟩) rfl rfl (Nat.le_of_ble_eq_true rfl) d_Sh_join_48 ⟨Nat.le_of_ble_eq_true rfl, Nat.le_of_ble_eq_true rfl⟩ ?_ ?_
        rotate_left
        · rintro E _ ⟨rfl, -, rfl⟩; exact zx_out ⟨Or.inr (Or.inl ⟨rfl, r, a, b, hr, rfl, ha, rfl, hb, rfl, fun ⟨k, e, h1⟩ => by subst e; unfold jok at h1; exact absurd h40 (nI_nlt (by omega) (by omega))⟩), hw, zk.rf _⟩ (Nat.le_of_ble_eq_true rfl) (Nat.le_of_ble_eq_true rfl)
        rintro _ _ ⟨-, h0, -⟩
        exact absurd rfl h0
      · refine zb_iconst (v := 1) d_Sh_join_43 rfl ?_
        refine zb_goto (tgt := 48) d_Sh_join_44 rfl ?_
        refine zx_callS (rest := []) (c_refuseUnless l G hl) (lk_Sh_28.cw rfl rfl ⟨Nat.le_of_ble_eq_true rfl, Nat.le_of_ble_eq_true rfl⟩) rfl rfl (Nat.le_of_ble_eq_true rfl) d_Sh_join_48 ⟨Nat.le_of_ble_eq_true rfl, Nat.le_of_ble_eq_true rfl⟩ ?_ ?_
        rotate_left
        · rintro E _ ⟨-, h0, -⟩; exact absurd h0 (by decide)
        rintro _ _ ⟨rfl, -, rfl⟩
        refine zb_st (st' := []) rfl ?_
        obtain ⟨k, hk31, rfl⟩ := nI_of h20
        have hka : k ≤ w a := (nI_leI hk31 (by omega)).mp (Int32.not_lt.mp h30)
        have hkb : k ≤ w b := (nI_leI hk31 (by omega)).mp (Int32.not_lt.mp h40)
        refine zb_lv (lv' := [(6, .ref (zad G (zN (σ.1 1 b)))), (5, .ref (zad G (zN (σ.1 1 a)))), (0, .ref (zad G 0)), (1, .int (nI r)), (2, .int (nI a)), (3, .int (nI b)), (4, .int (nI k))]) (rfl) ?_
        refine zb_aload d_Sh_join_51 rfl ?_
        refine zr_width (q := zN (σ.1 1 a)) d_Sh_join_53 fl_Sh_40 (hw.rl ha) ?_
        refine zb_top (y := nI (w a)) ((hw.at ha).1) ?_
        refine zb_aload d_Sh_join_56 rfl ?_
        refine zr_width (q := zN (σ.1 1 b)) d_Sh_join_58 fl_Sh_40 (hw.rl hb) ?_
        refine zb_top (y := nI (w b)) ((hw.at hb).1) ?_
        refine zb_iadd d_Sh_join_61 ?_
        refine zb_top (y := nI (w a + w b)) (nI_add _ _) ?_
        refine zb_iload d_Sh_join_62 rfl ?_
        refine zb_isub d_Sh_join_64 ?_
        refine zb_top (y := nI (w a + w b - k)) (pk_sub (by omega)) ?_
        refine zb_istore (lv' := [(7, .int (nI (w a + w b - k))), (6, .ref (zad G (zN (σ.1 1 b)))), (5, .ref (zad G (zN (σ.1 1 a)))), (0, .ref (zad G 0)), (1, .int (nI r)), (2, .int (nI a)), (3, .int (nI b)), (4, .int (nI k))]) d_Sh_join_65 (by decide) rfl ?_
        refine zb_iload d_Sh_join_67 rfl ?_
        refine zb_iconst (v := 3) d_Sh_join_69 rfl ?_
        refine zb_icmp_gt (tgt := 77) d_Sh_join_70 rfl (fun h70 => ?_) (fun h70 => ?_)
        · refine zb_iconst (v := 0) d_Sh_join_77 rfl ?_
          refine zx_callS (rest := []) (c_refuseUnless l G hl) (lk_Sh_28.cw rfl rfl ⟨Nat.le_of_ble_eq_true rfl, Nat.le_of_ble_eq_true rfl⟩) rfl rfl (Nat.le_of_ble_eq_true rfl) d_Sh_join_78 ⟨Nat.le_of_ble_eq_true rfl, Nat.le_of_ble_eq_true rfl⟩ ?_ ?_
          rotate_left
          · rintro E _ ⟨rfl, -, rfl⟩; exact zx_out ⟨Or.inr (Or.inl ⟨rfl, r, a, b, hr, rfl, ha, rfl, hb, rfl, fun ⟨k2, e2, h1⟩ => by
            have e3 := (nI_eq hk31 (by unfold jok at h1; omega)).mp e2
            subst e3
            unfold jok at h1
            exact absurd h70 (nI_nlt (a := 3) (b := w a + w b - k) (by omega) (by decide))⟩), hw, zk.rf _⟩ (Nat.le_of_ble_eq_true rfl) (Nat.le_of_ble_eq_true rfl)
          rintro _ _ ⟨-, h0, -⟩
          exact absurd rfl h0
        · refine zb_iconst (v := 1) d_Sh_join_73 rfl ?_
          refine zb_goto (tgt := 78) d_Sh_join_74 rfl ?_
          refine zx_callS (rest := []) (c_refuseUnless l G hl) (lk_Sh_28.cw rfl rfl ⟨Nat.le_of_ble_eq_true rfl, Nat.le_of_ble_eq_true rfl⟩) rfl rfl (Nat.le_of_ble_eq_true rfl) d_Sh_join_78 ⟨Nat.le_of_ble_eq_true rfl, Nat.le_of_ble_eq_true rfl⟩ ?_ ?_
          rotate_left
          · rintro E _ ⟨-, h0, -⟩; exact absurd h0 (by decide)
          rintro _ _ ⟨rfl, -, rfl⟩
          refine zb_st (st' := []) rfl ?_
          have hw3 : w a + w b - k ≤ 3 := (nI_leI (b := 3) (by omega) (by decide)).mp (Int32.not_lt.mp h70)
          have hjo : jok (w a) (w b) k := ⟨hwa1, hwa, hwb1, hwb, hka, hkb, hw3⟩
          refine zb_aload_n d_Sh_join_81 rfl rfl ?_
          refine zs_spare d_Sh_join_82 fl_Sh_16 ?_
          refine zb_iload d_Sh_join_85 rfl ?_
          refine zb_callV (rest := []) (c_startAnew l G hw.sp) (lk_Sh_36.cw rfl rfl ⟨Nat.le_of_ble_eq_true rfl, Nat.le_of_ble_eq_true rfl⟩) (zgR hw.sp) rfl rfl rfl rfl (Nat.le_of_ble_eq_true rfl) d_Sh_join_87 ⟨Nat.le_of_ble_eq_true rfl, Nat.le_of_ble_eq_true rfl⟩ ?_
          rintro _ _ ⟨rfl, rfl⟩
          refine zb_st (st' := []) rfl ?_
          refine zb_iconst (v := 1) d_Sh_join_90 rfl ?_
          refine zb_istore (lv' := [(8, .int 1), (7, .int (nI (w a + w b - k))), (6, .ref (zad G (zN (σ.1 1 b)))), (5, .ref (zad G (zN (σ.1 1 a)))), (0, .ref (zad G 0)), (1, .int (nI r)), (2, .int (nI a)), (3, .int (nI b)), (4, .int (nI k))]) d_Sh_join_91 (by decide) rfl ?_
          refine zb_iconst (v := 0) d_Sh_join_93 rfl ?_
          refine zb_istore (lv' := [(9, .int 0), (8, .int 1), (7, .int (nI (w a + w b - k))), (6, .ref (zad G (zN (σ.1 1 b)))), (5, .ref (zad G (zN (σ.1 1 a)))), (0, .ref (zad G 0)), (1, .int (nI r)), (2, .int (nI a)), (3, .int (nI b)), (4, .int (nI k))]) d_Sh_join_94 (by decide) rfl ?_
          refine zb_lv (lv' := [(9, .int (nI 0)), (8, .int 1), (7, .int (nI (w a + w b - k))), (6, .ref (zad G (zN (σ.1 1 b)))), (5, .ref (zad G (zN (σ.1 1 a)))), (0, .ref (zad G 0)), (1, .int (nI r)), (2, .int (nI a)), (3, .int (nI b)), (4, .int (nI k))]) rfl ?_
          obtain ⟨n, hn⟩ := (hw.at ha).2.2.2.1
          obtain ⟨n2, hn2⟩ := (hw.at hb).2.2.2.1
          have ap := (hw.rl ha).apart hw.sp (hw.1.2 a ha).2
          have ap2 := (hw.rl hb).apart hw.sp (hw.1.2 b hb).2
          have hsn := hw.sp.1
          have hzq : zr (zst σ (zN (σ.1 0 0)) (nI (w a + w b - k))) (zN (σ.1 1 a)) n (M a) := hn.same (zst_n σ _ ap.1) (zst_n σ _ ap.2.2.2.1) (zst_n σ _ ap.2.2.2.2.2.2.1)
          have hzq2 : zr (zst σ (zN (σ.1 0 0)) (nI (w a + w b - k))) (zN (σ.1 1 b)) n2 (M b) := hn2.same (zst_n σ _ ap2.1) (zst_n σ _ ap2.2.2.2.1) (zst_n σ _ ap2.2.2.2.2.2.2.1)
          have h00 : (zst σ (zN (σ.1 0 0)) (nI (w a + w b - k))).1 0 0 = nI (zN (σ.1 0 0)) := by rw [zst_n σ _ (by omega)]; exact hw.sp.nI
          refine zb_sub [0, 1, 2, 5, 6, 7, 8, 9, 4, 3] rfl ?_
          refine lp_join2 l G (s := zN (σ.1 0 0)) (q1 := zN (σ.1 1 a)) (q2 := zN (σ.1 1 b)) hw.sp (hw.1.2 a ha).2 (hw.1.2 b hb).2 h00 hzq hzq2 (by rw [zst_n σ _ ap.1]; exact (hw.at ha).1) hjo (hw.at ha).2.2.2.2 (hw.at hb).2.2.2.2 (fun τ ns hf hz => ?_) (fun τ i hf hfull => ?_) n 0 _ 0 (fun _ => 0) (by omega) (zf.rf _ _) (zr_start hw.sp) (jS_nil _ _)
          · refine zb_iload d_Sh_join_131 rfl ?_
            refine zx_callS (rest := []) (c_refuseIfFull l G hl) (lk_Sh_50.cw rfl rfl ⟨Nat.le_of_ble_eq_true rfl, Nat.le_of_ble_eq_true rfl⟩) rfl rfl (Nat.le_of_ble_eq_true rfl) d_Sh_join_133 ⟨Nat.le_of_ble_eq_true rfl, Nat.le_of_ble_eq_true rfl⟩ ?_ ?_
            rotate_left
            · rintro E _ ⟨-, h0, -⟩; exact absurd h0 (by decide)
            rintro _ _ ⟨rfl, -, rfl⟩
            refine zb_st (st' := []) rfl ?_
            have t0 : τ.1 0 = σ.1 0 := (hf.1 0 (by omega) (by omega) (by omega)).trans (zst_n σ _ (by omega))
            have t1 : τ.1 1 = σ.1 1 := (hf.1 1 (by omega) (by omega) (by omega)).trans (zst_n σ _ (by omega))
            refine zb_aload_n d_Sh_join_136 rfl rfl ?_
            refine zb_iload_n d_Sh_join_137 rfl rfl ?_
            refine zb_callV (rest := []) (c_keepSpareAs l G hr (by rw [t0]; exact hw.sp) (by rw [t1]; exact hw.rl hr)) (lk_Sh_70.cw rfl rfl ⟨Nat.le_of_ble_eq_true rfl, Nat.le_of_ble_eq_true rfl⟩) zgS rfl rfl rfl rfl (Nat.le_of_ble_eq_true rfl) d_Sh_join_138 ⟨Nat.le_of_ble_eq_true rfl, Nat.le_of_ble_eq_true rfl⟩ ?_
            rintro _ _ ⟨rfl, k1, k2, k3, k4⟩
            rename_i σ9
            refine zb_st (st' := [.int (τ.1 (zN (τ.1 0 0)) 1)]) rfl ?_
            exact zx_ret (zb_iret d_Sh_join_141 rfl ⟨r, a, b, k, hr, rfl, ha, rfl, hb, rfl, rfl, hjo, by rw [zct_eq hz.2.2]; exact hz.2.2.1, zfin hw ((zst_k σ _ hw.sp).tr (zf.k hw.sp hf)) (fun k h1 h2 h3 h4 => (hf.1 k h1 h2 h3).trans (zst_n σ _ h1)) hr (hf.2.2.trans (zst_0 σ _ _)) (by omega) hw3 hz (fun t ht => (jD_ne ht).2.1) ⟨rfl, k1, k2, k3, k4⟩⟩)
          · refine zb_iload d_Sh_join_131 rfl ?_
            refine zx_callS (rest := []) (c_refuseIfFull l G hl) (lk_Sh_50.cw rfl rfl ⟨Nat.le_of_ble_eq_true rfl, Nat.le_of_ble_eq_true rfl⟩) rfl rfl (Nat.le_of_ble_eq_true rfl) d_Sh_join_133 ⟨Nat.le_of_ble_eq_true rfl, Nat.le_of_ble_eq_true rfl⟩ ?_ ?_
            rotate_left
            · rintro E _ ⟨rfl, -, rfl⟩; exact zx_out ⟨Or.inr (Or.inr ⟨rfl, r, a, b, k, hr, rfl, ha, rfl, hb, rfl, rfl, hjo, hfull⟩), zwf_spare hw (fun k h1 h2 h3 h4 => (hf.1 k h1 h2 h3).trans (zst_n σ _ h1)), (zst_k σ _ hw.sp).tr (zf.k hw.sp hf)⟩ (Nat.le_of_ble_eq_true rfl) (Nat.le_of_ble_eq_true rfl)
            rintro _ _ ⟨-, h0, -⟩
            exact absurd rfl h0
