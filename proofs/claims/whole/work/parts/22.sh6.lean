set_option maxHeartbeats 4000000 in
set_option maxRecDepth 100000 in
/-- alter(to, op, a, b) -/
theorem c_alter (l : Launch) (G : zG) {σ : zS} {x o y z : Int32} {M : Nat → Nat → Int32} {w : Nat → Nat} (hl : l.stackTraces = false) (hw : zwf σ M w) : zCX l G y_Sh_alter w_Sh_alter (zrz 8 160 6) 6 36 [.ref (zad G 0), .int x, .int o, .int y, .int z] σ (fun v σ' => ∃ r op a b : Nat, r < 8 ∧ x = nI r ∧ op < 6 ∧ o = nI op ∧ a < 8 ∧ y = nI a ∧ b < 8 ∧ z = nI b ∧ w a = w b ∧ zct (fun t => alt op (M a t) (M b t)) 4096 ≤ 300 ∧ v = some (.int (nI (zct (fun t => alt op (M a t) (M b t)) 4096))) ∧ zwf σ' (uM M r (fun t => alt op (M a t) (M b t))) (uM w r (w a)) ∧ zk σ σ') (fun E σ' => (E = zNS ∧ ¬ (zgr x ∧ zgr y ∧ zgr z) ∨ (E = zIA ∧ ∃ r a b : Nat, r < 8 ∧ x = nI r ∧ a < 8 ∧ y = nI a ∧ b < 8 ∧ z = nI b ∧ ¬ ∃ op : Nat, op < 6 ∧ o = nI op ∧ w a = w b) ∨ E = zIS ∧ ∃ r op a b : Nat, r < 8 ∧ x = nI r ∧ op < 6 ∧ o = nI op ∧ a < 8 ∧ y = nI a ∧ b < 8 ∧ z = nI b ∧ w a = w b ∧ 300 < zct (fun t => alt op (M a t) (M b t)) 4096) ∧ zwf σ' M w ∧ zk σ σ') := by
  refine zCX_of (cc := c_Sh_alter) (nL := 10) (ret := (some .int)) (own := R_Sh) (by decide +kernel) rfl rfl (Nat.le_of_ble_eq_true rfl) ?_
  refine zb_lv (lv' := [(0, .ref (zad G 0)), (1, .int x), (2, .int o), (3, .int y), (4, .int z)]) rfl ?_
  refine zb_iload_n d_Sh_alter_0 rfl rfl ?_
  refine zx_callS (rest := []) (c_mustBe l G hl) (lk_Sh_63.cw rfl rfl ⟨Nat.le_of_ble_eq_true rfl, Nat.le_of_ble_eq_true rfl⟩) rfl rfl (Nat.le_of_ble_eq_true rfl) d_Sh_alter_1 ⟨Nat.le_of_ble_eq_true rfl, Nat.le_of_ble_eq_true rfl⟩ ?_ ?_
  rotate_left
  · rintro E _ ⟨rfl, hx, rfl⟩; exact zx_out ⟨Or.inl ⟨rfl, fun z => hx z.1⟩, hw, zk.rf _⟩ (Nat.le_of_ble_eq_true rfl) (Nat.le_of_ble_eq_true rfl)
  rintro _ _ ⟨rfl, ⟨r, hr, rfl⟩, rfl⟩
  refine zb_lv (lv' := [(0, .ref (zad G 0)), (1, .int (nI r)), (2, .int o), (3, .int y), (4, .int z)]) rfl ?_
  refine zb_st (st' := []) rfl ?_
  refine zb_aload_n d_Sh_alter_4 rfl rfl ?_
  refine zb_iload_n d_Sh_alter_5 rfl rfl ?_
  refine zx_callV (rest := []) (c_relationOf l G hl) (lk_Sh_24.cw rfl rfl ⟨Nat.le_of_ble_eq_true rfl, Nat.le_of_ble_eq_true rfl⟩) zgS rfl rfl rfl rfl (Nat.le_of_ble_eq_true rfl) d_Sh_alter_6 ⟨Nat.le_of_ble_eq_true rfl, Nat.le_of_ble_eq_true rfl⟩ ?_ ?_
  rotate_left
  · rintro E _ ⟨rfl, hx, rfl⟩; exact zx_out ⟨Or.inl ⟨rfl, fun z => hx z.2.1⟩, hw, zk.rf _⟩ (Nat.le_of_ble_eq_true rfl) (Nat.le_of_ble_eq_true rfl)
  rintro _ _ ⟨a, ha, rfl, rfl, rfl⟩
  refine zb_lv (lv' := [(0, .ref (zad G 0)), (1, .int (nI r)), (2, .int o), (3, .int (nI a)), (4, .int z)]) rfl ?_
  refine zb_st (st' := [.ref (zad G (zN (σ.1 1 a)))]) rfl ?_
  refine zb_astore (lv' := [(5, .ref (zad G (zN (σ.1 1 a)))), (0, .ref (zad G 0)), (1, .int (nI r)), (2, .int o), (3, .int (nI a)), (4, .int z)]) d_Sh_alter_9 (by decide) rfl ?_
  refine zb_aload_n d_Sh_alter_11 rfl rfl ?_
  refine zb_iload d_Sh_alter_12 rfl ?_
  refine zx_callV (rest := []) (c_relationOf l G hl) (lk_Sh_24.cw rfl rfl ⟨Nat.le_of_ble_eq_true rfl, Nat.le_of_ble_eq_true rfl⟩) zgS rfl rfl rfl rfl (Nat.le_of_ble_eq_true rfl) d_Sh_alter_14 ⟨Nat.le_of_ble_eq_true rfl, Nat.le_of_ble_eq_true rfl⟩ ?_ ?_
  rotate_left
  · rintro E _ ⟨rfl, hx, rfl⟩; exact zx_out ⟨Or.inl ⟨rfl, fun z => hx z.2.2⟩, hw, zk.rf _⟩ (Nat.le_of_ble_eq_true rfl) (Nat.le_of_ble_eq_true rfl)
  rintro _ _ ⟨b, hb, rfl, rfl, rfl⟩
  refine zb_lv (lv' := [(5, .ref (zad G (zN (σ.1 1 a)))), (0, .ref (zad G 0)), (1, .int (nI r)), (2, .int o), (3, .int (nI a)), (4, .int (nI b))]) rfl ?_
  refine zb_st (st' := [.ref (zad G (zN (σ.1 1 b)))]) rfl ?_
  refine zb_astore (lv' := [(6, .ref (zad G (zN (σ.1 1 b)))), (5, .ref (zad G (zN (σ.1 1 a)))), (0, .ref (zad G 0)), (1, .int (nI r)), (2, .int o), (3, .int (nI a)), (4, .int (nI b))]) d_Sh_alter_17 (by decide) rfl ?_
  refine zb_iload_n d_Sh_alter_19 rfl rfl ?_
  refine zb_if_lt (tgt := 32) d_Sh_alter_20 rfl (fun h20 => ?_) (fun h20 => ?_)
  · refine zb_iconst (v := 0) d_Sh_alter_32 rfl ?_
    refine zx_callS (rest := []) (c_refuseUnless l G hl) (lk_Sh_28.cw rfl rfl ⟨Nat.le_of_ble_eq_true rfl, Nat.le_of_ble_eq_true rfl⟩) rfl rfl (Nat.le_of_ble_eq_true rfl) d_Sh_alter_33 ⟨Nat.le_of_ble_eq_true rfl, Nat.le_of_ble_eq_true rfl⟩ ?_ ?_
    rotate_left
    · rintro E _ ⟨rfl, -, rfl⟩; exact zx_out ⟨Or.inr (Or.inl ⟨rfl, r, a, b, hr, rfl, ha, rfl, hb, rfl, fun ⟨k, h1, e, h2⟩ => by subst e; exact absurd h20 (nI_pos (by omega))⟩), hw, zk.rf _⟩ (Nat.le_of_ble_eq_true rfl) (Nat.le_of_ble_eq_true rfl)
    rintro _ _ ⟨-, h0, -⟩
    exact absurd rfl h0
  · refine zb_iload_n d_Sh_alter_23 rfl rfl ?_
    refine zb_iconst (v := 5) d_Sh_alter_24 rfl ?_
    refine zb_icmp_gt (tgt := 32) d_Sh_alter_25 rfl (fun h25 => ?_) (fun h25 => ?_)
    · refine zb_iconst (v := 0) d_Sh_alter_32 rfl ?_
      refine zx_callS (rest := []) (c_refuseUnless l G hl) (lk_Sh_28.cw rfl rfl ⟨Nat.le_of_ble_eq_true rfl, Nat.le_of_ble_eq_true rfl⟩) rfl rfl (Nat.le_of_ble_eq_true rfl) d_Sh_alter_33 ⟨Nat.le_of_ble_eq_true rfl, Nat.le_of_ble_eq_true rfl⟩ ?_ ?_
      rotate_left
      · rintro E _ ⟨rfl, -, rfl⟩; exact zx_out ⟨Or.inr (Or.inl ⟨rfl, r, a, b, hr, rfl, ha, rfl, hb, rfl, fun ⟨k, h1, e, h2⟩ => by subst e; exact absurd h25 (nI_nlt (a := 5) (b := k) (by omega) (by decide))⟩), hw, zk.rf _⟩ (Nat.le_of_ble_eq_true rfl) (Nat.le_of_ble_eq_true rfl)
      rintro _ _ ⟨-, h0, -⟩
      exact absurd rfl h0
    · refine zb_iconst (v := 1) d_Sh_alter_28 rfl ?_
      refine zb_goto (tgt := 33) d_Sh_alter_29 rfl ?_
      refine zx_callS (rest := []) (c_refuseUnless l G hl) (lk_Sh_28.cw rfl rfl ⟨Nat.le_of_ble_eq_true rfl, Nat.le_of_ble_eq_true rfl⟩) rfl rfl (Nat.le_of_ble_eq_true rfl) d_Sh_alter_33 ⟨Nat.le_of_ble_eq_true rfl, Nat.le_of_ble_eq_true rfl⟩ ?_ ?_
      rotate_left
      · rintro E _ ⟨-, h0, -⟩; exact absurd h0 (by decide)
      rintro _ _ ⟨rfl, -, rfl⟩
      refine zb_st (st' := []) rfl ?_
      obtain ⟨op, ho31, rfl⟩ := nI_of h20
      have hop : op < 6 := by have := (nI_leI (b := 5) ho31 (by decide)).mp (Int32.not_lt.mp h25); omega
      have hwa := (hw.at ha).2.2.1
      have hwb := (hw.at hb).2.2.1
      refine zb_lv (lv' := [(6, .ref (zad G (zN (σ.1 1 b)))), (5, .ref (zad G (zN (σ.1 1 a)))), (0, .ref (zad G 0)), (1, .int (nI r)), (2, .int (nI op)), (3, .int (nI a)), (4, .int (nI b))]) (rfl) ?_
      refine zb_aload d_Sh_alter_36 rfl ?_
      refine zr_width (q := zN (σ.1 1 a)) d_Sh_alter_38 fl_Sh_40 (hw.rl ha) ?_
      refine zb_top (y := nI (w a)) ((hw.at ha).1) ?_
      refine zb_aload d_Sh_alter_41 rfl ?_
      refine zr_width (q := zN (σ.1 1 b)) d_Sh_alter_43 fl_Sh_40 (hw.rl hb) ?_
      refine zb_top (y := nI (w b)) ((hw.at hb).1) ?_
      refine zb_icmp_ne (tgt := 53) d_Sh_alter_46 rfl (fun h46 => ?_) (fun h46 => ?_)
      · refine zb_iconst (v := 0) d_Sh_alter_53 rfl ?_
        refine zx_callS (rest := []) (c_refuseUnless l G hl) (lk_Sh_28.cw rfl rfl ⟨Nat.le_of_ble_eq_true rfl, Nat.le_of_ble_eq_true rfl⟩) rfl rfl (Nat.le_of_ble_eq_true rfl) d_Sh_alter_54 ⟨Nat.le_of_ble_eq_true rfl, Nat.le_of_ble_eq_true rfl⟩ ?_ ?_
        rotate_left
        · rintro E _ ⟨rfl, -, rfl⟩; exact zx_out ⟨Or.inr (Or.inl ⟨rfl, r, a, b, hr, rfl, ha, rfl, hb, rfl, fun ⟨k, h1, e, h2⟩ => h46 (by rw [h2])⟩), hw, zk.rf _⟩ (Nat.le_of_ble_eq_true rfl) (Nat.le_of_ble_eq_true rfl)
        rintro _ _ ⟨-, h0, -⟩
        exact absurd rfl h0
      · refine zb_iconst (v := 1) d_Sh_alter_49 rfl ?_
        refine zb_goto (tgt := 54) d_Sh_alter_50 rfl ?_
        refine zx_callS (rest := []) (c_refuseUnless l G hl) (lk_Sh_28.cw rfl rfl ⟨Nat.le_of_ble_eq_true rfl, Nat.le_of_ble_eq_true rfl⟩) rfl rfl (Nat.le_of_ble_eq_true rfl) d_Sh_alter_54 ⟨Nat.le_of_ble_eq_true rfl, Nat.le_of_ble_eq_true rfl⟩ ?_ ?_
        rotate_left
        · rintro E _ ⟨-, h0, -⟩; exact absurd h0 (by decide)
        rintro _ _ ⟨rfl, -, rfl⟩
        refine zb_st (st' := []) rfl ?_
        have hww : w a = w b := (nI_eq (by omega) (by omega)).mp h46
        refine zb_aload_n d_Sh_alter_57 rfl rfl ?_
        refine zs_spare d_Sh_alter_58 fl_Sh_16 ?_
        refine zb_aload d_Sh_alter_61 rfl ?_
        refine zr_width (q := zN (σ.1 1 a)) d_Sh_alter_63 fl_Sh_40 (hw.rl ha) ?_
        refine zb_top (y := nI (w a)) ((hw.at ha).1) ?_
        refine zb_callV (rest := []) (c_startAnew l G hw.sp) (lk_Sh_36.cw rfl rfl ⟨Nat.le_of_ble_eq_true rfl, Nat.le_of_ble_eq_true rfl⟩) (zgR hw.sp) rfl rfl rfl rfl (Nat.le_of_ble_eq_true rfl) d_Sh_alter_66 ⟨Nat.le_of_ble_eq_true rfl, Nat.le_of_ble_eq_true rfl⟩ ?_
        rintro _ _ ⟨rfl, rfl⟩
        refine zb_st (st' := []) rfl ?_
        refine zb_iconst (v := 1) d_Sh_alter_69 rfl ?_
        refine zb_istore (lv' := [(7, .int 1), (6, .ref (zad G (zN (σ.1 1 b)))), (5, .ref (zad G (zN (σ.1 1 a)))), (0, .ref (zad G 0)), (1, .int (nI r)), (2, .int (nI op)), (3, .int (nI a)), (4, .int (nI b))]) d_Sh_alter_70 (by decide) rfl ?_
        refine zb_lv (lv' := [(7, .int (nI 1)), (6, .ref (zad G (zN (σ.1 1 b)))), (5, .ref (zad G (zN (σ.1 1 a)))), (0, .ref (zad G 0)), (1, .int (nI r)), (2, .int (nI op)), (3, .int (nI a)), (4, .int (nI b))]) (rfl) ?_
        refine zb_iconst (v := 0) d_Sh_alter_72 rfl ?_
        refine zb_istore (lv' := [(8, .int 0), (7, .int (nI 1)), (6, .ref (zad G (zN (σ.1 1 b)))), (5, .ref (zad G (zN (σ.1 1 a)))), (0, .ref (zad G 0)), (1, .int (nI r)), (2, .int (nI op)), (3, .int (nI a)), (4, .int (nI b))]) d_Sh_alter_73 (by decide) rfl ?_
        refine zb_lv (lv' := [(8, .int (nI 0)), (7, .int (nI 1)), (6, .ref (zad G (zN (σ.1 1 b)))), (5, .ref (zad G (zN (σ.1 1 a)))), (0, .ref (zad G 0)), (1, .int (nI r)), (2, .int (nI op)), (3, .int (nI a)), (4, .int (nI b))]) rfl ?_
        obtain ⟨n, hn⟩ := (hw.at ha).2.2.2.1
        obtain ⟨n2, hn2⟩ := (hw.at hb).2.2.2.1
        have ap := (hw.rl ha).apart hw.sp (hw.1.2 a ha).2
        have ap2 := (hw.rl hb).apart hw.sp (hw.1.2 b hb).2
        have hsn := hw.sp.1
        have hzq : zr (zst σ (zN (σ.1 0 0)) (nI (w a))) (zN (σ.1 1 a)) n (M a) := hn.same (zst_n σ _ ap.1) (zst_n σ _ ap.2.2.2.1) (zst_n σ _ ap.2.2.2.2.2.2.1)
        have hzq2 : zr (zst σ (zN (σ.1 0 0)) (nI (w a))) (zN (σ.1 1 b)) n2 (M b) := hn2.same (zst_n σ _ ap2.1) (zst_n σ _ ap2.2.2.2.1) (zst_n σ _ ap2.2.2.2.2.2.2.1)
        have h00 : (zst σ (zN (σ.1 0 0)) (nI (w a))).1 0 0 = nI (zN (σ.1 0 0)) := by rw [zst_n σ _ (by omega)]; exact hw.sp.nI
        refine zb_sub [0, 1, 4, 5, 6, 7, 8, 3, 2] rfl ?_
        refine lp_alter1 l G (s := zN (σ.1 0 0)) (q := zN (σ.1 1 a)) (q2 := zN (σ.1 1 b)) hw.sp (hw.1.2 a ha).2 (hw.1.2 b hb).2 h00 hzq hzq2 hop (fun τ ns hf hz => ?_) (fun τ i hf hfull => ?_) n 0 _ 0 (by omega) (zf.rf _ _) (zr_start hw.sp)
        · refine zb_iconst (v := 0) d_Sh_alter_136 rfl ?_
          refine zb_istore (lv' := [(8, .int 0), (7, .int (nI 1)), (0, .ref (zad G 0)), (1, .int (nI r)), (2, .int (nI op)), (3, .int (nI a)), (4, .int (nI b)), (5, .ref (zad G (zN (σ.1 1 a)))), (6, .ref (zad G (zN (σ.1 1 b))))]) d_Sh_alter_137 (by decide) rfl ?_
          refine zb_lv (lv' := [(8, .int (nI 0)), (7, .int (nI 1)), (0, .ref (zad G 0)), (1, .int (nI r)), (2, .int (nI op)), (3, .int (nI a)), (4, .int (nI b)), (5, .ref (zad G (zN (σ.1 1 a)))), (6, .ref (zad G (zN (σ.1 1 b))))]) rfl ?_
          refine zb_sub [0, 1, 2, 3, 4, 5, 6, 7, 8] rfl ?_
          refine lp_alter2 l G (s := zN (σ.1 0 0)) (q := zN (σ.1 1 a)) (q2 := zN (σ.1 1 b)) hw.sp (hw.1.2 a ha).2 (hw.1.2 b hb).2 h00 hzq hzq2 hop (fun τ2 ns2 hf2 hz2 => ?_) (fun τ2 i2 hf2 hfull2 => ?_) n2 0 τ ns (by omega) hf hz
          · refine zb_iload d_Sh_alter_204 rfl ?_
            refine zx_callS (rest := []) (c_refuseIfFull l G hl) (lk_Sh_50.cw rfl rfl ⟨Nat.le_of_ble_eq_true rfl, Nat.le_of_ble_eq_true rfl⟩) rfl rfl (Nat.le_of_ble_eq_true rfl) d_Sh_alter_206 ⟨Nat.le_of_ble_eq_true rfl, Nat.le_of_ble_eq_true rfl⟩ ?_ ?_
            rotate_left
            · rintro E _ ⟨-, h0, -⟩; exact absurd h0 (by decide)
            rintro _ _ ⟨rfl, -, rfl⟩
            refine zb_st (st' := []) rfl ?_
            have t0 : τ2.1 0 = σ.1 0 := (hf2.1 0 (by omega) (by omega) (by omega)).trans (zst_n σ _ (by omega))
            have t1 : τ2.1 1 = σ.1 1 := (hf2.1 1 (by omega) (by omega) (by omega)).trans (zst_n σ _ (by omega))
            rw [alt_all hzq.2.2 hzq2.2.2 hop] at hz2
            refine zb_aload_n d_Sh_alter_209 rfl rfl ?_
            refine zb_iload_n d_Sh_alter_210 rfl rfl ?_
            refine zb_callV (rest := []) (c_keepSpareAs l G hr (by rw [t0]; exact hw.sp) (by rw [t1]; exact hw.rl hr)) (lk_Sh_70.cw rfl rfl ⟨Nat.le_of_ble_eq_true rfl, Nat.le_of_ble_eq_true rfl⟩) zgS rfl rfl rfl rfl (Nat.le_of_ble_eq_true rfl) d_Sh_alter_211 ⟨Nat.le_of_ble_eq_true rfl, Nat.le_of_ble_eq_true rfl⟩ ?_
            rintro _ _ ⟨rfl, k1, k2, k3, k4⟩
            rename_i σ9
            refine zb_st (st' := [.int (τ2.1 (zN (τ2.1 0 0)) 1)]) rfl ?_
            exact zx_ret (zb_iret d_Sh_alter_214 rfl ⟨r, op, a, b, hr, rfl, hop, rfl, ha, rfl, hb, rfl, hww, by rw [zct_eq hz2.2.2]; exact hz2.2.2.1, zfin hw ((zst_k σ _ hw.sp).tr (zf.k hw.sp hf2)) (fun k h1 h2 h3 h4 => (hf2.1 k h1 h2 h3).trans (zst_n σ _ h1)) hr (hf2.2.2.trans (zst_0 σ _ _)) (hw.at ha).2.1 (hw.at ha).2.2.1 hz2 (fun t ht => by
              by_cases e : M a t = 0
              · by_cases e2 : M b t = 0
                · exact absurd (show alt op (M a t) (M b t) = 0 by rw [e, e2]; exact alt_00 op hop) ht
                · rw [hww]; exact (hw.at hb).2.2.2.2 t e2
              · exact (hw.at ha).2.2.2.2 t e) ⟨rfl, k1, k2, k3, k4⟩⟩)
          · refine zb_iload d_Sh_alter_204 rfl ?_
            refine zx_callS (rest := []) (c_refuseIfFull l G hl) (lk_Sh_50.cw rfl rfl ⟨Nat.le_of_ble_eq_true rfl, Nat.le_of_ble_eq_true rfl⟩) rfl rfl (Nat.le_of_ble_eq_true rfl) d_Sh_alter_206 ⟨Nat.le_of_ble_eq_true rfl, Nat.le_of_ble_eq_true rfl⟩ ?_ ?_
            rotate_left
            · rintro E _ ⟨rfl, -, rfl⟩; exact zx_out ⟨Or.inr (Or.inr ⟨rfl, r, op, a, b, hr, rfl, hop, rfl, ha, rfl, hb, rfl, hww, hfull2⟩), zwf_spare hw (fun k h1 h2 h3 h4 => (hf2.1 k h1 h2 h3).trans (zst_n σ _ h1)), (zst_k σ _ hw.sp).tr (zf.k hw.sp hf2)⟩ (Nat.le_of_ble_eq_true rfl) (Nat.le_of_ble_eq_true rfl)
            rintro _ _ ⟨-, h0, -⟩
            exact absurd rfl h0
        · refine zb_iconst (v := 0) d_Sh_alter_136 rfl ?_
          refine zb_istore (lv' := [(8, .int 0), (7, .int (nI 0)), (0, .ref (zad G 0)), (1, .int (nI r)), (2, .int (nI op)), (3, .int (nI a)), (4, .int (nI b)), (5, .ref (zad G (zN (σ.1 1 a)))), (6, .ref (zad G (zN (σ.1 1 b))))]) d_Sh_alter_137 (by decide) rfl ?_
          refine zb_lv (lv' := [(8, .int (nI 0)), (7, .int (nI 0)), (0, .ref (zad G 0)), (1, .int (nI r)), (2, .int (nI op)), (3, .int (nI a)), (4, .int (nI b)), (5, .ref (zad G (zN (σ.1 1 a)))), (6, .ref (zad G (zN (σ.1 1 b))))]) rfl ?_
          refine zb_sub [0, 1, 2, 3, 4, 5, 6, 7, 8] rfl ?_
          refine lf_alter2 l G (s := zN (σ.1 0 0)) (q := zN (σ.1 1 a)) (q2 := zN (σ.1 1 b)) hw.sp (hw.1.2 a ha).2 (hw.1.2 b hb).2 h00 hzq hzq2 hop hf (fun i3 => ?_) _
          refine zb_iload d_Sh_alter_204 rfl ?_
          refine zx_callS (rest := []) (c_refuseIfFull l G hl) (lk_Sh_50.cw rfl rfl ⟨Nat.le_of_ble_eq_true rfl, Nat.le_of_ble_eq_true rfl⟩) rfl rfl (Nat.le_of_ble_eq_true rfl) d_Sh_alter_206 ⟨Nat.le_of_ble_eq_true rfl, Nat.le_of_ble_eq_true rfl⟩ ?_ ?_
          rotate_left
          · rintro E _ ⟨rfl, -, rfl⟩; exact zx_out ⟨Or.inr (Or.inr ⟨rfl, r, op, a, b, hr, rfl, hop, rfl, ha, rfl, hb, rfl, hww, hfull⟩), zwf_spare hw (fun k h1 h2 h3 h4 => (hf.1 k h1 h2 h3).trans (zst_n σ _ h1)), (zst_k σ _ hw.sp).tr (zf.k hw.sp hf)⟩ (Nat.le_of_ble_eq_true rfl) (Nat.le_of_ble_eq_true rfl)
          rintro _ _ ⟨-, h0, -⟩
          exact absurd rfl h0
set_option maxHeartbeats 4000000 in
set_option maxRecDepth 100000 in
/-- same(a, b) -/
theorem c_same (l : Launch) (G : zG) {σ : zS} {x y : Int32} {M : Nat → Nat → Int32} {w : Nat → Nat} (hl : l.stackTraces = false) (hw : zwf σ M w) : zCX l G y_Sh_same w_Sh_same (zrz 8 130 2) 2 12 [.ref (zad G 0), .int x, .int y] σ (fun v σ' => ∃ a b : Nat, a < 8 ∧ x = nI a ∧ b < 8 ∧ y = nI b ∧ ((w a = w b ∧ M a = M b) ∧ v = some (.int 1) ∨ ¬ (w a = w b ∧ M a = M b) ∧ v = some (.int 0)) ∧ σ = σ') (fun E σ' => E = zNS ∧ ¬ (zgr x ∧ zgr y) ∧ σ = σ') := by
  refine zCX_of (cc := c_Sh_same) (nL := 5) (ret := (some .boolean)) (own := R_Sh) (by decide +kernel) rfl rfl (Nat.le_of_ble_eq_true rfl) ?_
  refine zb_lv (lv' := [(0, .ref (zad G 0)), (1, .int x), (2, .int y)]) rfl ?_
  refine zb_aload_n d_Sh_same_0 rfl rfl ?_
  refine zb_iload_n d_Sh_same_1 rfl rfl ?_
  refine zx_callV (rest := []) (c_relationOf l G hl) (lk_Sh_24.cw rfl rfl ⟨Nat.le_of_ble_eq_true rfl, Nat.le_of_ble_eq_true rfl⟩) zgS rfl rfl rfl rfl (Nat.le_of_ble_eq_true rfl) d_Sh_same_2 ⟨Nat.le_of_ble_eq_true rfl, Nat.le_of_ble_eq_true rfl⟩ ?_ ?_
  rotate_left
  · rintro E _ ⟨rfl, hx, rfl⟩; exact zx_out ⟨rfl, fun z => hx z.1, rfl⟩ (Nat.le_of_ble_eq_true rfl) (Nat.le_of_ble_eq_true rfl)
  rintro _ _ ⟨a, ha, rfl, rfl, rfl⟩
  refine zb_lv (lv' := [(0, .ref (zad G 0)), (1, .int (nI a)), (2, .int y)]) rfl ?_
  refine zb_st (st' := [.ref (zad G (zN (σ.1 1 a)))]) rfl ?_
  refine zb_astore_n (lv' := [(3, .ref (zad G (zN (σ.1 1 a)))), (0, .ref (zad G 0)), (1, .int (nI a)), (2, .int y)]) d_Sh_same_5 rfl (by decide) rfl ?_
  refine zb_aload_n d_Sh_same_6 rfl rfl ?_
  refine zb_iload_n d_Sh_same_7 rfl rfl ?_
  refine zx_callV (rest := []) (c_relationOf l G hl) (lk_Sh_24.cw rfl rfl ⟨Nat.le_of_ble_eq_true rfl, Nat.le_of_ble_eq_true rfl⟩) zgS rfl rfl rfl rfl (Nat.le_of_ble_eq_true rfl) d_Sh_same_8 ⟨Nat.le_of_ble_eq_true rfl, Nat.le_of_ble_eq_true rfl⟩ ?_ ?_
  rotate_left
  · rintro E _ ⟨rfl, hx, rfl⟩; exact zx_out ⟨rfl, fun z => hx z.2, rfl⟩ (Nat.le_of_ble_eq_true rfl) (Nat.le_of_ble_eq_true rfl)
  rintro _ _ ⟨b, hb, rfl, rfl, rfl⟩
  refine zb_lv (lv' := [(3, .ref (zad G (zN (σ.1 1 a)))), (0, .ref (zad G 0)), (1, .int (nI a)), (2, .int (nI b))]) rfl ?_
  refine zb_st (st' := [.ref (zad G (zN (σ.1 1 b)))]) rfl ?_
  refine zb_astore (lv' := [(4, .ref (zad G (zN (σ.1 1 b)))), (3, .ref (zad G (zN (σ.1 1 a)))), (0, .ref (zad G 0)), (1, .int (nI a)), (2, .int (nI b))]) d_Sh_same_11 (by decide) rfl ?_
  obtain ⟨n, hn⟩ := (hw.at ha).2.2.2.1
  obtain ⟨n2, hn2⟩ := (hw.at hb).2.2.2.1
  refine zb_aload_n d_Sh_same_13 rfl rfl ?_
  refine zb_aload d_Sh_same_14 rfl ?_
  by_cases hc : w a = w b ∧ M a = M b
  · refine zb_callV (rest := []) (c_holdsWhat l G hn hn2 (hw.at ha).1 (hw.at hb).1 (hw.at ha).2.2.1 (hw.at hb).2.2.1) (lk_Sh_119.cw rfl rfl ⟨(Nat.le_of_ble_eq_true rfl), (Nat.le_of_ble_eq_true rfl)⟩) (zgR (hw.rl ha)) rfl rfl rfl rfl (Nat.le_of_ble_eq_true rfl) d_Sh_same_16 ⟨(Nat.le_of_ble_eq_true rfl), (Nat.le_of_ble_eq_true rfl)⟩ ?_
    rintro v9 _ ⟨v1, -, rfl⟩
    cases v1 hc
    refine zb_st (st' := [.int 1]) rfl ?_
    exact zx_ret (zb_zret d_Sh_same_19 rfl rfl ⟨a, b, ha, rfl, hb, rfl, Or.inl ⟨hc, rfl⟩, rfl⟩)
  · refine zb_callV (rest := []) (c_holdsWhat l G hn hn2 (hw.at ha).1 (hw.at hb).1 (hw.at ha).2.2.1 (hw.at hb).2.2.1) (lk_Sh_119.cw rfl rfl ⟨(Nat.le_of_ble_eq_true rfl), (Nat.le_of_ble_eq_true rfl)⟩) (zgR (hw.rl ha)) rfl rfl rfl rfl (Nat.le_of_ble_eq_true rfl) d_Sh_same_16 ⟨(Nat.le_of_ble_eq_true rfl), (Nat.le_of_ble_eq_true rfl)⟩ ?_
    rintro v9 _ ⟨-, v1, rfl⟩
    cases v1 hc
    refine zb_st (st' := [.int 0]) rfl ?_
    exact zx_ret (zb_zret d_Sh_same_19 rfl rfl ⟨a, b, ha, rfl, hb, rfl, Or.inr ⟨hc, rfl⟩, rfl⟩)
/-- what about answers -/
def abt (w : Nat) (m : Nat → Int32) (k : Nat) : Int64 := if k = 0 then (nI w).toInt64 else if k = 1 then (nI (zct m 4096)).toInt64 else if k = 2 then (nI (pc16 (fm fF 0 m 4096))).toInt64 else if k = 3 then fm fS 0 m 4096 else ((fm fG none m 4096).getD 0).toInt64
set_option maxHeartbeats 4000000 in
set_option maxRecDepth 100000 in
/-- about(r, what) -/
theorem c_about (l : Launch) (G : zG) {σ : zS} {x y : Int32} {M : Nat → Nat → Int32} {w : Nat → Nat} (hl : l.stackTraces = false) (hw : zwf σ M w) : zCX l G y_Sh_about w_Sh_about (zrz 8 130 2) 2 12 [.ref (zad G 0), .int x, .int y] σ (fun v σ' => ∃ a k : Nat, a < 8 ∧ x = nI a ∧ k < 5 ∧ y = nI k ∧ v = some (.long (abt (w a) (M a) k)) ∧ σ = σ') (fun E σ' => (E = zNS ∧ ¬ zgr x ∨ E = zIA ∧ zgr x ∧ ¬ ∃ k : Nat, k < 5 ∧ y = nI k) ∧ σ = σ') := by
  refine zCX_of (cc := c_Sh_about) (nL := 4) (ret := (some .long)) (own := R_Sh) (by decide +kernel) rfl rfl (Nat.le_of_ble_eq_true rfl) ?_
  refine zb_lv (lv' := [(0, .ref (zad G 0)), (1, .int x), (2, .int y)]) rfl ?_
  refine zb_aload_n d_Sh_about_0 rfl rfl ?_
  refine zb_iload_n d_Sh_about_1 rfl rfl ?_
  refine zx_callV (rest := []) (c_relationOf l G hl) (lk_Sh_24.cw rfl rfl ⟨Nat.le_of_ble_eq_true rfl, Nat.le_of_ble_eq_true rfl⟩) zgS rfl rfl rfl rfl (Nat.le_of_ble_eq_true rfl) d_Sh_about_2 ⟨Nat.le_of_ble_eq_true rfl, Nat.le_of_ble_eq_true rfl⟩ ?_ ?_
  rotate_left
  · rintro E _ ⟨rfl, hx, rfl⟩; exact zx_out ⟨Or.inl ⟨rfl, hx⟩, rfl⟩ (Nat.le_of_ble_eq_true rfl) (Nat.le_of_ble_eq_true rfl)
  rintro _ _ ⟨a, ha, rfl, rfl, rfl⟩
  refine zb_lv (lv' := [(0, .ref (zad G 0)), (1, .int (nI a)), (2, .int y)]) rfl ?_
  refine zb_st (st' := [.ref (zad G (zN (σ.1 1 a)))]) rfl ?_
  refine zb_astore_n (lv' := [(3, .ref (zad G (zN (σ.1 1 a)))), (0, .ref (zad G 0)), (1, .int (nI a)), (2, .int y)]) d_Sh_about_5 rfl (by decide) rfl ?_
  refine zb_iload_n d_Sh_about_6 rfl rfl ?_
  refine zb_if_lt (tgt := 19) d_Sh_about_7 rfl (fun h7 => ?_) (fun h7 => ?_)
  · refine zb_iconst (v := 0) d_Sh_about_19 rfl ?_
    refine zx_callS (rest := []) (c_refuseUnless l G hl) (lk_Sh_28.cw rfl rfl ⟨Nat.le_of_ble_eq_true rfl, Nat.le_of_ble_eq_true rfl⟩) rfl rfl (Nat.le_of_ble_eq_true rfl) d_Sh_about_20 ⟨Nat.le_of_ble_eq_true rfl, Nat.le_of_ble_eq_true rfl⟩ ?_ ?_
    rotate_left
    · rintro E _ ⟨rfl, -, rfl⟩; exact zx_out ⟨Or.inr ⟨rfl, ⟨a, ha, rfl⟩, fun ⟨k, h1, e⟩ => by subst e; exact absurd h7 (nI_pos (by omega))⟩, rfl⟩ (Nat.le_of_ble_eq_true rfl) (Nat.le_of_ble_eq_true rfl)
    rintro _ _ ⟨-, h0, -⟩
    exact absurd rfl h0
  · refine zb_iload_n d_Sh_about_10 rfl rfl ?_
    refine zb_iconst (v := 4) d_Sh_about_11 rfl ?_
    refine zb_icmp_gt (tgt := 19) d_Sh_about_12 rfl (fun h12 => ?_) (fun h12 => ?_)
    · refine zb_iconst (v := 0) d_Sh_about_19 rfl ?_
      refine zx_callS (rest := []) (c_refuseUnless l G hl) (lk_Sh_28.cw rfl rfl ⟨Nat.le_of_ble_eq_true rfl, Nat.le_of_ble_eq_true rfl⟩) rfl rfl (Nat.le_of_ble_eq_true rfl) d_Sh_about_20 ⟨Nat.le_of_ble_eq_true rfl, Nat.le_of_ble_eq_true rfl⟩ ?_ ?_
      rotate_left
      · rintro E _ ⟨rfl, -, rfl⟩; exact zx_out ⟨Or.inr ⟨rfl, ⟨a, ha, rfl⟩, fun ⟨k, h1, e⟩ => by subst e; exact absurd h12 (nI_nlt (a := 4) (b := k) (by omega) (by decide))⟩, rfl⟩ (Nat.le_of_ble_eq_true rfl) (Nat.le_of_ble_eq_true rfl)
      rintro _ _ ⟨-, h0, -⟩
      exact absurd rfl h0
    · refine zb_iconst (v := 1) d_Sh_about_15 rfl ?_
      refine zb_goto (tgt := 20) d_Sh_about_16 rfl ?_
      refine zx_callS (rest := []) (c_refuseUnless l G hl) (lk_Sh_28.cw rfl rfl ⟨Nat.le_of_ble_eq_true rfl, Nat.le_of_ble_eq_true rfl⟩) rfl rfl (Nat.le_of_ble_eq_true rfl) d_Sh_about_20 ⟨Nat.le_of_ble_eq_true rfl, Nat.le_of_ble_eq_true rfl⟩ ?_ ?_
      rotate_left
      · rintro E _ ⟨-, h0, -⟩; exact absurd h0 (by decide)
      rintro _ _ ⟨rfl, -, rfl⟩
      refine zb_st (st' := []) rfl ?_
      obtain ⟨k, hk31, rfl⟩ := nI_of h7
      have hk : k < 5 := by have := (nI_leI (b := 4) hk31 (by decide)).mp (Int32.not_lt.mp h12); omega
      obtain ⟨n, hn⟩ := (hw.at ha).2.2.2.1
      refine zb_lv (lv' := [(3, .ref (zad G (zN (σ.1 1 a)))), (0, .ref (zad G 0)), (1, .int (nI a)), (2, .int (nI k))]) (rfl) ?_
      refine zb_iload_n d_Sh_about_23 rfl rfl ?_
      rcases (show k = 0 ∨ k = 1 ∨ k = 2 ∨ k = 3 ∨ k = 4 by omega) with rfl | rfl | rfl | rfl | rfl
      · refine zb_tableIn (tgt := 56) d_Sh_about_24 (by decide) (by decide) rfl rfl ?_
        refine zb_lv (lv' := [(3, .ref (zad G (zN (σ.1 1 a)))), (0, .ref (zad G 0)), (1, .int (nI a)), (2, .int (nI 0))]) rfl ?_
        refine zb_aload_n d_Sh_about_56 rfl rfl ?_
        refine zr_width (q := zN (σ.1 1 a)) d_Sh_about_57 fl_Sh_40 (hw.rl ha) ?_
        refine zb_top (y := nI (w a)) ((hw.at ha).1) ?_
        refine zb_i2l (v := (nI (w a)).toInt64) d_Sh_about_60 rfl ?_
        exact zx_ret (zb_lret d_Sh_about_61 rfl ⟨a, 0, ha, rfl, by decide, rfl, rfl, rfl⟩)
      · refine zb_tableIn (tgt := 62) d_Sh_about_24 (by decide) (by decide) rfl rfl ?_
        refine zb_lv (lv' := [(3, .ref (zad G (zN (σ.1 1 a)))), (0, .ref (zad G 0)), (1, .int (nI a)), (2, .int (nI 1))]) rfl ?_
        refine zb_aload_n d_Sh_about_62 rfl rfl ?_
        refine zr_size (q := zN (σ.1 1 a)) d_Sh_about_63 fl_Sh_32 (hw.rl ha) ?_
        refine zb_top (y := nI n) (hn.2.1) ?_
        refine zb_i2l (v := (nI n).toInt64) d_Sh_about_66 rfl ?_
        exact zx_ret (zb_lret d_Sh_about_67 rfl ⟨a, 1, ha, rfl, by decide, rfl, by show _ = some (Value.long (nI (zct (M a) 4096)).toInt64); rw [zct_eq hn.2.2], rfl⟩)
      · refine zb_tableIn (tgt := 68) d_Sh_about_24 (by decide) (by decide) rfl rfl ?_
        refine zb_lv (lv' := [(3, .ref (zad G (zN (σ.1 1 a)))), (0, .ref (zad G 0)), (1, .int (nI a)), (2, .int (nI 2))]) rfl ?_
        refine zb_aload_n d_Sh_about_68 rfl rfl ?_
        refine zb_callV (rest := []) (c_firstNumbers l G (hw.rl ha) hn.2.1 hn.2.2) (lk_Sh_108.cw rfl rfl ⟨Nat.le_of_ble_eq_true rfl, Nat.le_of_ble_eq_true rfl⟩) (zgR (hw.rl ha)) rfl rfl rfl rfl (Nat.le_of_ble_eq_true rfl) d_Sh_about_69 ⟨Nat.le_of_ble_eq_true rfl, Nat.le_of_ble_eq_true rfl⟩ ?_
        rintro _ _ ⟨rfl, rfl⟩
        refine zb_st (st' := [.int (nI (pc16 (fc fF 0 (σ.1 (zN (σ.1 1 a) + 1)) (σ.1 (zN (σ.1 1 a) + 2)) n)))]) rfl ?_
        refine zb_i2l (v := (nI (pc16 (fc fF 0 (σ.1 (zN (σ.1 1 a) + 1)) (σ.1 (zN (σ.1 1 a) + 2)) n))).toInt64) d_Sh_about_72 rfl ?_
        exact zx_ret (zb_lret d_Sh_about_73 rfl ⟨a, 2, ha, rfl, by decide, rfl, by show _ = some (Value.long (nI (pc16 (fm fF 0 (M a) 4096))).toInt64); rw [fm_eq _ _ hn.2.2], rfl⟩)
      · refine zb_tableIn (tgt := 74) d_Sh_about_24 (by decide) (by decide) rfl rfl ?_
        refine zb_lv (lv' := [(3, .ref (zad G (zN (σ.1 1 a)))), (0, .ref (zad G 0)), (1, .int (nI a)), (2, .int (nI 3))]) rfl ?_
        refine zb_aload_n d_Sh_about_74 rfl rfl ?_
        refine zb_callV (rest := []) (c_sum l G (hw.rl ha) hn.2.1 hn.2.2.1) (lk_Sh_112.cw rfl rfl ⟨Nat.le_of_ble_eq_true rfl, Nat.le_of_ble_eq_true rfl⟩) (zgR (hw.rl ha)) rfl rfl rfl rfl (Nat.le_of_ble_eq_true rfl) d_Sh_about_75 ⟨Nat.le_of_ble_eq_true rfl, Nat.le_of_ble_eq_true rfl⟩ ?_
        rintro _ _ ⟨rfl, rfl⟩
        refine zb_st (st' := [.long (fc fS 0 (σ.1 (zN (σ.1 1 a) + 1)) (σ.1 (zN (σ.1 1 a) + 2)) n)]) rfl ?_
        exact zx_ret (zb_lret d_Sh_about_78 rfl ⟨a, 3, ha, rfl, by decide, rfl, by show _ = some (Value.long (fm fS 0 (M a) 4096)); rw [fm_eq _ _ hn.2.2], rfl⟩)
      · refine zb_tableOut (tgt := 79) d_Sh_about_24 (by decide) rfl ?_
        refine zb_lv (lv' := [(3, .ref (zad G (zN (σ.1 1 a)))), (0, .ref (zad G 0)), (1, .int (nI a)), (2, .int (nI 4))]) rfl ?_
        refine zb_aload_n d_Sh_about_79 rfl rfl ?_
        refine zb_callV (rest := []) (c_greatest l G (hw.rl ha) hn.2.1 hn.2.2.1) (lk_Sh_116.cw rfl rfl ⟨Nat.le_of_ble_eq_true rfl, Nat.le_of_ble_eq_true rfl⟩) (zgR (hw.rl ha)) rfl rfl rfl rfl (Nat.le_of_ble_eq_true rfl) d_Sh_about_80 ⟨Nat.le_of_ble_eq_true rfl, Nat.le_of_ble_eq_true rfl⟩ ?_
        rintro _ _ ⟨rfl, rfl⟩
        refine zb_st (st' := [.int ((fc fG none (σ.1 (zN (σ.1 1 a) + 1)) (σ.1 (zN (σ.1 1 a) + 2)) n).getD 0)]) rfl ?_
        refine zb_i2l (v := ((fc fG none (σ.1 (zN (σ.1 1 a) + 1)) (σ.1 (zN (σ.1 1 a) + 2)) n).getD 0).toInt64) d_Sh_about_83 rfl ?_
        exact zx_ret (zb_lret d_Sh_about_84 rfl ⟨a, 4, ha, rfl, by decide, rfl, by show _ = some (Value.long ((fm fG none (M a) 4096).getD 0).toInt64); rw [fm_eq _ _ hn.2.2], rfl⟩)
