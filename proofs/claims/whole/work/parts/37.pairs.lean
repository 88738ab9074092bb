section PAIRS
variable {l : Launch} {G : zG} {σ σ' : zS} {M : Nat → Nat → Int32} {w : Nat → Nat} {v : Option Value}
theorem pr_width {x y : Int32} (hw : zwf σ M w) (hm : zmw σ M w) (h : zWP (P_width M w x y σ) (X_width M w x y σ) oI v σ') : ∃ k, v = some (.int k) ∧ zC l G y_Mo_width w_Mo_width (zrm 2 60) 0 0 [.ref (zad G 30), .int x, .int y] σ' (zTI k) := by
  rcases h with ⟨xv, σ1, ⟨r, u, n, hr, rfl, ⟨h1, h3⟩, rfl, hz, hv, hw1, hk⟩, rfl, rfl⟩ | ⟨E, ⟨⟨rfl, hx⟩ | ⟨rfl, ⟨r, hr, rfl⟩, hx⟩, rfl⟩, rfl⟩
  · cases hv
    obtain rfl := zct_eq hz.2.2
    exact ⟨0, rfl, zTI_ok (zwf_zul _ hw1) (out0 _ _) (c_mwidth l G (zmw_zul _ (hk.mw hm)) hr h1 h3)⟩
  · exact ⟨_, rfl, by rw [zcd_1]; exact zTI_t hw hm (by decide) (c_mwidth_ns l G hx)⟩
  · exact ⟨_, rfl, by rw [zcd_2]; exact zTI_t hw hm (by decide) (c_mwidth_ia l G hr hx)⟩
theorem pr_put {x y z : Int32} (hw : zwf σ M w) (hm : zmw σ M w) (h : zWP (P_put M w x y z σ) (X_put M w x y z σ) oI v σ') : ∃ k, v = some (.int k) ∧ zC l G y_Mo_put w_Mo_put (zrm 2 60) 0 0 [.ref (zad G 30), .int x, .int y, .int z] σ' (zTI k) := by
  rcases h with ⟨xv, σ1, ⟨r, t, n, hr, rfl, ⟨ht, hd⟩, rfl, hz, hc, hv, hw1, hk⟩, rfl, rfl⟩ | ⟨E, ⟨⟨rfl, hx⟩ | ⟨rfl, r, hr, rfl, hx⟩ | ⟨rfl, r, t, n, hr, rfl, ⟨ht, hd⟩, rfl, hz, hc⟩, rfl⟩, rfl⟩
  · cases hv
    obtain rfl := zct_eq hz.2.2
    refine ⟨0, rfl, zTI_ok (zwf_zul _ hw1) (out0 _ _) ?_⟩
    have hm1 := zmw_zul (vp_updL σ1.2 0 (oI (.int (M r t + z)))) (hk.mw hm)
    by_cases h0 : M r t = 0
    · by_cases hb : M r t + z = 0
      · exact c_mput_2 l G hm1 hr (hw.at hr).2.1 (hw.at hr).2.2.1 ht hd h0 hb
      · refine c_mput_3 l G hm1 hr (hw.at hr).2.1 (hw.at hr).2.2.1 ht hd h0 hb ?_
        rcases hc with q | q | q
        · exact absurd h0 q
        · exact absurd (by rw [q, h0]; rfl) hb
        · omega
    · exact c_mput_1 l G hm1 hr (hw.at hr).2.1 (hw.at hr).2.2.1 ht hd h0
  · exact ⟨_, rfl, by rw [zcd_1]; exact zTI_t hw hm (by decide) (c_mput_ns l G hx)⟩
  · exact ⟨_, rfl, by rw [zcd_2]; exact zTI_t hw hm (by decide) (c_mput_ia l G hm hr (hw.at hr).2.1 (hw.at hr).2.2.1 hx)⟩
  · have h0 : M r t = 0 := Decidable.byContradiction (fun q => hc (Or.inl q))
    have hb : ¬ M r t + z = 0 := fun q => by
      rw [h0, Int32.zero_add] at q
      exact hc (Or.inr (Or.inl q))
    have hn : zct (M r) 4096 = 300 := by
      rw [zct_eq hz.2.2]
      have a := hz.2.2.1
      have b : ¬ n < 300 := fun q => hc (Or.inr (Or.inr q))
      omega
    exact ⟨_, rfl, by rw [zcd_3]; exact zTI_t hw hm (by decide) (c_mput_is l G hm hr (hw.at hr).2.1 (hw.at hr).2.2.1 ht hd h0 hb hn)⟩
theorem pr_count {x y : Int32} (hw : zwf σ M w) (hm : zmw σ M w) (h : zWP (P_count M w x y σ) (X_count M w x y σ) oI v σ') : ∃ k, v = some (.int k) ∧ zC l G y_Mo_count w_Mo_count (zrm 2 60) 0 0 [.ref (zad G 30), .int x, .int y] σ' (zTI k) := by
  rcases h with ⟨xv, σ1, ⟨r, t, hr, rfl, ⟨ht, hd⟩, rfl, hv, rfl⟩, rfl, rfl⟩ | ⟨E, ⟨⟨rfl, hx⟩ | ⟨rfl, r, hr, rfl, hx⟩, rfl⟩, rfl⟩
  · cases hv
    exact ⟨0, rfl, zTI_ok0 (zwf_zul _ hw) (zmw_zul _ hm) (out0 _ _) (c_mcount l G (zmw_zul _ hm) hr (hw.at hr).2.1 (hw.at hr).2.2.1 ht hd)⟩
  · exact ⟨_, rfl, by rw [zcd_1]; exact zTI_t hw hm (by decide) (c_mcount_ns l G hx)⟩
  · exact ⟨_, rfl, by rw [zcd_2]; exact zTI_t hw hm (by decide) (c_mcount_ia l G hm hr (hw.at hr).2.1 (hw.at hr).2.2.1 hx)⟩
theorem pr_at {x y : Int32} (hw : zwf σ M w) (hm : zmw σ M w) (h : zWP (P_at M w x y σ) (X_at M w x y σ) oI v σ') : ∃ k, v = some (.int k) ∧ zC l G y_Mo_at w_Mo_at (zrm 2 60) 0 0 [.ref (zad G 30), .int x, .int y] σ' (zTI k) := by
  rcases h with ⟨xv, σ1, ⟨r, k, n, hr, rfl, hk, rfl, hz, hv, rfl⟩, rfl, rfl⟩ | ⟨E, ⟨⟨rfl, hx⟩ | ⟨rfl, r, n, hr, rfl, hz, hx⟩, rfl⟩, rfl⟩
  · cases hv
    have a := hz.2.2.2.1 k hk
    have b := hz.2.2.2.2.2.1 k hk
    refine ⟨0, rfl, zTI_ok0 (n := nI (zN (σ.1 (zN (σ.1 1 r) + 1) k))) (zwf_zul _ hw) (zmw_zul _ hm) ?_ (c_mat l G (zmw_zul _ hm) hr a.1 (by rw [b.2]; exact b.1) (zct_at hz.2.2 hk) rfl)⟩
    rw [out0, ← a.2]
    rfl
  · exact ⟨_, rfl, by rw [zcd_1]; exact zTI_t hw hm (by decide) (c_mat_ns l G hx)⟩
  · exact ⟨_, rfl, by rw [zcd_1]; exact zTI_t hw hm (by decide) (c_mat_no l G hm hr (fun c hc e => hx ⟨c, by rw [zct_eq hz.2.2] at hc; exact hc, e⟩))⟩
theorem pr_join {x y z o : Int32} (hw : zwf σ M w) (hm : zmw σ M w) (h : zWP (P_join M w x y z o σ) (X_join M w x y z o σ) oI v σ') : ∃ k, v = some (.int k) ∧ zC l G y_Mo_join w_Mo_join (zrm 2 60) 0 0 [.ref (zad G 30), .int x, .int y, .int z, .int o] σ' (zTI k) := by
  rcases h with ⟨xv, σ1, ⟨r, a, b, k, hr, rfl, ha, rfl, hb, rfl, rfl, hj, hn, hv, hw1, hk⟩, rfl, rfl⟩ | ⟨E, ⟨⟨rfl, hx⟩ | ⟨rfl, r, a, b, hr, rfl, ha, rfl, hb, rfl, hx⟩ | ⟨rfl, r, a, b, k, hr, rfl, ha, rfl, hb, rfl, rfl, hj, hn⟩, hw1, hk⟩, rfl⟩
  · cases hv
    exact ⟨0, rfl, zTI_ok (zwf_zul _ hw1) (out0 _ _) (c_mjoin l G (zmw_zul _ (hk.mw hm)) hr ha hb hj hn)⟩
  · exact ⟨_, rfl, by rw [zcd_1]; exact zTI_t hw1 (hk.mw hm) (by decide) (c_mjoin_ns l G hx)⟩
  · exact ⟨_, rfl, by rw [zcd_2]; exact zTI_t hw1 (hk.mw hm) (by decide) (c_mjoin_ia l G (hk.mw hm) hr ha hb (hw.at ha).2.1 (hw.at hb).2.1 (hw.at ha).2.2.1 (hw.at hb).2.2.1 hx)⟩
  · exact ⟨_, rfl, by rw [zcd_3]; exact zTI_is hw1 (c_mjoin_is l G (hk.mw hm) hr ha hb hj hn)⟩
theorem pr_alter {x o y z : Int32} (hw : zwf σ M w) (hm : zmw σ M w) (h : zWP (P_alter M w x o y z σ) (X_alter M w x o y z σ) oI v σ') : ∃ k, v = some (.int k) ∧ zC l G y_Mo_alter w_Mo_alter (zrm 2 60) 0 0 [.ref (zad G 30), .int x, .int o, .int y, .int z] σ' (zTI k) := by
  rcases h with ⟨xv, σ1, ⟨r, op, a, b, hr, rfl, hop, rfl, ha, rfl, hb, rfl, hww, hn, hv, hw1, hk⟩, rfl, rfl⟩ | ⟨E, ⟨⟨rfl, hx⟩ | ⟨rfl, r, a, b, hr, rfl, ha, rfl, hb, rfl, hx⟩ | ⟨rfl, r, op, a, b, hr, rfl, hop, rfl, ha, rfl, hb, rfl, hww, hn⟩, hw1, hk⟩, rfl⟩
  · cases hv
    exact ⟨0, rfl, zTI_ok (zwf_zul _ hw1) (out0 _ _) (c_malter l G (zmw_zul _ (hk.mw hm)) hr ha hb hop hww hn)⟩
  · exact ⟨_, rfl, by rw [zcd_1]; exact zTI_t hw1 (hk.mw hm) (by decide) (c_malter_ns l G hx)⟩
  · exact ⟨_, rfl, by rw [zcd_2]; exact zTI_t hw1 (hk.mw hm) (by decide) (c_malter_ia l G (hk.mw hm) hr ha hb (hw.at ha).2.2.1 (hw.at hb).2.2.1 hx)⟩
  · exact ⟨_, rfl, by rw [zcd_3]; exact zTI_is hw1 (c_malter_is l G (hk.mw hm) hr ha hb hop hww hn)⟩
theorem pr_narrow {x y z : Int32} (hw : zwf σ M w) (hm : zmw σ M w) (h : zWP (P_narrow M w x y z σ) (X_narrow M w x y z σ) oI v σ') : ∃ k, v = some (.int k) ∧ zC l G y_Mo_narrow w_Mo_narrow (zrm 2 60) 0 0 [.ref (zad G 30), .int x, .int y, .int z] σ' (zTI k) := by
  rcases h with ⟨xv, σ1, ⟨r, a, k, hr, rfl, ha, rfl, ⟨hk0, hk2⟩, rfl, hv, hw1, hk⟩, rfl, rfl⟩ | ⟨E, ⟨⟨rfl, hx⟩ | ⟨rfl, r, hr, rfl, a, ha, rfl, hx⟩, hw1, hk⟩, rfl⟩
  · cases hv
    rw [mN_eq] at hw1 ⊢
    have hn := hw1.ct hr
    rw [uM_s] at hn
    exact ⟨0, rfl, zTI_ok (zwf_zul _ hw1) (out0 _ _) (c_mnarrow l G (zmw_zul _ (hk.mw hm)) hr ha (hw.at ha).2.2.1 hk0 hk2 hn)⟩
  · exact ⟨_, rfl, by rw [zcd_1]; exact zTI_t hw1 (hk.mw hm) (by decide) (c_mnarrow_ns l G hx)⟩
  · exact ⟨_, rfl, by rw [zcd_2]; exact zTI_t hw1 (hk.mw hm) (by decide) (c_mnarrow_ia l G (hk.mw hm) hr ha (hw.at ha).2.2.1 hx)⟩
theorem pr_pick {x y z b : Int32} (hw : zwf σ M w) (hm : zmw σ M w) (h : zWP (P_pick M w x y z b σ) (X_pick M w x y z b σ) oI v σ') : ∃ k, v = some (.int k) ∧ zC l G y_Mo_pick w_Mo_pick (zrm 2 60) 0 0 [.ref (zad G 30), .int x, .int y, .int z, .int b] σ' (zTI k) := by
  rcases h with ⟨xv, σ1, ⟨r, a, k, u, hr, rfl, ha, rfl, hk0, rfl, hu, rfl, hv, hw1, hk⟩, rfl, rfl⟩ | ⟨E, ⟨⟨rfl, hx⟩ | ⟨rfl, r, hr, rfl, a, ha, rfl, hx⟩, hw1, hk⟩, rfl⟩
  · cases hv
    rw [fP_all (hw.lt ha)] at hw1 ⊢
    have hn := hw1.ct hr
    rw [uM_s] at hn
    exact ⟨0, rfl, zTI_ok (zwf_zul _ hw1) (out0 _ _) (c_mpick l G (zmw_zul _ (hk.mw hm)) hr ha (hw.at ha).2.2.1 hk0 hu hn)⟩
  · exact ⟨_, rfl, by rw [zcd_1]; exact zTI_t hw1 (hk.mw hm) (by decide) (c_mpick_ns l G hx)⟩
  · exact ⟨_, rfl, by rw [zcd_2]; exact zTI_t hw1 (hk.mw hm) (by decide) (c_mpick_ia l G (hk.mw hm) hr ha (hw.at ha).2.2.1 hx)⟩
theorem pr_reach {x y : Int32} (hw : zwf σ M w) (hm : zmw σ M w) (h : zWP (P_reach M w x y σ) (X_reach M w x y σ) oI v σ') : ∃ k, v = some (.int k) ∧ zC l G y_Mo_reach w_Mo_reach (zrm 2 60) 0 0 [.ref (zad G 30), .int x, .int y] σ' (zTI k) := by
  rcases h with ⟨xv, σ1, ⟨r, a, hr, rfl, ha, rfl, h2, D, hD, hv, hw1, hk⟩, rfl, rfl⟩ | ⟨E, ⟨⟨rfl, hx⟩ | ⟨rfl, r, hr, rfl, a, ha, rfl, hx⟩, hw1, hk⟩, rfl⟩
  · cases hv
    have hn := hw1.ct hr
    rw [uM_s] at hn
    exact ⟨0, rfl, zTI_ok (zwf_zul _ hw1) (out0 _ _) (c_mreach l G (zmw_zul _ (hk.mw hm)) hr ha h2 hD hn)⟩
  · exact ⟨_, rfl, by rw [zcd_1]; exact zTI_t hw1 (hk.mw hm) (by decide) (c_mreach_ns l G hx)⟩
  · exact ⟨_, rfl, by rw [zcd_2]; exact zTI_t hw1 (hk.mw hm) (by decide) (c_mreach_ia l G (hk.mw hm) hr ha (hw.at ha).2.2.1 hx)⟩
theorem pr_turn {x y : Int32} (hw : zwf σ M w) (hm : zmw σ M w) (h : zWP (P_turn M w x y σ) (X_turn M w x y σ) oI v σ') : ∃ k, v = some (.int k) ∧ zC l G y_Mo_turn w_Mo_turn (zrm 2 60) 0 0 [.ref (zad G 30), .int x, .int y] σ' (zTI k) := by
  rcases h with ⟨xv, σ1, ⟨r, a, hr, rfl, ha, rfl, hv, hw1, hk⟩, rfl, rfl⟩ | ⟨E, ⟨⟨rfl, hx⟩ | hf, hw1, hk⟩, rfl⟩
  · cases hv
    rw [mT_eq (hw.at ha).2.1 (hw.at ha).2.2.1 (hw.at ha).2.2.2.2 4096 (Nat.le_refl _)] at hw1 ⊢
    have hn := hw1.ct hr
    rw [uM_s] at hn
    exact ⟨0, rfl, zTI_ok (zwf_zul _ hw1) (out0 _ _) (c_mturn l G (zmw_zul _ (hk.mw hm)) hr ha (hw.at ha).2.1 (hw.at ha).2.2.1 hn)⟩
  · exact ⟨_, rfl, by rw [zcd_1]; exact zTI_t hw1 (hk.mw hm) (by decide) (c_mturn_ns l G hx)⟩
  · exact absurd hf id
theorem pr_about {x y : Int32} (hw : zwf σ M w) (hm : zmw σ M w) (h : zWP (P_about M w x y σ) (X_about M w x y σ) oL v σ') : ∃ k, v = some (.int k) ∧ zC l G y_Mo_about w_Mo_about (zrm 2 60) 0 0 [.ref (zad G 30), .int x, .int y] σ' (zTL k) := by
  rcases h with ⟨xv, σ1, ⟨a, k, ha, rfl, hk, rfl, hv, rfl⟩, rfl, rfl⟩ | ⟨E, ⟨⟨rfl, hx⟩ | ⟨rfl, ⟨a, ha, rfl⟩, hx⟩, rfl⟩, rfl⟩
  · cases hv
    refine ⟨0, rfl, (c_mabout l G (zmw_zul _ hm) ha hk).mono (fun _ _ q => ⟨_, q.1, q.2.1, ⟨M, w, (zwf_zul _ hw).j q.2.j, q.2.mw (zmw_zul _ hm)⟩, fun _ => ?_⟩)⟩
    rw [q.2.j.2, out0]
    rfl
  · exact ⟨_, rfl, by rw [zcd_1]; exact zTL_t hw hm (by decide) (c_mabout_ns l G hx)⟩
  · exact ⟨_, rfl, by rw [zcd_2]; exact zTL_t hw hm (by decide) (c_mabout_ia l G ha hx)⟩
theorem pr_same {x y : Int32} (hw : zwf σ M w) (hm : zmw σ M w) (h : zWP (P_same M w x y σ) (X_same M w x y σ) oB v σ') : ∃ k, v = some (.int k) ∧ zC l G y_Mo_same w_Mo_same (zrm 2 60) 0 0 [.ref (zad G 30), .int x, .int y] σ' (zTB k) := by
  rcases h with ⟨xv, σ1, ⟨a, b, ha, rfl, hb, rfl, hv, rfl⟩, rfl, rfl⟩ | ⟨E, ⟨rfl, hx, rfl⟩, rfl⟩
  · refine ⟨0, rfl, (c_msame l G (zmw_zul _ hm) ha hb (hw.at ha).2.2.1 (hw.at hb).2.2.1).mono (fun v2 σ2 q => ?_)⟩
    have hj : zJM σ2 := ⟨M, w, (zwf_zul _ hw).j q.2.j, q.2.mw (zmw_zul _ hm)⟩
    have ho : σ2.2 0 = oB xv := by rw [q.2.j.2, out0]
    rw [hw.eqM ha hb] at q
    rcases q.1 with ⟨c, e⟩ | ⟨c, e⟩ <;> rcases hv with ⟨c2, e2⟩ | ⟨c2, e2⟩
    · cases e2; exact ⟨1, e, q.2.1, hj, fun _ => ho⟩
    · exact absurd c c2
    · exact absurd c2 c
    · cases e2; exact ⟨0, e, q.2.1, hj, fun _ => ho⟩
  · exact ⟨_, rfl, by rw [zcd_1]; exact zTB_t hw hm (by decide) (c_msame_ns l G hx)⟩
end PAIRS
