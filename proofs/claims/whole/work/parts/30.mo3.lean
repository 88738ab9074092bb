theorem zo.mw {σ τ : zS} {m : Nat → Int32} {M : Nat → Nat → Int32} {w : Nat → Nat} (h : zo σ τ m) (hm : zmw σ M w) : zmw τ M w := hm.same (h.2.1 31 (by decide)) (h.2.1 32 (by decide))
theorem zo.j {σ τ : zS} {m : Nat → Int32} (h : zo σ τ m) : zj σ τ := ⟨fun q hq => h.2.1 q (by omega), h.2.2⟩
theorem zo_s {σ τ : zS} {m : Nat → Int32} (h : zo σ τ m) (i : Nat) (x : Int32) : zo σ (zu τ 33 (upd (τ.1 33) i x)) (upd m i x) := by
  refine ⟨fun t ht => ?_, fun q hq => (zu_ne τ _ hq).trans (h.2.1 q hq), h.2.2⟩
  rw [zu_self]
  by_cases e : t = i
  · rw [e, pk_us, pk_us]
  · rw [pk_un e, pk_un e]; exact h.1 t ht
theorem fin_y {σ σk τ σ' : zS} {m : Nat → Int32} (z : zt σ σk 0) (h : zo σk τ m) (k : zj τ σ' ∧ σ'.1 30 = τ.1 30) : σ'.1 30 0 = 0 ∧ zj σ σ' := ⟨by rw [k.2, h.2.1 30 (by decide)]; exact z.1, z.j.tr (h.j.tr k.1)⟩
theorem fin_n {σ σk τ σ' : zS} {m : Nat → Int32} {M : Nat → Nat → Int32} {w : Nat → Nat} (z : zt σ σk 0) (h : zo σk τ m) (k : zt τ σ' 3) (hm : zmw σk M w) : σ'.1 30 0 = 3 ∧ zmw σ' M w ∧ zj σ σ' := ⟨k.1, k.mw (h.mw hm), z.j.tr (h.j.tr k.j)⟩
/-- the first i of D -/
def cutm (D : Nat → Int32) (i t : Nat) : Int32 := if t < i then D t else 0
theorem cut_s (D : Nat → Int32) (i : Nat) : upd (cutm D i) i (D i) = cutm D (i + 1) := by
  funext t
  unfold cutm
  by_cases e : t = i
  · rw [e, pk_us, if_pos (Nat.lt_succ_self i)]
  · rw [pk_un e]
    by_cases q : t < i
    · rw [if_pos q, if_pos (by omega)]
    · rw [if_neg q, if_neg (by omega)]
theorem cut_n {D : Nat → Int32} {i : Nat} (h : D i = 0) : cutm D i = cutm D (i + 1) := by
  funext t
  unfold cutm
  by_cases e : t = i
  · rw [e, if_neg (Nat.lt_irrefl i), if_pos (Nat.lt_succ_self i), h]
  · by_cases q : t < i
    · rw [if_pos q, if_pos (by omega)]
    · rw [if_neg q, if_neg (by omega)]
theorem cut_0 (D : Nat → Int32) : cutm D 0 = fun _ => 0 := rfl
theorem zo_cut {σ τ : zS} {D : Nat → Int32} (h : zo σ τ (cutm D 4096)) : zo σ τ D := ⟨fun t ht => (h.1 t ht).trans (if_pos ht), h.2⟩
theorem alt5 {a b : Int32} (ha : ¬ a = 0) (hb : ¬ b = 0) : (b ≤ a → alt 5 a b = b) ∧ (¬ b ≤ a → alt 5 a b = a) := by
  simp only [alt, ha, hb, or_self, if_false, if_true, Nat.reduceEqDiff]
  constructor
  · intro h
    by_cases q : b < a
    · simp [q]
    · have : a = b := Int32.le_antisymm (Int32.not_lt.mp q) h
      simp [this]
  · intro h
    simp [show ¬ b < a from fun z => h (Int32.le_of_lt z)]
set_option maxHeartbeats 4000000 in
set_option maxRecDepth 100000 in
theorem c_maltered (l : Launch) (G : zG) {σ : zS} {op : Nat} {a b : Int32} (ho : op < 6) : zC l G y_Mo_altered w_Mo_altered (zrm 0 0) 0 0 [.int (nI op), .int a, .int b] σ (fun v σ' => v = some (.int (alt op a b)) ∧ σ = σ') := by
  refine zC_of (cc := c_Mo_altered) (nL := 3) (ret := (some .int)) (own := R_Mo) (by decide +kernel) rfl rfl (Nat.le_of_ble_eq_true rfl) ?_
  refine zb_lv (lv' := [(0, .int (nI op)), (1, .int a), (2, .int b)]) rfl ?_
  refine zb_iload_n d_Mo_altered_0 rfl rfl ?_
  rcases (show op = 0 ∨ op = 1 ∨ op = 2 ∨ op = 3 ∨ op = 4 ∨ op = 5 by omega) with rfl | rfl | rfl | rfl | rfl | rfl
  · refine zb_tableIn (tgt := 36) d_Mo_altered_1 (by decide) (by decide) rfl rfl ?_
    refine zb_lv (lv' := [(0, .int (nI 0)), (1, .int a), (2, .int b)]) rfl ?_
    refine zb_iload_n d_Mo_altered_36 rfl rfl ?_
    refine zb_iload_n d_Mo_altered_37 rfl rfl ?_
    refine zb_iadd d_Mo_altered_38 ?_
    exact zb_iret d_Mo_altered_39 rfl ⟨rfl, rfl⟩
  · refine zb_tableIn (tgt := 40) d_Mo_altered_1 (by decide) (by decide) rfl rfl ?_
    refine zb_lv (lv' := [(0, .int (nI 1)), (1, .int a), (2, .int b)]) rfl ?_
    refine zb_iload_n d_Mo_altered_40 rfl rfl ?_
    refine zb_iload_n d_Mo_altered_41 rfl rfl ?_
    refine zb_isub d_Mo_altered_42 ?_
    exact zb_iret d_Mo_altered_43 rfl ⟨rfl, rfl⟩
  · refine zb_tableIn (tgt := 44) d_Mo_altered_1 (by decide) (by decide) rfl rfl ?_
    refine zb_lv (lv' := [(0, .int (nI 2)), (1, .int a), (2, .int b)]) rfl ?_
    refine zb_iload_n d_Mo_altered_44 rfl rfl ?_
    refine zb_if_eq (tgt := 52) d_Mo_altered_45 rfl (fun h45 => ?_) (fun h45 => ?_)
    · refine zb_iconst (v := 0) d_Mo_altered_52 rfl ?_
      exact zb_iret d_Mo_altered_53 rfl ⟨by simp [alt, h45], rfl⟩
    · refine zb_iload_n d_Mo_altered_48 rfl rfl ?_
      refine zb_goto (tgt := 53) d_Mo_altered_49 rfl ?_
      exact zb_iret d_Mo_altered_53 rfl ⟨by simp [alt, h45], rfl⟩
  · refine zb_tableIn (tgt := 54) d_Mo_altered_1 (by decide) (by decide) rfl rfl ?_
    refine zb_lv (lv' := [(0, .int (nI 3)), (1, .int a), (2, .int b)]) rfl ?_
    refine zb_iload_n d_Mo_altered_54 rfl rfl ?_
    refine zb_if_ne (tgt := 62) d_Mo_altered_55 rfl (fun h55 => ?_) (fun h55 => ?_)
    · refine zb_iconst (v := 0) d_Mo_altered_62 rfl ?_
      exact zb_iret d_Mo_altered_63 rfl ⟨by simp [alt, h55], rfl⟩
    · refine zb_iload_n d_Mo_altered_58 rfl rfl ?_
      refine zb_goto (tgt := 63) d_Mo_altered_59 rfl ?_
      exact zb_iret d_Mo_altered_63 rfl ⟨by simp [alt, h55], rfl⟩
  · refine zb_tableIn (tgt := 64) d_Mo_altered_1 (by decide) (by decide) rfl rfl ?_
    refine zb_lv (lv' := [(0, .int (nI 4)), (1, .int a), (2, .int b)]) rfl ?_
    refine zb_iload_n d_Mo_altered_64 rfl rfl ?_
    refine zb_if_ne (tgt := 72) d_Mo_altered_65 rfl (fun h65 => ?_) (fun h65 => ?_)
    · refine zb_iconst (v := 1) d_Mo_altered_72 rfl ?_
      refine zb_goto (tgt := 77) d_Mo_altered_73 rfl ?_
      exact zb_iret d_Mo_altered_77 rfl ⟨by simp [alt, h65], rfl⟩
    · refine zb_iload_n d_Mo_altered_68 rfl rfl ?_
      refine zb_if_eq (tgt := 76) d_Mo_altered_69 rfl (fun h69 => ?_) (fun h69 => ?_)
      · refine zb_iconst (v := 0) d_Mo_altered_76 rfl ?_
        exact zb_iret d_Mo_altered_77 rfl ⟨by simp [alt, h65, h69], rfl⟩
      · refine zb_iconst (v := 1) d_Mo_altered_72 rfl ?_
        refine zb_goto (tgt := 77) d_Mo_altered_73 rfl ?_
        exact zb_iret d_Mo_altered_77 rfl ⟨by simp [alt, h65, h69], rfl⟩
  · refine zb_tableOut (tgt := 78) d_Mo_altered_1 (by decide) rfl ?_
    refine zb_lv (lv' := [(0, .int (nI 5)), (1, .int a), (2, .int b)]) rfl ?_
    refine zb_iload_n d_Mo_altered_78 rfl rfl ?_
    refine zb_if_eq (tgt := 86) d_Mo_altered_79 rfl (fun h79 => ?_) (fun h79 => ?_)
    · refine zb_iconst (v := 0) d_Mo_altered_86 rfl ?_
      refine zb_goto (tgt := 100) d_Mo_altered_87 rfl ?_
      exact zb_iret d_Mo_altered_100 rfl ⟨by simp [alt, h79], rfl⟩
    · refine zb_iload_n d_Mo_altered_82 rfl rfl ?_
      refine zb_if_ne (tgt := 90) d_Mo_altered_83 rfl (fun h83 => ?_) (fun h83 => ?_)
      · refine zb_iload_n d_Mo_altered_90 rfl rfl ?_
        refine zb_iload_n d_Mo_altered_91 rfl rfl ?_
        refine zb_icmp_ge (tgt := 99) d_Mo_altered_92 rfl (fun h92 => ?_) (fun h92 => ?_)
        · refine zb_iload_n d_Mo_altered_99 rfl rfl ?_
          exact zb_iret d_Mo_altered_100 rfl ⟨congrArg (fun z => some (Value.int z)) ((alt5 h79 h83).1 h92).symm, rfl⟩
        · refine zb_iload_n d_Mo_altered_95 rfl rfl ?_
          refine zb_goto (tgt := 100) d_Mo_altered_96 rfl ?_
          exact zb_iret d_Mo_altered_100 rfl ⟨congrArg (fun z => some (Value.int z)) ((alt5 h79 h83).2 h92).symm, rfl⟩
      · refine zb_iconst (v := 0) d_Mo_altered_86 rfl ?_
        refine zb_goto (tgt := 100) d_Mo_altered_87 rfl ?_
        exact zb_iret d_Mo_altered_100 rfl ⟨by simp [alt, h79, h83], rfl⟩
set_option maxHeartbeats 4000000 in
set_option maxRecDepth 100000 in
theorem c_malter_ns (l : Launch) (G : zG) {σ : zS} {x o y z : Int32} (h : ¬ (zgr x ∧ zgr y ∧ zgr z)) : zC l G y_Mo_alter w_Mo_alter (zrm 2 60) 0 0 [.ref (zad G 30), .int x, .int o, .int y, .int z] σ (fun v σ' => v = some (.int 0) ∧ zt σ σ' 1) := by
  refine zC_of (cc := c_Mo_alter) (nL := 6) (ret := (some .int)) (own := R_Mo) (by decide +kernel) rfl rfl (Nat.le_of_ble_eq_true rfl) ?_
  refine zb_lv (lv' := [(0, .ref (zad G 30)), (1, .int x), (2, .int o), (3, .int y), (4, .int z)]) rfl ?_
  by_cases hx : zgr x
  · obtain ⟨r, hr, rfl⟩ := hx
    refine zb_aload_n d_Mo_alter_0 rfl rfl ?_
    refine zb_iload_n d_Mo_alter_1 rfl rfl ?_
    refine zb_callV (rest := []) (c_none_n l G hr) (lk_Mo_36.cw rfl rfl ⟨Nat.le_of_ble_eq_true rfl, Nat.le_of_ble_eq_true rfl⟩) zgM rfl rfl rfl rfl (Nat.le_of_ble_eq_true rfl) d_Mo_alter_2 ⟨Nat.le_of_ble_eq_true rfl, Nat.le_of_ble_eq_true rfl⟩ ?_
    rintro _ _ ⟨rfl, y1⟩
    rename_i σ1
    have z1 : zt σ σ1 0 := y1
    refine zb_st (st' := [.int 0]) rfl ?_
    refine zb_if_ne (tgt := 63) d_Mo_alter_5 rfl (fun h5 => absurd h5 (fun z => z rfl)) (fun h5 => ?_)
    by_cases hy : zgr y
    · obtain ⟨a, ha, rfl⟩ := hy
      refine zb_aload_n d_Mo_alter_8 rfl rfl ?_
      refine zb_iload_n d_Mo_alter_9 rfl rfl ?_
      refine zb_callV (rest := []) (c_none_n l G ha) (lk_Mo_36.cw rfl rfl ⟨Nat.le_of_ble_eq_true rfl, Nat.le_of_ble_eq_true rfl⟩) zgM rfl rfl rfl rfl (Nat.le_of_ble_eq_true rfl) d_Mo_alter_10 ⟨Nat.le_of_ble_eq_true rfl, Nat.le_of_ble_eq_true rfl⟩ ?_
      rintro _ _ ⟨rfl, y2⟩
      rename_i σ2
      have z2 : zt σ σ2 0 := z1.tr y2
      refine zb_st (st' := [.int 0]) rfl ?_
      refine zb_if_ne (tgt := 63) d_Mo_alter_13 rfl (fun h13 => absurd h13 (fun z => z rfl)) (fun h13 => ?_)
      by_cases hz : zgr z
      · exact absurd ⟨⟨r, hr, rfl⟩, ⟨a, ha, rfl⟩, hz⟩ h
      · refine zb_aload_n d_Mo_alter_16 rfl rfl ?_
        refine zb_iload d_Mo_alter_17 rfl ?_
        refine zb_callV (rest := []) (c_none_y l G hz) (lk_Mo_36.cw rfl rfl ⟨Nat.le_of_ble_eq_true rfl, Nat.le_of_ble_eq_true rfl⟩) zgM rfl rfl rfl rfl (Nat.le_of_ble_eq_true rfl) d_Mo_alter_19 ⟨Nat.le_of_ble_eq_true rfl, Nat.le_of_ble_eq_true rfl⟩ ?_
        rintro _ _ ⟨rfl, y9⟩
        rename_i σ9
        refine zb_st (st' := [.int 1]) rfl ?_
        refine zb_if_ne (tgt := 63) d_Mo_alter_22 rfl (fun h22 => ?_) (fun h22 => absurd h22 (by decide))
        refine zb_iconst (v := 0) d_Mo_alter_63 rfl ?_
        exact zb_iret d_Mo_alter_64 rfl ⟨rfl, z2.tr y9⟩
    · refine zb_aload_n d_Mo_alter_8 rfl rfl ?_
      refine zb_iload_n d_Mo_alter_9 rfl rfl ?_
      refine zb_callV (rest := []) (c_none_y l G hy) (lk_Mo_36.cw rfl rfl ⟨Nat.le_of_ble_eq_true rfl, Nat.le_of_ble_eq_true rfl⟩) zgM rfl rfl rfl rfl (Nat.le_of_ble_eq_true rfl) d_Mo_alter_10 ⟨Nat.le_of_ble_eq_true rfl, Nat.le_of_ble_eq_true rfl⟩ ?_
      rintro _ _ ⟨rfl, y9⟩
      rename_i σ9
      refine zb_st (st' := [.int 1]) rfl ?_
      refine zb_if_ne (tgt := 63) d_Mo_alter_13 rfl (fun h13 => ?_) (fun h13 => absurd h13 (by decide))
      refine zb_iconst (v := 0) d_Mo_alter_63 rfl ?_
      exact zb_iret d_Mo_alter_64 rfl ⟨rfl, z1.tr y9⟩
  · refine zb_aload_n d_Mo_alter_0 rfl rfl ?_
    refine zb_iload_n d_Mo_alter_1 rfl rfl ?_
    refine zb_callV (rest := []) (c_none_y l G hx) (lk_Mo_36.cw rfl rfl ⟨Nat.le_of_ble_eq_true rfl, Nat.le_of_ble_eq_true rfl⟩) zgM rfl rfl rfl rfl (Nat.le_of_ble_eq_true rfl) d_Mo_alter_2 ⟨Nat.le_of_ble_eq_true rfl, Nat.le_of_ble_eq_true rfl⟩ ?_
    rintro _ _ ⟨rfl, y9⟩
    rename_i σ9
    refine zb_st (st' := [.int 1]) rfl ?_
    refine zb_if_ne (tgt := 63) d_Mo_alter_5 rfl (fun h5 => ?_) (fun h5 => absurd h5 (by decide))
    refine zb_iconst (v := 0) d_Mo_alter_63 rfl ?_
    exact zb_iret d_Mo_alter_64 rfl ⟨rfl, y9⟩
set_option maxHeartbeats 4000000 in
set_option maxRecDepth 100000 in
theorem c_malter_ia (l : Launch) (G : zG) {σ : zS} {r a b : Nat} {o : Int32} {M : Nat → Nat → Int32} {w : Nat → Nat} (hm : zmw σ M w) (hr : r < 8) (ha : a < 8) (hb : b < 8) (h3a : w a ≤ 3) (h3b : w b ≤ 3) (h : ¬ ∃ op : Nat, op < 6 ∧ o = nI op ∧ w a = w b) : zC l G y_Mo_alter w_Mo_alter (zrm 2 60) 0 0 [.ref (zad G 30), .int (nI r), .int o, .int (nI a), .int (nI b)] σ (fun v σ' => v = some (.int 0) ∧ zt σ σ' 2) := by
  refine zC_of (cc := c_Mo_alter) (nL := 6) (ret := (some .int)) (own := R_Mo) (by decide +kernel) rfl rfl (Nat.le_of_ble_eq_true rfl) ?_
  refine zb_lv (lv' := [(0, .ref (zad G 30)), (1, .int (nI r)), (2, .int o), (3, .int (nI a)), (4, .int (nI b))]) rfl ?_
  refine zb_aload_n d_Mo_alter_0 rfl rfl ?_
  refine zb_iload_n d_Mo_alter_1 rfl rfl ?_
  refine zb_callV (rest := []) (c_none_n l G hr) (lk_Mo_36.cw rfl rfl ⟨Nat.le_of_ble_eq_true rfl, Nat.le_of_ble_eq_true rfl⟩) zgM rfl rfl rfl rfl (Nat.le_of_ble_eq_true rfl) d_Mo_alter_2 ⟨Nat.le_of_ble_eq_true rfl, Nat.le_of_ble_eq_true rfl⟩ ?_
  rintro _ _ ⟨rfl, y1⟩
  rename_i σ1
  have z1 : zt σ σ1 0 := y1
  refine zb_st (st' := [.int 0]) rfl ?_
  refine zb_if_ne (tgt := 63) d_Mo_alter_5 rfl (fun h5 => absurd h5 (fun z => z rfl)) (fun h5 => ?_)
  refine zb_aload_n d_Mo_alter_8 rfl rfl ?_
  refine zb_iload_n d_Mo_alter_9 rfl rfl ?_
  refine zb_callV (rest := []) (c_none_n l G ha) (lk_Mo_36.cw rfl rfl ⟨Nat.le_of_ble_eq_true rfl, Nat.le_of_ble_eq_true rfl⟩) zgM rfl rfl rfl rfl (Nat.le_of_ble_eq_true rfl) d_Mo_alter_10 ⟨Nat.le_of_ble_eq_true rfl, Nat.le_of_ble_eq_true rfl⟩ ?_
  rintro _ _ ⟨rfl, y2⟩
  rename_i σ2
  have z2 : zt σ σ2 0 := z1.tr y2
  refine zb_st (st' := [.int 0]) rfl ?_
  refine zb_if_ne (tgt := 63) d_Mo_alter_13 rfl (fun h13 => absurd h13 (fun z => z rfl)) (fun h13 => ?_)
  refine zb_aload_n d_Mo_alter_16 rfl rfl ?_
  refine zb_iload d_Mo_alter_17 rfl ?_
  refine zb_callV (rest := []) (c_none_n l G hb) (lk_Mo_36.cw rfl rfl ⟨Nat.le_of_ble_eq_true rfl, Nat.le_of_ble_eq_true rfl⟩) zgM rfl rfl rfl rfl (Nat.le_of_ble_eq_true rfl) d_Mo_alter_19 ⟨Nat.le_of_ble_eq_true rfl, Nat.le_of_ble_eq_true rfl⟩ ?_
  rintro _ _ ⟨rfl, y3⟩
  rename_i σ3
  have z3 : zt σ σ3 0 := z2.tr y3
  refine zb_st (st' := [.int 0]) rfl ?_
  refine zb_if_ne (tgt := 63) d_Mo_alter_22 rfl (fun h22 => absurd h22 (fun z => z rfl)) (fun h22 => ?_)
  refine zb_aload_n d_Mo_alter_25 rfl rfl ?_
  refine zb_iconst (v := 2) d_Mo_alter_26 rfl ?_
  refine zb_iload_n d_Mo_alter_27 rfl rfl ?_
  refine zb_if_lt (tgt := 52) d_Mo_alter_28 rfl (fun h28 => ?_) (fun h28 => ?_)
  · refine zb_iconst (v := 1) d_Mo_alter_52 rfl ?_
    refine zb_goto (tgt := 57) d_Mo_alter_53 rfl ?_
    refine zb_callV (rest := []) (c_refuse_y l G) (lk_Mo_28.cw rfl rfl ⟨Nat.le_of_ble_eq_true rfl, Nat.le_of_ble_eq_true rfl⟩) zgM rfl rfl rfl rfl (Nat.le_of_ble_eq_true rfl) d_Mo_alter_57 ⟨Nat.le_of_ble_eq_true rfl, Nat.le_of_ble_eq_true rfl⟩ ?_
    rintro _ _ ⟨rfl, y9⟩
    rename_i σ9
    refine zb_st (st' := [.int 1]) rfl ?_
    refine zb_if_eq (tgt := 65) d_Mo_alter_60 rfl (fun h60 => absurd h60 (by decide)) (fun h60 => ?_)
    refine zb_iconst (v := 0) d_Mo_alter_63 rfl ?_
    exact zb_iret d_Mo_alter_64 rfl ⟨rfl, z3.tr y9⟩
  · refine zb_iload_n d_Mo_alter_31 rfl rfl ?_
    refine zb_iconst (v := 5) d_Mo_alter_32 rfl ?_
    refine zb_icmp_gt (tgt := 52) d_Mo_alter_33 rfl (fun h33 => ?_) (fun h33 => ?_)
    · refine zb_iconst (v := 1) d_Mo_alter_52 rfl ?_
      refine zb_goto (tgt := 57) d_Mo_alter_53 rfl ?_
      refine zb_callV (rest := []) (c_refuse_y l G) (lk_Mo_28.cw rfl rfl ⟨Nat.le_of_ble_eq_true rfl, Nat.le_of_ble_eq_true rfl⟩) zgM rfl rfl rfl rfl (Nat.le_of_ble_eq_true rfl) d_Mo_alter_57 ⟨Nat.le_of_ble_eq_true rfl, Nat.le_of_ble_eq_true rfl⟩ ?_
      rintro _ _ ⟨rfl, y9⟩
      rename_i σ9
      refine zb_st (st' := [.int 1]) rfl ?_
      refine zb_if_eq (tgt := 65) d_Mo_alter_60 rfl (fun h60 => absurd h60 (by decide)) (fun h60 => ?_)
      refine zb_iconst (v := 0) d_Mo_alter_63 rfl ?_
      exact zb_iret d_Mo_alter_64 rfl ⟨rfl, z3.tr y9⟩
    · refine zb_aload_n d_Mo_alter_36 rfl rfl ?_
      refine zm_width d_Mo_alter_37 fl_Mo_13 ?_
      refine zb_iload_n d_Mo_alter_40 rfl rfl ?_
      refine zb_ialdN (q := 31) (j := a) d_Mo_alter_41 (ia31) (show a < 8 from ha) ?_
      refine zb_top (y := nI (w a)) ((z3.mw hm).1 a ha) ?_
      refine zb_aload_n d_Mo_alter_42 rfl rfl ?_
      refine zm_width d_Mo_alter_43 fl_Mo_13 ?_
      refine zb_iload d_Mo_alter_46 rfl ?_
      refine zb_ialdN (q := 31) (j := b) d_Mo_alter_48 (ia31) (show b < 8 from hb) ?_
      refine zb_top (y := nI (w b)) ((z3.mw hm).1 b hb) ?_
      refine zb_icmp_eq (tgt := 56) d_Mo_alter_49 rfl (fun h49 => absurd h49 (fun z => by
        obtain ⟨op, ho31, rfl⟩ := nI_of h28
        exact h ⟨op, by have := (nI_leI (b := 5) ho31 (by decide)).mp (Int32.not_lt.mp h33); omega, rfl, (nI_eq (by omega) (by omega)).mp z⟩)) (fun h49 => ?_)
      refine zb_iconst (v := 1) d_Mo_alter_52 rfl ?_
      refine zb_goto (tgt := 57) d_Mo_alter_53 rfl ?_
      refine zb_callV (rest := []) (c_refuse_y l G) (lk_Mo_28.cw rfl rfl ⟨Nat.le_of_ble_eq_true rfl, Nat.le_of_ble_eq_true rfl⟩) zgM rfl rfl rfl rfl (Nat.le_of_ble_eq_true rfl) d_Mo_alter_57 ⟨Nat.le_of_ble_eq_true rfl, Nat.le_of_ble_eq_true rfl⟩ ?_
      rintro _ _ ⟨rfl, y9⟩
      rename_i σ9
      refine zb_st (st' := [.int 1]) rfl ?_
      refine zb_if_eq (tgt := 65) d_Mo_alter_60 rfl (fun h60 => absurd h60 (by decide)) (fun h60 => ?_)
      refine zb_iconst (v := 0) d_Mo_alter_63 rfl ?_
      exact zb_iret d_Mo_alter_64 rfl ⟨rfl, z3.tr y9⟩
set_option maxHeartbeats 4000000 in
set_option maxRecDepth 100000 in
theorem lp_malter (l : Launch) (G : zG) {σ : zS} {r op a b : Nat} {M : Nat → Nat → Int32} {w : Nat → Nat} (hm : zmw σ M w) (ha : a < 8) (hb : b < 8) (hop : op < 6) {Fin : List Frame → Array Value → State → State → Prop} (K : ∀ τ : zS, zo σ τ (cutm (fun t => alt op (M a t) (M b t)) 4096) → zB l G w_Mo_alter R_Mo c_Mo_alter 6 (some .int) [] (zrm 2 60) Fin 0 0 112 [(5, .int (nI 4096)), (0, .ref (zad G 30)), (1, .int (nI r)), (2, .int (nI op)), (3, .int (nI a)), (4, .int (nI b))] [] τ) : ∀ (d i : Nat) (τ : zS), i + d = 4096 → zo σ τ (cutm (fun t => alt op (M a t) (M b t)) i) → zB l G w_Mo_alter R_Mo c_Mo_alter 6 (some .int) [] (zrm 2 60) Fin 0 0 72 [(5, .int (nI i)), (0, .ref (zad G 30)), (1, .int (nI r)), (2, .int (nI op)), (3, .int (nI a)), (4, .int (nI b))] [] τ := by
  intro d
  induction d with
  | zero =>
    intro i τ hi hz
    have e : i = 4096 := by omega
    refine zb_iload d_Mo_alter_72 rfl ?_
    refine zb_sipush (v := 4096) d_Mo_alter_74 rfl ?_
    refine zb_icmp_ge (tgt := 112) d_Mo_alter_77 rfl (fun h77 => ?_) (fun h77 => absurd (nI_le (a := 4096) (b := i) (by omega) (by omega)) h77)
    refine zb_sub [0, 1, 2, 3, 4, 5] rfl ?_
    rw [e] at hz ⊢
    exact K τ hz
  | succ d ih =>
    intro i τ hi hz
    have hlt : i < 4096 := by omega
    refine zb_iload d_Mo_alter_72 rfl ?_
    refine zb_sipush (v := 4096) d_Mo_alter_74 rfl ?_
    refine zb_icmp_ge (tgt := 112) d_Mo_alter_77 rfl (fun h77 => absurd h77 (nI_ge (a := i) (b := 4096) (by omega) (by omega))) (fun h77 => ?_)
    refine zb_aload_n d_Mo_alter_80 rfl rfl ?_
    refine zm_made d_Mo_alter_81 fl_Mo_21 ?_
    refine zb_iload d_Mo_alter_84 rfl ?_
    refine zb_iload_n d_Mo_alter_86 rfl rfl ?_
    refine zb_aload_n d_Mo_alter_87 rfl rfl ?_
    refine zb_iload_n d_Mo_alter_88 rfl rfl ?_
    refine zb_iload d_Mo_alter_89 rfl ?_
    refine zb_callV (rest := [.int (nI op), .int (nI i), .ref (zad G 33)]) (c_of l G (hz.mw hm) ha hlt) (lk_Mo_48.cw rfl rfl ⟨Nat.le_of_ble_eq_true rfl, Nat.le_of_ble_eq_true rfl⟩) zgM rfl rfl rfl rfl (Nat.le_of_ble_eq_true rfl) d_Mo_alter_91 ⟨Nat.le_of_ble_eq_true rfl, Nat.le_of_ble_eq_true rfl⟩ ?_
    rintro _ _ ⟨rfl, rfl⟩
    refine zb_st (st' := [.int (M a i), .int (nI op), .int (nI i), .ref (zad G 33)]) rfl ?_
    refine zb_aload_n d_Mo_alter_94 rfl rfl ?_
    refine zb_iload d_Mo_alter_95 rfl ?_
    refine zb_iload d_Mo_alter_97 rfl ?_
    refine zb_callV (rest := [.int (M a i), .int (nI op), .int (nI i), .ref (zad G 33)]) (c_of l G (hz.mw hm) hb hlt) (lk_Mo_48.cw rfl rfl ⟨Nat.le_of_ble_eq_true rfl, Nat.le_of_ble_eq_true rfl⟩) zgM rfl rfl rfl rfl (Nat.le_of_ble_eq_true rfl) d_Mo_alter_99 ⟨Nat.le_of_ble_eq_true rfl, Nat.le_of_ble_eq_true rfl⟩ ?_
    rintro _ _ ⟨rfl, rfl⟩
    refine zb_st (st' := [.int (M b i), .int (M a i), .int (nI op), .int (nI i), .ref (zad G 33)]) rfl ?_
    refine zb_callS (rest := [.int (nI i), .ref (zad G 33)]) (c_maltered l G hop) (lk_Mo_65.cw rfl rfl ⟨Nat.le_of_ble_eq_true rfl, Nat.le_of_ble_eq_true rfl⟩) rfl rfl (Nat.le_of_ble_eq_true rfl) d_Mo_alter_102 ⟨Nat.le_of_ble_eq_true rfl, Nat.le_of_ble_eq_true rfl⟩ ?_
    rintro _ _ ⟨rfl, rfl⟩
    refine zb_st (st' := [.int (alt op (M a i) (M b i)), .int (nI i), .ref (zad G 33)]) rfl ?_
    refine zb_iastN (q := 33) (j := i) d_Mo_alter_105 (ia33) (show i < 4096 from hlt) ?_
    refine zb_iinc (v := nI (i + 1)) (lv' := [(5, .int (nI (i + 1))), (0, .ref (zad G 30)), (1, .int (nI r)), (2, .int (nI op)), (3, .int (nI a)), (4, .int (nI b))]) d_Mo_alter_106 rfl (nI_1 i) (by decide) rfl ?_
    refine zb_goto (tgt := 72) d_Mo_alter_109 rfl ?_
    refine zb_sub [0, 1, 2, 3, 4, 5] rfl ?_
    exact ih (i + 1) _ (by omega) (cut_s (fun t => alt op (M a t) (M b t)) i ▸ zo_s hz i _)
set_option maxHeartbeats 4000000 in
set_option maxRecDepth 100000 in
theorem c_malter (l : Launch) (G : zG) {σ : zS} {r op a b : Nat} {M : Nat → Nat → Int32} {w : Nat → Nat} (hm : zmw σ M w) (hr : r < 8) (ha : a < 8) (hb : b < 8) (hop : op < 6) (hww : w a = w b) (hn : zct (fun t => alt op (M a t) (M b t)) 4096 ≤ 300) : zC l G y_Mo_alter w_Mo_alter (zrm 2 60) 0 0 [.ref (zad G 30), .int (nI r), .int (nI op), .int (nI a), .int (nI b)] σ (fun o9 σ' => o9 = some (.int (nI (zct (fun t => alt op (M a t) (M b t)) 4096))) ∧ σ'.1 30 0 = 0 ∧ zmw σ' (uM M r (fun t => alt op (M a t) (M b t))) (uM w r (w a)) ∧ zj σ σ') := by
  refine zC_of (cc := c_Mo_alter) (nL := 6) (ret := (some .int)) (own := R_Mo) (by decide +kernel) rfl rfl (Nat.le_of_ble_eq_true rfl) ?_
  refine zb_lv (lv' := [(0, .ref (zad G 30)), (1, .int (nI r)), (2, .int (nI op)), (3, .int (nI a)), (4, .int (nI b))]) rfl ?_
  refine zb_aload_n d_Mo_alter_0 rfl rfl ?_
  refine zb_iload_n d_Mo_alter_1 rfl rfl ?_
  refine zb_callV (rest := []) (c_none_n l G hr) (lk_Mo_36.cw rfl rfl ⟨Nat.le_of_ble_eq_true rfl, Nat.le_of_ble_eq_true rfl⟩) zgM rfl rfl rfl rfl (Nat.le_of_ble_eq_true rfl) d_Mo_alter_2 ⟨Nat.le_of_ble_eq_true rfl, Nat.le_of_ble_eq_true rfl⟩ ?_
  rintro _ _ ⟨rfl, y1⟩
  rename_i σ1
  have z1 : zt σ σ1 0 := y1
  refine zb_st (st' := [.int 0]) rfl ?_
  refine zb_if_ne (tgt := 63) d_Mo_alter_5 rfl (fun h5 => absurd h5 (fun z => z rfl)) (fun h5 => ?_)
  refine zb_aload_n d_Mo_alter_8 rfl rfl ?_
  refine zb_iload_n d_Mo_alter_9 rfl rfl ?_
  refine zb_callV (rest := []) (c_none_n l G ha) (lk_Mo_36.cw rfl rfl ⟨Nat.le_of_ble_eq_true rfl, Nat.le_of_ble_eq_true rfl⟩) zgM rfl rfl rfl rfl (Nat.le_of_ble_eq_true rfl) d_Mo_alter_10 ⟨Nat.le_of_ble_eq_true rfl, Nat.le_of_ble_eq_true rfl⟩ ?_
  rintro _ _ ⟨rfl, y2⟩
  rename_i σ2
  have z2 : zt σ σ2 0 := z1.tr y2
  refine zb_st (st' := [.int 0]) rfl ?_
  refine zb_if_ne (tgt := 63) d_Mo_alter_13 rfl (fun h13 => absurd h13 (fun z => z rfl)) (fun h13 => ?_)
  refine zb_aload_n d_Mo_alter_16 rfl rfl ?_
  refine zb_iload d_Mo_alter_17 rfl ?_
  refine zb_callV (rest := []) (c_none_n l G hb) (lk_Mo_36.cw rfl rfl ⟨Nat.le_of_ble_eq_true rfl, Nat.le_of_ble_eq_true rfl⟩) zgM rfl rfl rfl rfl (Nat.le_of_ble_eq_true rfl) d_Mo_alter_19 ⟨Nat.le_of_ble_eq_true rfl, Nat.le_of_ble_eq_true rfl⟩ ?_
  rintro _ _ ⟨rfl, y3⟩
  rename_i σ3
  have z3 : zt σ σ3 0 := z2.tr y3
  refine zb_st (st' := [.int 0]) rfl ?_
  refine zb_if_ne (tgt := 63) d_Mo_alter_22 rfl (fun h22 => absurd h22 (fun z => z rfl)) (fun h22 => ?_)
  refine zb_aload_n d_Mo_alter_25 rfl rfl ?_
  refine zb_iconst (v := 2) d_Mo_alter_26 rfl ?_
  refine zb_iload_n d_Mo_alter_27 rfl rfl ?_
  refine zb_if_lt (tgt := 52) d_Mo_alter_28 rfl (fun h28 => absurd h28 (nI_pos (by omega))) (fun h28 => ?_)
  refine zb_iload_n d_Mo_alter_31 rfl rfl ?_
  refine zb_iconst (v := 5) d_Mo_alter_32 rfl ?_
  refine zb_icmp_gt (tgt := 52) d_Mo_alter_33 rfl (fun h33 => absurd h33 (nI_nlt (a := 5) (b := op) (by omega) (by decide))) (fun h33 => ?_)
  refine zb_aload_n d_Mo_alter_36 rfl rfl ?_
  refine zm_width d_Mo_alter_37 fl_Mo_13 ?_
  refine zb_iload_n d_Mo_alter_40 rfl rfl ?_
  refine zb_ialdN (q := 31) (j := a) d_Mo_alter_41 (ia31) (show a < 8 from ha) ?_
  refine zb_top (y := nI (w a)) ((z3.mw hm).1 a ha) ?_
  refine zb_aload_n d_Mo_alter_42 rfl rfl ?_
  refine zm_width d_Mo_alter_43 fl_Mo_13 ?_
  refine zb_iload d_Mo_alter_46 rfl ?_
  refine zb_ialdN (q := 31) (j := b) d_Mo_alter_48 (ia31) (show b < 8 from hb) ?_
  refine zb_top (y := nI (w b)) ((z3.mw hm).1 b hb) ?_
  refine zb_icmp_eq (tgt := 56) d_Mo_alter_49 rfl (fun h49 => ?_) (fun h49 => absurd (by rw [hww]) h49)
  refine zb_iconst (v := 0) d_Mo_alter_56 rfl ?_
  refine zb_callV (rest := []) (c_refuse_n l G) (lk_Mo_28.cw rfl rfl ⟨Nat.le_of_ble_eq_true rfl, Nat.le_of_ble_eq_true rfl⟩) zgM rfl rfl rfl rfl (Nat.le_of_ble_eq_true rfl) d_Mo_alter_57 ⟨Nat.le_of_ble_eq_true rfl, Nat.le_of_ble_eq_true rfl⟩ ?_
  rintro _ _ ⟨rfl, rfl⟩
  refine zb_st (st' := [.int 0]) rfl ?_
  refine zb_if_eq (tgt := 65) d_Mo_alter_60 rfl (fun h60 => ?_) (fun h60 => absurd rfl h60)
  refine zb_aload_n d_Mo_alter_65 rfl rfl ?_
  refine zb_callV (rest := []) (c_begin l G) (lk_Mo_52.cw rfl rfl ⟨Nat.le_of_ble_eq_true rfl, Nat.le_of_ble_eq_true rfl⟩) zgM rfl rfl rfl rfl (Nat.le_of_ble_eq_true rfl) d_Mo_alter_66 ⟨Nat.le_of_ble_eq_true rfl, Nat.le_of_ble_eq_true rfl⟩ ?_
  rintro _ _ ⟨rfl, hb0⟩
  rename_i σb
  have hmk := z3.mw hm
  refine zb_st (st' := []) rfl ?_
  refine zb_iconst (v := 0) d_Mo_alter_69 rfl ?_
  refine zb_istore (lv' := [(5, .int 0), (0, .ref (zad G 30)), (1, .int (nI r)), (2, .int (nI op)), (3, .int (nI a)), (4, .int (nI b))]) d_Mo_alter_70 (by decide) rfl ?_
  refine zb_lv (lv' := [(5, .int (nI 0)), (0, .ref (zad G 30)), (1, .int (nI r)), (2, .int (nI op)), (3, .int (nI a)), (4, .int (nI b))]) rfl ?_
  refine zb_sub [0, 1, 2, 3, 4, 5] rfl ?_
  refine lp_malter l G hmk ha hb hop (fun τ hz => ?_) 4096 0 _ rfl (hb0)
  have hz := zo_cut hz
  refine zb_aload_n d_Mo_alter_112 rfl rfl ?_
  refine zb_iload_n d_Mo_alter_113 rfl rfl ?_
  refine zb_aload_n d_Mo_alter_114 rfl rfl ?_
  refine zm_width d_Mo_alter_115 fl_Mo_13 ?_
  refine zb_iload_n d_Mo_alter_118 rfl rfl ?_
  refine zb_ialdN (q := 31) (j := a) d_Mo_alter_119 (ia31) (show a < 8 from ha) ?_
  refine zb_top (y := nI (w a)) ((hz.mw hmk).1 a ha) ?_
  refine zb_iconst (v := 3) d_Mo_alter_120 rfl ?_
  refine zb_callV (rest := []) (c_keep_y l G (D := (fun t => alt op (M a t) (M b t))) (u := w a) (hz.mw hmk) hr hz.1 hn) (lk_Mo_58.cw rfl rfl ⟨Nat.le_of_ble_eq_true rfl, Nat.le_of_ble_eq_true rfl⟩) zgM rfl rfl rfl rfl (Nat.le_of_ble_eq_true rfl) d_Mo_alter_121 ⟨Nat.le_of_ble_eq_true rfl, Nat.le_of_ble_eq_true rfl⟩ ?_
  rintro _ _ ⟨rfl, k1, k2, k3⟩
  rename_i σ9
  refine zb_st (st' := [.int (nI (zct (fun t => alt op (M a t) (M b t)) 4096))]) rfl ?_
  exact zb_iret d_Mo_alter_124 rfl ⟨rfl, (fin_y z3 hz ⟨k2, k3⟩).1, k1, (fin_y z3 hz ⟨k2, k3⟩).2⟩
set_option maxHeartbeats 4000000 in
set_option maxRecDepth 100000 in
theorem c_malter_is (l : Launch) (G : zG) {σ : zS} {r op a b : Nat} {M : Nat → Nat → Int32} {w : Nat → Nat} (hm : zmw σ M w) (hr : r < 8) (ha : a < 8) (hb : b < 8) (hop : op < 6) (hww : w a = w b) (hn : 300 < zct (fun t => alt op (M a t) (M b t)) 4096) : zC l G y_Mo_alter w_Mo_alter (zrm 2 60) 0 0 [.ref (zad G 30), .int (nI r), .int (nI op), .int (nI a), .int (nI b)] σ (fun o9 σ' => o9 = some (.int 0) ∧ σ'.1 30 0 = 3 ∧ zmw σ' M w ∧ zj σ σ') := by
  refine zC_of (cc := c_Mo_alter) (nL := 6) (ret := (some .int)) (own := R_Mo) (by decide +kernel) rfl rfl (Nat.le_of_ble_eq_true rfl) ?_
  refine zb_lv (lv' := [(0, .ref (zad G 30)), (1, .int (nI r)), (2, .int (nI op)), (3, .int (nI a)), (4, .int (nI b))]) rfl ?_
  refine zb_aload_n d_Mo_alter_0 rfl rfl ?_
  refine zb_iload_n d_Mo_alter_1 rfl rfl ?_
  refine zb_callV (rest := []) (c_none_n l G hr) (lk_Mo_36.cw rfl rfl ⟨Nat.le_of_ble_eq_true rfl, Nat.le_of_ble_eq_true rfl⟩) zgM rfl rfl rfl rfl (Nat.le_of_ble_eq_true rfl) d_Mo_alter_2 ⟨Nat.le_of_ble_eq_true rfl, Nat.le_of_ble_eq_true rfl⟩ ?_
  rintro _ _ ⟨rfl, y1⟩
  rename_i σ1
  have z1 : zt σ σ1 0 := y1
  refine zb_st (st' := [.int 0]) rfl ?_
  refine zb_if_ne (tgt := 63) d_Mo_alter_5 rfl (fun h5 => absurd h5 (fun z => z rfl)) (fun h5 => ?_)
  refine zb_aload_n d_Mo_alter_8 rfl rfl ?_
  refine zb_iload_n d_Mo_alter_9 rfl rfl ?_
  refine zb_callV (rest := []) (c_none_n l G ha) (lk_Mo_36.cw rfl rfl ⟨Nat.le_of_ble_eq_true rfl, Nat.le_of_ble_eq_true rfl⟩) zgM rfl rfl rfl rfl (Nat.le_of_ble_eq_true rfl) d_Mo_alter_10 ⟨Nat.le_of_ble_eq_true rfl, Nat.le_of_ble_eq_true rfl⟩ ?_
  rintro _ _ ⟨rfl, y2⟩
  rename_i σ2
  have z2 : zt σ σ2 0 := z1.tr y2
  refine zb_st (st' := [.int 0]) rfl ?_
  refine zb_if_ne (tgt := 63) d_Mo_alter_13 rfl (fun h13 => absurd h13 (fun z => z rfl)) (fun h13 => ?_)
  refine zb_aload_n d_Mo_alter_16 rfl rfl ?_
  refine zb_iload d_Mo_alter_17 rfl ?_
  refine zb_callV (rest := []) (c_none_n l G hb) (lk_Mo_36.cw rfl rfl ⟨Nat.le_of_ble_eq_true rfl, Nat.le_of_ble_eq_true rfl⟩) zgM rfl rfl rfl rfl (Nat.le_of_ble_eq_true rfl) d_Mo_alter_19 ⟨Nat.le_of_ble_eq_true rfl, Nat.le_of_ble_eq_true rfl⟩ ?_
  rintro _ _ ⟨rfl, y3⟩
  rename_i σ3
  have z3 : zt σ σ3 0 := z2.tr y3
  refine zb_st (st' := [.int 0]) rfl ?_
  refine zb_if_ne (tgt := 63) d_Mo_alter_22 rfl (fun h22 => absurd h22 (fun z => z rfl)) (fun h22 => ?_)
  refine zb_aload_n d_Mo_alter_25 rfl rfl ?_
  refine zb_iconst (v := 2) d_Mo_alter_26 rfl ?_
  refine zb_iload_n d_Mo_alter_27 rfl rfl ?_
  refine zb_if_lt (tgt := 52) d_Mo_alter_28 rfl (fun h28 => absurd h28 (nI_pos (by omega))) (fun h28 => ?_)
  refine zb_iload_n d_Mo_alter_31 rfl rfl ?_
  refine zb_iconst (v := 5) d_Mo_alter_32 rfl ?_
  refine zb_icmp_gt (tgt := 52) d_Mo_alter_33 rfl (fun h33 => absurd h33 (nI_nlt (a := 5) (b := op) (by omega) (by decide))) (fun h33 => ?_)
  refine zb_aload_n d_Mo_alter_36 rfl rfl ?_
  refine zm_width d_Mo_alter_37 fl_Mo_13 ?_
  refine zb_iload_n d_Mo_alter_40 rfl rfl ?_
  refine zb_ialdN (q := 31) (j := a) d_Mo_alter_41 (ia31) (show a < 8 from ha) ?_
  refine zb_top (y := nI (w a)) ((z3.mw hm).1 a ha) ?_
  refine zb_aload_n d_Mo_alter_42 rfl rfl ?_
  refine zm_width d_Mo_alter_43 fl_Mo_13 ?_
  refine zb_iload d_Mo_alter_46 rfl ?_
  refine zb_ialdN (q := 31) (j := b) d_Mo_alter_48 (ia31) (show b < 8 from hb) ?_
  refine zb_top (y := nI (w b)) ((z3.mw hm).1 b hb) ?_
  refine zb_icmp_eq (tgt := 56) d_Mo_alter_49 rfl (fun h49 => ?_) (fun h49 => absurd (by rw [hww]) h49)
  refine zb_iconst (v := 0) d_Mo_alter_56 rfl ?_
  refine zb_callV (rest := []) (c_refuse_n l G) (lk_Mo_28.cw rfl rfl ⟨Nat.le_of_ble_eq_true rfl, Nat.le_of_ble_eq_true rfl⟩) zgM rfl rfl rfl rfl (Nat.le_of_ble_eq_true rfl) d_Mo_alter_57 ⟨Nat.le_of_ble_eq_true rfl, Nat.le_of_ble_eq_true rfl⟩ ?_
  rintro _ _ ⟨rfl, rfl⟩
  refine zb_st (st' := [.int 0]) rfl ?_
  refine zb_if_eq (tgt := 65) d_Mo_alter_60 rfl (fun h60 => ?_) (fun h60 => absurd rfl h60)
  refine zb_aload_n d_Mo_alter_65 rfl rfl ?_
  refine zb_callV (rest := []) (c_begin l G) (lk_Mo_52.cw rfl rfl ⟨Nat.le_of_ble_eq_true rfl, Nat.le_of_ble_eq_true rfl⟩) zgM rfl rfl rfl rfl (Nat.le_of_ble_eq_true rfl) d_Mo_alter_66 ⟨Nat.le_of_ble_eq_true rfl, Nat.le_of_ble_eq_true rfl⟩ ?_
  rintro _ _ ⟨rfl, hb0⟩
  rename_i σb
  have hmk := z3.mw hm
  refine zb_st (st' := []) rfl ?_
  refine zb_iconst (v := 0) d_Mo_alter_69 rfl ?_
  refine zb_istore (lv' := [(5, .int 0), (0, .ref (zad G 30)), (1, .int (nI r)), (2, .int (nI op)), (3, .int (nI a)), (4, .int (nI b))]) d_Mo_alter_70 (by decide) rfl ?_
  refine zb_lv (lv' := [(5, .int (nI 0)), (0, .ref (zad G 30)), (1, .int (nI r)), (2, .int (nI op)), (3, .int (nI a)), (4, .int (nI b))]) rfl ?_
  refine zb_sub [0, 1, 2, 3, 4, 5] rfl ?_
  refine lp_malter l G hmk ha hb hop (fun τ hz => ?_) 4096 0 _ rfl (hb0)
  have hz := zo_cut hz
  refine zb_aload_n d_Mo_alter_112 rfl rfl ?_
  refine zb_iload_n d_Mo_alter_113 rfl rfl ?_
  refine zb_aload_n d_Mo_alter_114 rfl rfl ?_
  refine zm_width d_Mo_alter_115 fl_Mo_13 ?_
  refine zb_iload_n d_Mo_alter_118 rfl rfl ?_
  refine zb_ialdN (q := 31) (j := a) d_Mo_alter_119 (ia31) (show a < 8 from ha) ?_
  refine zb_top (y := nI (w a)) ((hz.mw hmk).1 a ha) ?_
  refine zb_iconst (v := 3) d_Mo_alter_120 rfl ?_
  refine zb_callV (rest := []) (c_keep_n l G (D := (fun t => alt op (M a t) (M b t))) (r := r) (u := w a) hz.1 hn) (lk_Mo_58.cw rfl rfl ⟨Nat.le_of_ble_eq_true rfl, Nat.le_of_ble_eq_true rfl⟩) zgM rfl rfl rfl rfl (Nat.le_of_ble_eq_true rfl) d_Mo_alter_121 ⟨Nat.le_of_ble_eq_true rfl, Nat.le_of_ble_eq_true rfl⟩ ?_
  rintro _ _ ⟨rfl, k1⟩
  rename_i σ9
  refine zb_st (st' := [.int 0]) rfl ?_
  exact zb_iret d_Mo_alter_124 rfl ⟨rfl, fin_n z3 hz k1 hmk⟩
set_option maxHeartbeats 4000000 in
set_option maxRecDepth 100000 in
theorem c_mpick_ns (l : Launch) (G : zG) {σ : zS} {x y z b : Int32} (h : ¬ (zgr x ∧ zgr y)) : zC l G y_Mo_pick w_Mo_pick (zrm 2 60) 0 0 [.ref (zad G 30), .int x, .int y, .int z, .int b] σ (fun v σ' => v = some (.int 0) ∧ zt σ σ' 1) := by
  refine zC_of (cc := c_Mo_pick) (nL := 6) (ret := (some .int)) (own := R_Mo) (by decide +kernel) rfl rfl (Nat.le_of_ble_eq_true rfl) ?_
  refine zb_lv (lv' := [(0, .ref (zad G 30)), (1, .int x), (2, .int y), (3, .int z), (4, .int b)]) rfl ?_
  by_cases hx : zgr x
  · obtain ⟨r, hr, rfl⟩ := hx
    refine zb_aload_n d_Mo_pick_0 rfl rfl ?_
    refine zb_iload_n d_Mo_pick_1 rfl rfl ?_
    refine zb_callV (rest := []) (c_none_n l G hr) (lk_Mo_36.cw rfl rfl ⟨Nat.le_of_ble_eq_true rfl, Nat.le_of_ble_eq_true rfl⟩) zgM rfl rfl rfl rfl (Nat.le_of_ble_eq_true rfl) d_Mo_pick_2 ⟨Nat.le_of_ble_eq_true rfl, Nat.le_of_ble_eq_true rfl⟩ ?_
    rintro _ _ ⟨rfl, y1⟩
    rename_i σ1
    have z1 : zt σ σ1 0 := y1
    refine zb_st (st' := [.int 0]) rfl ?_
    refine zb_if_ne (tgt := 55) d_Mo_pick_5 rfl (fun h5 => absurd h5 (fun z => z rfl)) (fun h5 => ?_)
    by_cases hy : zgr y
    · exact absurd ⟨⟨r, hr, rfl⟩, hy⟩ h
    · refine zb_aload_n d_Mo_pick_8 rfl rfl ?_
      refine zb_iload_n d_Mo_pick_9 rfl rfl ?_
      refine zb_callV (rest := []) (c_none_y l G hy) (lk_Mo_36.cw rfl rfl ⟨Nat.le_of_ble_eq_true rfl, Nat.le_of_ble_eq_true rfl⟩) zgM rfl rfl rfl rfl (Nat.le_of_ble_eq_true rfl) d_Mo_pick_10 ⟨Nat.le_of_ble_eq_true rfl, Nat.le_of_ble_eq_true rfl⟩ ?_
      rintro _ _ ⟨rfl, y9⟩
      rename_i σ9
      refine zb_st (st' := [.int 1]) rfl ?_
      refine zb_if_ne (tgt := 55) d_Mo_pick_13 rfl (fun h13 => ?_) (fun h13 => absurd h13 (by decide))
      refine zb_iconst (v := 0) d_Mo_pick_55 rfl ?_
      exact zb_iret d_Mo_pick_56 rfl ⟨rfl, z1.tr y9⟩
  · refine zb_aload_n d_Mo_pick_0 rfl rfl ?_
    refine zb_iload_n d_Mo_pick_1 rfl rfl ?_
    refine zb_callV (rest := []) (c_none_y l G hx) (lk_Mo_36.cw rfl rfl ⟨Nat.le_of_ble_eq_true rfl, Nat.le_of_ble_eq_true rfl⟩) zgM rfl rfl rfl rfl (Nat.le_of_ble_eq_true rfl) d_Mo_pick_2 ⟨Nat.le_of_ble_eq_true rfl, Nat.le_of_ble_eq_true rfl⟩ ?_
    rintro _ _ ⟨rfl, y9⟩
    rename_i σ9
    refine zb_st (st' := [.int 1]) rfl ?_
    refine zb_if_ne (tgt := 55) d_Mo_pick_5 rfl (fun h5 => ?_) (fun h5 => absurd h5 (by decide))
    refine zb_iconst (v := 0) d_Mo_pick_55 rfl ?_
    exact zb_iret d_Mo_pick_56 rfl ⟨rfl, y9⟩
set_option maxHeartbeats 4000000 in
set_option maxRecDepth 100000 in
theorem c_mpick_ia (l : Launch) (G : zG) {σ : zS} {r a : Nat} {z b : Int32} {M : Nat → Nat → Int32} {w : Nat → Nat} (hm : zmw σ M w) (hr : r < 8) (ha : a < 8) (h3 : w a ≤ 3) (h : ¬ ∃ k v : Nat, k < w a ∧ z = nI k ∧ v < 16 ∧ b = nI v) : zC l G y_Mo_pick w_Mo_pick (zrm 2 60) 0 0 [.ref (zad G 30), .int (nI r), .int (nI a), .int z, .int b] σ (fun v σ' => v = some (.int 0) ∧ zt σ σ' 2) := by
  refine zC_of (cc := c_Mo_pick) (nL := 6) (ret := (some .int)) (own := R_Mo) (by decide +kernel) rfl rfl (Nat.le_of_ble_eq_true rfl) ?_
  refine zb_lv (lv' := [(0, .ref (zad G 30)), (1, .int (nI r)), (2, .int (nI a)), (3, .int z), (4, .int b)]) rfl ?_
  refine zb_aload_n d_Mo_pick_0 rfl rfl ?_
  refine zb_iload_n d_Mo_pick_1 rfl rfl ?_
  refine zb_callV (rest := []) (c_none_n l G hr) (lk_Mo_36.cw rfl rfl ⟨Nat.le_of_ble_eq_true rfl, Nat.le_of_ble_eq_true rfl⟩) zgM rfl rfl rfl rfl (Nat.le_of_ble_eq_true rfl) d_Mo_pick_2 ⟨Nat.le_of_ble_eq_true rfl, Nat.le_of_ble_eq_true rfl⟩ ?_
  rintro _ _ ⟨rfl, y1⟩
  rename_i σ1
  have z1 : zt σ σ1 0 := y1
  refine zb_st (st' := [.int 0]) rfl ?_
  refine zb_if_ne (tgt := 55) d_Mo_pick_5 rfl (fun h5 => absurd h5 (fun z => z rfl)) (fun h5 => ?_)
  refine zb_aload_n d_Mo_pick_8 rfl rfl ?_
  refine zb_iload_n d_Mo_pick_9 rfl rfl ?_
  refine zb_callV (rest := []) (c_none_n l G ha) (lk_Mo_36.cw rfl rfl ⟨Nat.le_of_ble_eq_true rfl, Nat.le_of_ble_eq_true rfl⟩) zgM rfl rfl rfl rfl (Nat.le_of_ble_eq_true rfl) d_Mo_pick_10 ⟨Nat.le_of_ble_eq_true rfl, Nat.le_of_ble_eq_true rfl⟩ ?_
  rintro _ _ ⟨rfl, y2⟩
  rename_i σ2
  have z2 : zt σ σ2 0 := z1.tr y2
  refine zb_st (st' := [.int 0]) rfl ?_
  refine zb_if_ne (tgt := 55) d_Mo_pick_13 rfl (fun h13 => absurd h13 (fun z => z rfl)) (fun h13 => ?_)
  refine zb_aload_n d_Mo_pick_16 rfl rfl ?_
  refine zb_iconst (v := 2) d_Mo_pick_17 rfl ?_
  refine zb_iload_n d_Mo_pick_18 rfl rfl ?_
  refine zb_if_lt (tgt := 44) d_Mo_pick_19 rfl (fun h19 => ?_) (fun h19 => ?_)
  · refine zb_iconst (v := 1) d_Mo_pick_44 rfl ?_
    refine zb_goto (tgt := 49) d_Mo_pick_45 rfl ?_
    refine zb_callV (rest := []) (c_refuse_y l G) (lk_Mo_28.cw rfl rfl ⟨Nat.le_of_ble_eq_true rfl, Nat.le_of_ble_eq_true rfl⟩) zgM rfl rfl rfl rfl (Nat.le_of_ble_eq_true rfl) d_Mo_pick_49 ⟨Nat.le_of_ble_eq_true rfl, Nat.le_of_ble_eq_true rfl⟩ ?_
    rintro _ _ ⟨rfl, y9⟩
    rename_i σ9
    refine zb_st (st' := [.int 1]) rfl ?_
    refine zb_if_eq (tgt := 57) d_Mo_pick_52 rfl (fun h52 => absurd h52 (by decide)) (fun h52 => ?_)
    refine zb_iconst (v := 0) d_Mo_pick_55 rfl ?_
    exact zb_iret d_Mo_pick_56 rfl ⟨rfl, z2.tr y9⟩
  · refine zb_iload_n d_Mo_pick_22 rfl rfl ?_
    refine zb_aload_n d_Mo_pick_23 rfl rfl ?_
    refine zm_width d_Mo_pick_24 fl_Mo_13 ?_
    refine zb_iload_n d_Mo_pick_27 rfl rfl ?_
    refine zb_ialdN (q := 31) (j := a) d_Mo_pick_28 (ia31) (show a < 8 from ha) ?_
    refine zb_top (y := nI (w a)) ((z2.mw hm).1 a ha) ?_
    refine zb_icmp_ge (tgt := 44) d_Mo_pick_29 rfl (fun h29 => ?_) (fun h29 => ?_)
    · refine zb_iconst (v := 1) d_Mo_pick_44 rfl ?_
      refine zb_goto (tgt := 49) d_Mo_pick_45 rfl ?_
      refine zb_callV (rest := []) (c_refuse_y l G) (lk_Mo_28.cw rfl rfl ⟨Nat.le_of_ble_eq_true rfl, Nat.le_of_ble_eq_true rfl⟩) zgM rfl rfl rfl rfl (Nat.le_of_ble_eq_true rfl) d_Mo_pick_49 ⟨Nat.le_of_ble_eq_true rfl, Nat.le_of_ble_eq_true rfl⟩ ?_
      rintro _ _ ⟨rfl, y9⟩
      rename_i σ9
      refine zb_st (st' := [.int 1]) rfl ?_
      refine zb_if_eq (tgt := 57) d_Mo_pick_52 rfl (fun h52 => absurd h52 (by decide)) (fun h52 => ?_)
      refine zb_iconst (v := 0) d_Mo_pick_55 rfl ?_
      exact zb_iret d_Mo_pick_56 rfl ⟨rfl, z2.tr y9⟩
    · refine zb_iload d_Mo_pick_32 rfl ?_
      refine zb_if_lt (tgt := 44) d_Mo_pick_34 rfl (fun h34 => ?_) (fun h34 => ?_)
      · refine zb_iconst (v := 1) d_Mo_pick_44 rfl ?_
        refine zb_goto (tgt := 49) d_Mo_pick_45 rfl ?_
        refine zb_callV (rest := []) (c_refuse_y l G) (lk_Mo_28.cw rfl rfl ⟨Nat.le_of_ble_eq_true rfl, Nat.le_of_ble_eq_true rfl⟩) zgM rfl rfl rfl rfl (Nat.le_of_ble_eq_true rfl) d_Mo_pick_49 ⟨Nat.le_of_ble_eq_true rfl, Nat.le_of_ble_eq_true rfl⟩ ?_
        rintro _ _ ⟨rfl, y9⟩
        rename_i σ9
        refine zb_st (st' := [.int 1]) rfl ?_
        refine zb_if_eq (tgt := 57) d_Mo_pick_52 rfl (fun h52 => absurd h52 (by decide)) (fun h52 => ?_)
        refine zb_iconst (v := 0) d_Mo_pick_55 rfl ?_
        exact zb_iret d_Mo_pick_56 rfl ⟨rfl, z2.tr y9⟩
      · refine zb_iload d_Mo_pick_37 rfl ?_
        refine zb_bipush (v := 15) d_Mo_pick_39 rfl ?_
        refine zb_icmp_le (tgt := 48) d_Mo_pick_41 rfl (fun h41 => absurd h41 (fun q => by
          obtain ⟨k, hk31, rfl⟩ := nI_of h19
          obtain ⟨v, hv31, rfl⟩ := nI_of h34
          exact h ⟨k, v, (nI_ltI hk31 (by omega)).mp (Int32.not_le.mp h29), rfl, by have := (nI_leI (b := 15) hv31 (by decide)).mp q; omega, rfl⟩)) (fun h41 => ?_)
        refine zb_iconst (v := 1) d_Mo_pick_44 rfl ?_
        refine zb_goto (tgt := 49) d_Mo_pick_45 rfl ?_
        refine zb_callV (rest := []) (c_refuse_y l G) (lk_Mo_28.cw rfl rfl ⟨Nat.le_of_ble_eq_true rfl, Nat.le_of_ble_eq_true rfl⟩) zgM rfl rfl rfl rfl (Nat.le_of_ble_eq_true rfl) d_Mo_pick_49 ⟨Nat.le_of_ble_eq_true rfl, Nat.le_of_ble_eq_true rfl⟩ ?_
        rintro _ _ ⟨rfl, y9⟩
        rename_i σ9
        refine zb_st (st' := [.int 1]) rfl ?_
        refine zb_if_eq (tgt := 57) d_Mo_pick_52 rfl (fun h52 => absurd h52 (by decide)) (fun h52 => ?_)
        refine zb_iconst (v := 0) d_Mo_pick_55 rfl ?_
        exact zb_iret d_Mo_pick_56 rfl ⟨rfl, z2.tr y9⟩
set_option maxHeartbeats 4000000 in
set_option maxRecDepth 100000 in
theorem lp_mpick (l : Launch) (G : zG) {σ : zS} {r a k v : Nat} {M : Nat → Nat → Int32} {w : Nat → Nat} (hm : zmw σ M w) (ha : a < 8) (hk : k < 3) (hv : v < 16) {Fin : List Frame → Array Value → State → State → Prop} (K : ∀ τ : zS, zo σ τ (cutm (fun t => if nu t k = v then M a t else 0) 4096) → zB l G w_Mo_pick R_Mo c_Mo_pick 6 (some .int) [] (zrm 2 60) Fin 0 0 103 [(5, .int (nI 4096)), (0, .ref (zad G 30)), (1, .int (nI r)), (2, .int (nI a)), (3, .int (nI k)), (4, .int (nI v))] [] τ) : ∀ (d i : Nat) (τ : zS), i + d = 4096 → zo σ τ (cutm (fun t => if nu t k = v then M a t else 0) i) → zB l G w_Mo_pick R_Mo c_Mo_pick 6 (some .int) [] (zrm 2 60) Fin 0 0 64 [(5, .int (nI i)), (0, .ref (zad G 30)), (1, .int (nI r)), (2, .int (nI a)), (3, .int (nI k)), (4, .int (nI v))] [] τ := by
  intro d
  induction d with
  | zero =>
    intro i τ hi hz
    have e : i = 4096 := by omega
    refine zb_iload d_Mo_pick_64 rfl ?_
    refine zb_sipush (v := 4096) d_Mo_pick_66 rfl ?_
    refine zb_icmp_ge (tgt := 103) d_Mo_pick_69 rfl (fun h69 => ?_) (fun h69 => absurd (nI_le (a := 4096) (b := i) (by omega) (by omega)) h69)
    refine zb_sub [0, 1, 2, 3, 4, 5] rfl ?_
    rw [e] at hz ⊢
    exact K τ hz
  | succ d ih =>
    intro i τ hi hz
    have hlt : i < 4096 := by omega
    refine zb_iload d_Mo_pick_64 rfl ?_
    refine zb_sipush (v := 4096) d_Mo_pick_66 rfl ?_
    refine zb_icmp_ge (tgt := 103) d_Mo_pick_69 rfl (fun h69 => absurd h69 (nI_ge (a := i) (b := 4096) (by omega) (by omega))) (fun h69 => ?_)
    refine zb_iload d_Mo_pick_72 rfl ?_
    refine zb_iload_n d_Mo_pick_74 rfl rfl ?_
    refine zb_callS (rest := []) (c_number l G hlt hk) (lk_Mo_55.cw rfl rfl ⟨Nat.le_of_ble_eq_true rfl, Nat.le_of_ble_eq_true rfl⟩) rfl rfl (Nat.le_of_ble_eq_true rfl) d_Mo_pick_75 ⟨Nat.le_of_ble_eq_true rfl, Nat.le_of_ble_eq_true rfl⟩ ?_
    rintro _ _ ⟨rfl, rfl⟩
    refine zb_st (st' := [.int (nI (nu i k))]) rfl ?_
    refine zb_iload d_Mo_pick_78 rfl ?_
    refine zb_icmp_ne (tgt := 97) d_Mo_pick_80 rfl (fun h80 => ?_) (fun h80 => ?_)
    · refine zb_iinc (v := nI (i + 1)) (lv' := [(5, .int (nI (i + 1))), (0, .ref (zad G 30)), (1, .int (nI r)), (2, .int (nI a)), (3, .int (nI k)), (4, .int (nI v))]) d_Mo_pick_97 rfl (nI_1 i) (by decide) rfl ?_
      refine zb_goto (tgt := 64) d_Mo_pick_100 rfl ?_
      refine zb_sub [0, 1, 2, 3, 4, 5] rfl ?_
      exact ih (i + 1) _ (by omega) (cut_n (D := (fun t => if nu t k = v then M a t else 0)) (if_neg (fun e => h80 (by rw [e]))) ▸ hz)
    · refine zb_aload_n d_Mo_pick_83 rfl rfl ?_
      refine zm_made d_Mo_pick_84 fl_Mo_21 ?_
      refine zb_iload d_Mo_pick_87 rfl ?_
      refine zb_aload_n d_Mo_pick_89 rfl rfl ?_
      refine zb_iload_n d_Mo_pick_90 rfl rfl ?_
      refine zb_iload d_Mo_pick_91 rfl ?_
      refine zb_callV (rest := [.int (nI i), .ref (zad G 33)]) (c_of l G (hz.mw hm) ha hlt) (lk_Mo_48.cw rfl rfl ⟨Nat.le_of_ble_eq_true rfl, Nat.le_of_ble_eq_true rfl⟩) zgM rfl rfl rfl rfl (Nat.le_of_ble_eq_true rfl) d_Mo_pick_93 ⟨Nat.le_of_ble_eq_true rfl, Nat.le_of_ble_eq_true rfl⟩ ?_
      rintro _ _ ⟨rfl, rfl⟩
      refine zb_st (st' := [.int (M a i), .int (nI i), .ref (zad G 33)]) rfl ?_
      refine zb_iastN (q := 33) (j := i) d_Mo_pick_96 (ia33) (show i < 4096 from hlt) ?_
      refine zb_iinc (v := nI (i + 1)) (lv' := [(5, .int (nI (i + 1))), (0, .ref (zad G 30)), (1, .int (nI r)), (2, .int (nI a)), (3, .int (nI k)), (4, .int (nI v))]) d_Mo_pick_97 rfl (nI_1 i) (by decide) rfl ?_
      refine zb_goto (tgt := 64) d_Mo_pick_100 rfl ?_
      refine zb_sub [0, 1, 2, 3, 4, 5] rfl ?_
      exact ih (i + 1) _ (by omega) (cut_s (fun t => if nu t k = v then M a t else 0) i ▸ (show zo σ _ (upd _ i (if nu i k = v then M a i else 0)) from (if_pos ((nI_eq (by have := nu_lt i k; omega) (by omega)).mp h80)).symm ▸ zo_s hz i (M a i)))
set_option maxHeartbeats 4000000 in
set_option maxRecDepth 100000 in
theorem c_mpick (l : Launch) (G : zG) {σ : zS} {r a k v : Nat} {M : Nat → Nat → Int32} {w : Nat → Nat} (hm : zmw σ M w) (hr : r < 8) (ha : a < 8) (h3 : w a ≤ 3) (hk : k < w a) (hv : v < 16) (hn : zct (fun t => if nu t k = v then M a t else 0) 4096 ≤ 300) : zC l G y_Mo_pick w_Mo_pick (zrm 2 60) 0 0 [.ref (zad G 30), .int (nI r), .int (nI a), .int (nI k), .int (nI v)] σ (fun o9 σ' => o9 = some (.int (nI (zct (fun t => if nu t k = v then M a t else 0) 4096))) ∧ σ'.1 30 0 = 0 ∧ zmw σ' (uM M r (fun t => if nu t k = v then M a t else 0)) (uM w r (w a)) ∧ zj σ σ') := by
  refine zC_of (cc := c_Mo_pick) (nL := 6) (ret := (some .int)) (own := R_Mo) (by decide +kernel) rfl rfl (Nat.le_of_ble_eq_true rfl) ?_
  refine zb_lv (lv' := [(0, .ref (zad G 30)), (1, .int (nI r)), (2, .int (nI a)), (3, .int (nI k)), (4, .int (nI v))]) rfl ?_
  refine zb_aload_n d_Mo_pick_0 rfl rfl ?_
  refine zb_iload_n d_Mo_pick_1 rfl rfl ?_
  refine zb_callV (rest := []) (c_none_n l G hr) (lk_Mo_36.cw rfl rfl ⟨Nat.le_of_ble_eq_true rfl, Nat.le_of_ble_eq_true rfl⟩) zgM rfl rfl rfl rfl (Nat.le_of_ble_eq_true rfl) d_Mo_pick_2 ⟨Nat.le_of_ble_eq_true rfl, Nat.le_of_ble_eq_true rfl⟩ ?_
  rintro _ _ ⟨rfl, y1⟩
  rename_i σ1
  have z1 : zt σ σ1 0 := y1
  refine zb_st (st' := [.int 0]) rfl ?_
  refine zb_if_ne (tgt := 55) d_Mo_pick_5 rfl (fun h5 => absurd h5 (fun z => z rfl)) (fun h5 => ?_)
  refine zb_aload_n d_Mo_pick_8 rfl rfl ?_
  refine zb_iload_n d_Mo_pick_9 rfl rfl ?_
  refine zb_callV (rest := []) (c_none_n l G ha) (lk_Mo_36.cw rfl rfl ⟨Nat.le_of_ble_eq_true rfl, Nat.le_of_ble_eq_true rfl⟩) zgM rfl rfl rfl rfl (Nat.le_of_ble_eq_true rfl) d_Mo_pick_10 ⟨Nat.le_of_ble_eq_true rfl, Nat.le_of_ble_eq_true rfl⟩ ?_
  rintro _ _ ⟨rfl, y2⟩
  rename_i σ2
  have z2 : zt σ σ2 0 := z1.tr y2
  refine zb_st (st' := [.int 0]) rfl ?_
  refine zb_if_ne (tgt := 55) d_Mo_pick_13 rfl (fun h13 => absurd h13 (fun z => z rfl)) (fun h13 => ?_)
  refine zb_aload_n d_Mo_pick_16 rfl rfl ?_
  refine zb_iconst (v := 2) d_Mo_pick_17 rfl ?_
  refine zb_iload_n d_Mo_pick_18 rfl rfl ?_
  refine zb_if_lt (tgt := 44) d_Mo_pick_19 rfl (fun h19 => absurd h19 (nI_pos (by omega))) (fun h19 => ?_)
  refine zb_iload_n d_Mo_pick_22 rfl rfl ?_
  refine zb_aload_n d_Mo_pick_23 rfl rfl ?_
  refine zm_width d_Mo_pick_24 fl_Mo_13 ?_
  refine zb_iload_n d_Mo_pick_27 rfl rfl ?_
  refine zb_ialdN (q := 31) (j := a) d_Mo_pick_28 (ia31) (show a < 8 from ha) ?_
  refine zb_top (y := nI (w a)) ((z2.mw hm).1 a ha) ?_
  refine zb_icmp_ge (tgt := 44) d_Mo_pick_29 rfl (fun h29 => absurd h29 (nI_ge hk (by omega))) (fun h29 => ?_)
  refine zb_iload d_Mo_pick_32 rfl ?_
  refine zb_if_lt (tgt := 44) d_Mo_pick_34 rfl (fun h34 => absurd h34 (nI_pos (by omega))) (fun h34 => ?_)
  refine zb_iload d_Mo_pick_37 rfl ?_
  refine zb_bipush (v := 15) d_Mo_pick_39 rfl ?_
  refine zb_icmp_le (tgt := 48) d_Mo_pick_41 rfl (fun h41 => ?_) (fun h41 => absurd (nI_le (b := 15) (show v ≤ 15 by omega) (by decide)) h41)
  refine zb_iconst (v := 0) d_Mo_pick_48 rfl ?_
  refine zb_callV (rest := []) (c_refuse_n l G) (lk_Mo_28.cw rfl rfl ⟨Nat.le_of_ble_eq_true rfl, Nat.le_of_ble_eq_true rfl⟩) zgM rfl rfl rfl rfl (Nat.le_of_ble_eq_true rfl) d_Mo_pick_49 ⟨Nat.le_of_ble_eq_true rfl, Nat.le_of_ble_eq_true rfl⟩ ?_
  rintro _ _ ⟨rfl, rfl⟩
  refine zb_st (st' := [.int 0]) rfl ?_
  refine zb_if_eq (tgt := 57) d_Mo_pick_52 rfl (fun h52 => ?_) (fun h52 => absurd rfl h52)
  refine zb_aload_n d_Mo_pick_57 rfl rfl ?_
  refine zb_callV (rest := []) (c_begin l G) (lk_Mo_52.cw rfl rfl ⟨Nat.le_of_ble_eq_true rfl, Nat.le_of_ble_eq_true rfl⟩) zgM rfl rfl rfl rfl (Nat.le_of_ble_eq_true rfl) d_Mo_pick_58 ⟨Nat.le_of_ble_eq_true rfl, Nat.le_of_ble_eq_true rfl⟩ ?_
  rintro _ _ ⟨rfl, hb0⟩
  rename_i σb
  have hmk := z2.mw hm
  refine zb_st (st' := []) rfl ?_
  refine zb_iconst (v := 0) d_Mo_pick_61 rfl ?_
  refine zb_istore (lv' := [(5, .int 0), (0, .ref (zad G 30)), (1, .int (nI r)), (2, .int (nI a)), (3, .int (nI k)), (4, .int (nI v))]) d_Mo_pick_62 (by decide) rfl ?_
  refine zb_lv (lv' := [(5, .int (nI 0)), (0, .ref (zad G 30)), (1, .int (nI r)), (2, .int (nI a)), (3, .int (nI k)), (4, .int (nI v))]) rfl ?_
  refine zb_sub [0, 1, 2, 3, 4, 5] rfl ?_
  refine lp_mpick l G hmk ha (show k < 3 by omega) hv (fun τ hz => ?_) 4096 0 _ rfl (hb0)
  have hz := zo_cut hz
  refine zb_aload_n d_Mo_pick_103 rfl rfl ?_
  refine zb_iload_n d_Mo_pick_104 rfl rfl ?_
  refine zb_aload_n d_Mo_pick_105 rfl rfl ?_
  refine zm_width d_Mo_pick_106 fl_Mo_13 ?_
  refine zb_iload_n d_Mo_pick_109 rfl rfl ?_
  refine zb_ialdN (q := 31) (j := a) d_Mo_pick_110 (ia31) (show a < 8 from ha) ?_
  refine zb_top (y := nI (w a)) ((hz.mw hmk).1 a ha) ?_
  refine zb_iconst (v := 3) d_Mo_pick_111 rfl ?_
  refine zb_callV (rest := []) (c_keep_y l G (D := (fun t => if nu t k = v then M a t else 0)) (u := w a) (hz.mw hmk) hr hz.1 hn) (lk_Mo_58.cw rfl rfl ⟨Nat.le_of_ble_eq_true rfl, Nat.le_of_ble_eq_true rfl⟩) zgM rfl rfl rfl rfl (Nat.le_of_ble_eq_true rfl) d_Mo_pick_112 ⟨Nat.le_of_ble_eq_true rfl, Nat.le_of_ble_eq_true rfl⟩ ?_
  rintro _ _ ⟨rfl, k1, k2, k3⟩
  rename_i σ9
  refine zb_st (st' := [.int (nI (zct (fun t => if nu t k = v then M a t else 0) 4096))]) rfl ?_
  exact zb_iret d_Mo_pick_115 rfl ⟨rfl, (fin_y z2 hz ⟨k2, k3⟩).1, k1, (fin_y z2 hz ⟨k2, k3⟩).2⟩
set_option maxHeartbeats 4000000 in
set_option maxRecDepth 100000 in
theorem c_msame_ns (l : Launch) (G : zG) {σ : zS} {x y : Int32} (h : ¬ (zgr x ∧ zgr y)) : zC l G y_Mo_same w_Mo_same (zrm 2 60) 0 0 [.ref (zad G 30), .int x, .int y] σ (fun v σ' => v = some (.int 0) ∧ zt σ σ' 1) := by
  refine zC_of (cc := c_Mo_same) (nL := 5) (ret := (some .boolean)) (own := R_Mo) (by decide +kernel) rfl rfl (Nat.le_of_ble_eq_true rfl) ?_
  refine zb_lv (lv' := [(0, .ref (zad G 30)), (1, .int x), (2, .int y)]) rfl ?_
  by_cases hx : zgr x
  · obtain ⟨r, hr, rfl⟩ := hx
    refine zb_aload_n d_Mo_same_0 rfl rfl ?_
    refine zb_iload_n d_Mo_same_1 rfl rfl ?_
    refine zb_callV (rest := []) (c_none_n l G hr) (lk_Mo_36.cw rfl rfl ⟨Nat.le_of_ble_eq_true rfl, Nat.le_of_ble_eq_true rfl⟩) zgM rfl rfl rfl rfl (Nat.le_of_ble_eq_true rfl) d_Mo_same_2 ⟨Nat.le_of_ble_eq_true rfl, Nat.le_of_ble_eq_true rfl⟩ ?_
    rintro _ _ ⟨rfl, y1⟩
    rename_i σ1
    have z1 : zt σ σ1 0 := y1
    refine zb_st (st' := [.int 0]) rfl ?_
    refine zb_if_ne (tgt := 16) d_Mo_same_5 rfl (fun h5 => absurd h5 (fun z => z rfl)) (fun h5 => ?_)
    by_cases hy : zgr y
    · exact absurd ⟨⟨r, hr, rfl⟩, hy⟩ h
    · refine zb_aload_n d_Mo_same_8 rfl rfl ?_
      refine zb_iload_n d_Mo_same_9 rfl rfl ?_
      refine zb_callV (rest := []) (c_none_y l G hy) (lk_Mo_36.cw rfl rfl ⟨Nat.le_of_ble_eq_true rfl, Nat.le_of_ble_eq_true rfl⟩) zgM rfl rfl rfl rfl (Nat.le_of_ble_eq_true rfl) d_Mo_same_10 ⟨Nat.le_of_ble_eq_true rfl, Nat.le_of_ble_eq_true rfl⟩ ?_
      rintro _ _ ⟨rfl, y9⟩
      rename_i σ9
      refine zb_st (st' := [.int 1]) rfl ?_
      refine zb_if_eq (tgt := 18) d_Mo_same_13 rfl (fun h13 => absurd h13 (by decide)) (fun h13 => ?_)
      refine zb_iconst (v := 0) d_Mo_same_16 rfl ?_
      exact zb_zret d_Mo_same_17 rfl rfl ⟨rfl, z1.tr y9⟩
  · refine zb_aload_n d_Mo_same_0 rfl rfl ?_
    refine zb_iload_n d_Mo_same_1 rfl rfl ?_
    refine zb_callV (rest := []) (c_none_y l G hx) (lk_Mo_36.cw rfl rfl ⟨Nat.le_of_ble_eq_true rfl, Nat.le_of_ble_eq_true rfl⟩) zgM rfl rfl rfl rfl (Nat.le_of_ble_eq_true rfl) d_Mo_same_2 ⟨Nat.le_of_ble_eq_true rfl, Nat.le_of_ble_eq_true rfl⟩ ?_
    rintro _ _ ⟨rfl, y9⟩
    rename_i σ9
    refine zb_st (st' := [.int 1]) rfl ?_
    refine zb_if_ne (tgt := 16) d_Mo_same_5 rfl (fun h5 => ?_) (fun h5 => absurd h5 (by decide))
    refine zb_iconst (v := 0) d_Mo_same_16 rfl ?_
    exact zb_zret d_Mo_same_17 rfl rfl ⟨rfl, y9⟩
set_option maxHeartbeats 4000000 in
set_option maxRecDepth 100000 in
theorem lp_same0 (l : Launch) (G : zG) {σ : zS} {a b : Nat} {φ : Option Value → zS → Prop} (hφ : φ (some (.int 0)) σ) : ∀ d i : Nat, i + d = 4096 → zB l G w_Mo_same R_Mo c_Mo_same 5 (some .boolean) [] (zrm 2 60) (zR G φ 0 0) 0 0 42 [(4, .int (nI i)), (3, .int 0), (0, .ref (zad G 30)), (1, .int (nI a)), (2, .int (nI b))] [] σ := by
  intro d
  induction d with
  | zero =>
    intro i hi
    have e : i = 4096 := by omega
    refine zb_iload d_Mo_same_42 rfl ?_
    refine zb_sipush (v := 4096) d_Mo_same_44 rfl ?_
    refine zb_icmp_ge (tgt := 83) d_Mo_same_47 rfl (fun h47 => ?_) (fun h47 => absurd (nI_le (a := 4096) (b := i) (by omega) (by omega)) h47)
    refine zb_iload_n d_Mo_same_83 rfl rfl ?_
    exact zb_zret d_Mo_same_84 rfl rfl hφ
  | succ d ih =>
    intro i hi
    have hlt : i < 4096 := by omega
    refine zb_iload d_Mo_same_42 rfl ?_
    refine zb_sipush (v := 4096) d_Mo_same_44 rfl ?_
    refine zb_icmp_ge (tgt := 83) d_Mo_same_47 rfl (fun h47 => absurd h47 (nI_ge (a := i) (b := 4096) (by omega) (by omega))) (fun h47 => ?_)
    refine zb_iload_n d_Mo_same_50 rfl rfl ?_
    refine zb_if_eq (tgt := 75) d_Mo_same_51 rfl (fun h51 => ?_) (fun h51 => absurd rfl h51)
    refine zb_iconst (v := 0) d_Mo_same_75 rfl ?_
    refine zb_istore_n (lv' := [(3, .int 0), (4, .int (nI i)), (0, .ref (zad G 30)), (1, .int (nI a)), (2, .int (nI b))]) d_Mo_same_76 rfl (by decide) rfl ?_
    refine zb_iinc (v := nI (i + 1)) (lv' := [(4, .int (nI (i + 1))), (3, .int 0), (0, .ref (zad G 30)), (1, .int (nI a)), (2, .int (nI b))]) d_Mo_same_77 rfl (nI_1 i) (by decide) rfl ?_
    refine zb_goto (tgt := 42) d_Mo_same_80 rfl ?_
    refine zb_sub [0, 1, 2, 3, 4] rfl ?_
    exact ih (i + 1) (by omega)
set_option maxHeartbeats 4000000 in
set_option maxRecDepth 100000 in
theorem lp_same1 (l : Launch) (G : zG) {σ : zS} {a b : Nat} {M : Nat → Nat → Int32} {w : Nat → Nat} (hm : zmw σ M w) (ha : a < 8) (hb : b < 8) {φ : Option Value → zS → Prop} (hφ1 : (∀ t, t < 4096 → M a t = M b t) → φ (some (.int 1)) σ) (hφ0 : ¬ (∀ t, t < 4096 → M a t = M b t) → φ (some (.int 0)) σ) : ∀ d i : Nat, i + d = 4096 → (∀ t, t < i → M a t = M b t) → zB l G w_Mo_same R_Mo c_Mo_same 5 (some .boolean) [] (zrm 2 60) (zR G φ 0 0) 0 0 42 [(4, .int (nI i)), (3, .int 1), (0, .ref (zad G 30)), (1, .int (nI a)), (2, .int (nI b))] [] σ := by
  intro d
  induction d with
  | zero =>
    intro i hi hq
    have e : i = 4096 := by omega
    refine zb_iload d_Mo_same_42 rfl ?_
    refine zb_sipush (v := 4096) d_Mo_same_44 rfl ?_
    refine zb_icmp_ge (tgt := 83) d_Mo_same_47 rfl (fun h47 => ?_) (fun h47 => absurd (nI_le (a := 4096) (b := i) (by omega) (by omega)) h47)
    refine zb_iload_n d_Mo_same_83 rfl rfl ?_
    exact zb_zret d_Mo_same_84 rfl rfl (hφ1 (fun t ht => hq t (by omega)))
  | succ d ih =>
    intro i hi hq
    have hlt : i < 4096 := by omega
    refine zb_iload d_Mo_same_42 rfl ?_
    refine zb_sipush (v := 4096) d_Mo_same_44 rfl ?_
    refine zb_icmp_ge (tgt := 83) d_Mo_same_47 rfl (fun h47 => absurd h47 (nI_ge (a := i) (b := 4096) (by omega) (by omega))) (fun h47 => ?_)
    refine zb_iload_n d_Mo_same_50 rfl rfl ?_
    refine zb_if_eq (tgt := 75) d_Mo_same_51 rfl (fun h51 => absurd h51 (by decide)) (fun h51 => ?_)
    refine zb_aload_n d_Mo_same_54 rfl rfl ?_
    refine zb_iload_n d_Mo_same_55 rfl rfl ?_
    refine zb_iload d_Mo_same_56 rfl ?_
    refine zb_callV (rest := []) (c_of l G hm ha hlt) (lk_Mo_48.cw rfl rfl ⟨Nat.le_of_ble_eq_true rfl, Nat.le_of_ble_eq_true rfl⟩) zgM rfl rfl rfl rfl (Nat.le_of_ble_eq_true rfl) d_Mo_same_58 ⟨Nat.le_of_ble_eq_true rfl, Nat.le_of_ble_eq_true rfl⟩ ?_
    rintro _ _ ⟨rfl, rfl⟩
    refine zb_st (st' := [.int (M a i)]) rfl ?_
    refine zb_aload_n d_Mo_same_61 rfl rfl ?_
    refine zb_iload_n d_Mo_same_62 rfl rfl ?_
    refine zb_iload d_Mo_same_63 rfl ?_
    refine zb_callV (rest := [.int (M a i)]) (c_of l G hm hb hlt) (lk_Mo_48.cw rfl rfl ⟨Nat.le_of_ble_eq_true rfl, Nat.le_of_ble_eq_true rfl⟩) zgM rfl rfl rfl rfl (Nat.le_of_ble_eq_true rfl) d_Mo_same_65 ⟨Nat.le_of_ble_eq_true rfl, Nat.le_of_ble_eq_true rfl⟩ ?_
    rintro _ _ ⟨rfl, rfl⟩
    refine zb_st (st' := [.int (M b i), .int (M a i)]) rfl ?_
    refine zb_icmp_ne (tgt := 75) d_Mo_same_68 rfl (fun h68 => ?_) (fun h68 => ?_)
    · refine zb_iconst (v := 0) d_Mo_same_75 rfl ?_
      refine zb_istore_n (lv' := [(3, .int 0), (4, .int (nI i)), (0, .ref (zad G 30)), (1, .int (nI a)), (2, .int (nI b))]) d_Mo_same_76 rfl (by decide) rfl ?_
      refine zb_iinc (v := nI (i + 1)) (lv' := [(4, .int (nI (i + 1))), (3, .int 0), (0, .ref (zad G 30)), (1, .int (nI a)), (2, .int (nI b))]) d_Mo_same_77 rfl (nI_1 i) (by decide) rfl ?_
      refine zb_goto (tgt := 42) d_Mo_same_80 rfl ?_
      refine zb_sub [0, 1, 2, 3, 4] rfl ?_
      exact lp_same0 l G (hφ0 (fun z => h68 (z i hlt))) d (i + 1) (by omega)
    · refine zb_iconst (v := 1) d_Mo_same_71 rfl ?_
      refine zb_goto (tgt := 76) d_Mo_same_72 rfl ?_
      refine zb_istore_n (lv' := [(3, .int 1), (4, .int (nI i)), (0, .ref (zad G 30)), (1, .int (nI a)), (2, .int (nI b))]) d_Mo_same_76 rfl (by decide) rfl ?_
      refine zb_iinc (v := nI (i + 1)) (lv' := [(4, .int (nI (i + 1))), (3, .int 1), (0, .ref (zad G 30)), (1, .int (nI a)), (2, .int (nI b))]) d_Mo_same_77 rfl (nI_1 i) (by decide) rfl ?_
      refine zb_goto (tgt := 42) d_Mo_same_80 rfl ?_
      refine zb_sub [0, 1, 2, 3, 4] rfl ?_
      exact ih (i + 1) (by omega) (fun t ht => by
        by_cases e : t = i
        · rw [e]; exact h68
        · exact hq t (by omega))
set_option maxHeartbeats 4000000 in
set_option maxRecDepth 100000 in
/-- same(a, b) -/
theorem c_msame (l : Launch) (G : zG) {σ : zS} {a b : Nat} {M : Nat → Nat → Int32} {w : Nat → Nat} (hm : zmw σ M w) (ha : a < 8) (hb : b < 8) (h3a : w a ≤ 3) (h3b : w b ≤ 3) : zC l G y_Mo_same w_Mo_same (zrm 2 60) 0 0 [.ref (zad G 30), .int (nI a), .int (nI b)] σ (fun v σ' => ((w a = w b ∧ ∀ t, t < 4096 → M a t = M b t) ∧ v = some (.int 1) ∨ ¬ (w a = w b ∧ ∀ t, t < 4096 → M a t = M b t) ∧ v = some (.int 0)) ∧ zt σ σ' 0) := by
  refine zC_of (cc := c_Mo_same) (nL := 5) (ret := (some .boolean)) (own := R_Mo) (by decide +kernel) rfl rfl (Nat.le_of_ble_eq_true rfl) ?_
  refine zb_lv (lv' := [(0, .ref (zad G 30)), (1, .int (nI a)), (2, .int (nI b))]) rfl ?_
  refine zb_aload_n d_Mo_same_0 rfl rfl ?_
  refine zb_iload_n d_Mo_same_1 rfl rfl ?_
  refine zb_callV (rest := []) (c_none_n l G ha) (lk_Mo_36.cw rfl rfl ⟨Nat.le_of_ble_eq_true rfl, Nat.le_of_ble_eq_true rfl⟩) zgM rfl rfl rfl rfl (Nat.le_of_ble_eq_true rfl) d_Mo_same_2 ⟨Nat.le_of_ble_eq_true rfl, Nat.le_of_ble_eq_true rfl⟩ ?_
  rintro _ _ ⟨rfl, y1⟩
  rename_i σ1
  have z1 : zt σ σ1 0 := y1
  refine zb_st (st' := [.int 0]) rfl ?_
  refine zb_if_ne (tgt := 16) d_Mo_same_5 rfl (fun h5 => absurd h5 (fun z => z rfl)) (fun h5 => ?_)
  refine zb_aload_n d_Mo_same_8 rfl rfl ?_
  refine zb_iload_n d_Mo_same_9 rfl rfl ?_
  refine zb_callV (rest := []) (c_none_n l G hb) (lk_Mo_36.cw rfl rfl ⟨Nat.le_of_ble_eq_true rfl, Nat.le_of_ble_eq_true rfl⟩) zgM rfl rfl rfl rfl (Nat.le_of_ble_eq_true rfl) d_Mo_same_10 ⟨Nat.le_of_ble_eq_true rfl, Nat.le_of_ble_eq_true rfl⟩ ?_
  rintro _ _ ⟨rfl, y2⟩
  rename_i σ2
  have z2 : zt σ σ2 0 := z1.tr y2
  refine zb_st (st' := [.int 0]) rfl ?_
  refine zb_if_eq (tgt := 18) d_Mo_same_13 rfl (fun h13 => ?_) (fun h13 => absurd rfl h13)
  refine zb_aload_n d_Mo_same_18 rfl rfl ?_
  refine zm_width d_Mo_same_19 fl_Mo_13 ?_
  refine zb_iload_n d_Mo_same_22 rfl rfl ?_
  refine zb_ialdN (q := 31) (j := a) d_Mo_same_23 (ia31) (show a < 8 from ha) ?_
  refine zb_top (y := nI (w a)) ((z2.mw hm).1 a ha) ?_
  refine zb_aload_n d_Mo_same_24 rfl rfl ?_
  refine zm_width d_Mo_same_25 fl_Mo_13 ?_
  refine zb_iload_n d_Mo_same_28 rfl rfl ?_
  refine zb_ialdN (q := 31) (j := b) d_Mo_same_29 (ia31) (show b < 8 from hb) ?_
  refine zb_top (y := nI (w b)) ((z2.mw hm).1 b hb) ?_
  refine zb_icmp_ne (tgt := 37) d_Mo_same_30 rfl (fun h30 => ?_) (fun h30 => ?_)
  · refine zb_iconst (v := 0) d_Mo_same_37 rfl ?_
    refine zb_istore_n (lv' := [(3, .int 0), (0, .ref (zad G 30)), (1, .int (nI a)), (2, .int (nI b))]) d_Mo_same_38 rfl (by decide) rfl ?_
    refine zb_iconst (v := 0) d_Mo_same_39 rfl ?_
    refine zb_istore (lv' := [(4, .int 0), (3, .int 0), (0, .ref (zad G 30)), (1, .int (nI a)), (2, .int (nI b))]) d_Mo_same_40 (by decide) rfl ?_
    refine zb_lv (lv' := [(4, .int (nI 0)), (3, .int 0), (0, .ref (zad G 30)), (1, .int (nI a)), (2, .int (nI b))]) rfl ?_
    exact lp_same0 l G ⟨Or.inr ⟨fun z => h30 (by rw [z.1]), rfl⟩, z2⟩ 4096 0 rfl
  · refine zb_iconst (v := 1) d_Mo_same_33 rfl ?_
    refine zb_goto (tgt := 38) d_Mo_same_34 rfl ?_
    refine zb_istore_n (lv' := [(3, .int 1), (0, .ref (zad G 30)), (1, .int (nI a)), (2, .int (nI b))]) d_Mo_same_38 rfl (by decide) rfl ?_
    refine zb_iconst (v := 0) d_Mo_same_39 rfl ?_
    refine zb_istore (lv' := [(4, .int 0), (3, .int 1), (0, .ref (zad G 30)), (1, .int (nI a)), (2, .int (nI b))]) d_Mo_same_40 (by decide) rfl ?_
    refine zb_lv (lv' := [(4, .int (nI 0)), (3, .int 1), (0, .ref (zad G 30)), (1, .int (nI a)), (2, .int (nI b))]) rfl ?_
    have hww : w a = w b := (nI_eq (by omega) (by omega)).mp h30
    exact lp_same1 l G (z2.mw hm) ha hb (fun q => ⟨Or.inl ⟨⟨hww, q⟩, rfl⟩, z2⟩) (fun q => ⟨Or.inr ⟨fun z => q z.2, rfl⟩, z2⟩) 4096 0 rfl (fun t ht => absurd ht (Nat.not_lt_zero t))
set_option maxHeartbeats 4000000 in
set_option maxRecDepth 100000 in
theorem c_mabout_ns (l : Launch) (G : zG) {σ : zS} {x y : Int32} (h : ¬ zgr x) : zC l G y_Mo_about w_Mo_about (zrm 2 60) 0 0 [.ref (zad G 30), .int x, .int y] σ (fun v σ' => v = some (.long 0) ∧ zt σ σ' 1) := by
  refine zC_of (cc := c_Mo_about) (nL := 10) (ret := (some .long)) (own := R_Mo) (by decide +kernel) rfl rfl (Nat.le_of_ble_eq_true rfl) ?_
  refine zb_lv (lv' := [(0, .ref (zad G 30)), (1, .int x), (2, .int y)]) rfl ?_
  by_cases hx : zgr x
  · exact absurd hx h
  · refine zb_aload_n d_Mo_about_0 rfl rfl ?_
    refine zb_iload_n d_Mo_about_1 rfl rfl ?_
    refine zb_callV (rest := []) (c_none_y l G hx) (lk_Mo_36.cw rfl rfl ⟨Nat.le_of_ble_eq_true rfl, Nat.le_of_ble_eq_true rfl⟩) zgM rfl rfl rfl rfl (Nat.le_of_ble_eq_true rfl) d_Mo_about_2 ⟨Nat.le_of_ble_eq_true rfl, Nat.le_of_ble_eq_true rfl⟩ ?_
    rintro _ _ ⟨rfl, y9⟩
    rename_i σ9
    refine zb_st (st' := [.int 1]) rfl ?_
    refine zb_if_ne (tgt := 30) d_Mo_about_5 rfl (fun h5 => ?_) (fun h5 => absurd h5 (by decide))
    refine zb_lconst (v := 0) d_Mo_about_30 rfl ?_
    exact zb_lret d_Mo_about_31 rfl ⟨rfl, y9⟩
set_option maxHeartbeats 4000000 in
set_option maxRecDepth 100000 in
theorem c_mabout_ia (l : Launch) (G : zG) {σ : zS} {r : Nat} {y : Int32} (hr : r < 8) (h : ¬ ∃ k : Nat, k < 5 ∧ y = nI k) : zC l G y_Mo_about w_Mo_about (zrm 2 60) 0 0 [.ref (zad G 30), .int (nI r), .int y] σ (fun v σ' => v = some (.long 0) ∧ zt σ σ' 2) := by
  refine zC_of (cc := c_Mo_about) (nL := 10) (ret := (some .long)) (own := R_Mo) (by decide +kernel) rfl rfl (Nat.le_of_ble_eq_true rfl) ?_
  refine zb_lv (lv' := [(0, .ref (zad G 30)), (1, .int (nI r)), (2, .int y)]) rfl ?_
  refine zb_aload_n d_Mo_about_0 rfl rfl ?_
  refine zb_iload_n d_Mo_about_1 rfl rfl ?_
  refine zb_callV (rest := []) (c_none_n l G hr) (lk_Mo_36.cw rfl rfl ⟨Nat.le_of_ble_eq_true rfl, Nat.le_of_ble_eq_true rfl⟩) zgM rfl rfl rfl rfl (Nat.le_of_ble_eq_true rfl) d_Mo_about_2 ⟨Nat.le_of_ble_eq_true rfl, Nat.le_of_ble_eq_true rfl⟩ ?_
  rintro _ _ ⟨rfl, y1⟩
  rename_i σ1
  have z1 : zt σ σ1 0 := y1
  refine zb_st (st' := [.int 0]) rfl ?_
  refine zb_if_ne (tgt := 30) d_Mo_about_5 rfl (fun h5 => absurd h5 (fun z => z rfl)) (fun h5 => ?_)
  refine zb_aload_n d_Mo_about_8 rfl rfl ?_
  refine zb_iconst (v := 2) d_Mo_about_9 rfl ?_
  refine zb_iload_n d_Mo_about_10 rfl rfl ?_
  refine zb_if_lt (tgt := 19) d_Mo_about_11 rfl (fun h11 => ?_) (fun h11 => ?_)
  · refine zb_iconst (v := 1) d_Mo_about_19 rfl ?_
    refine zb_goto (tgt := 24) d_Mo_about_20 rfl ?_
    refine zb_callV (rest := []) (c_refuse_y l G) (lk_Mo_28.cw rfl rfl ⟨Nat.le_of_ble_eq_true rfl, Nat.le_of_ble_eq_true rfl⟩) zgM rfl rfl rfl rfl (Nat.le_of_ble_eq_true rfl) d_Mo_about_24 ⟨Nat.le_of_ble_eq_true rfl, Nat.le_of_ble_eq_true rfl⟩ ?_
    rintro _ _ ⟨rfl, y9⟩
    rename_i σ9
    refine zb_st (st' := [.int 1]) rfl ?_
    refine zb_if_eq (tgt := 32) d_Mo_about_27 rfl (fun h27 => absurd h27 (by decide)) (fun h27 => ?_)
    refine zb_lconst (v := 0) d_Mo_about_30 rfl ?_
    exact zb_lret d_Mo_about_31 rfl ⟨rfl, z1.tr y9⟩
  · refine zb_iload_n d_Mo_about_14 rfl rfl ?_
    refine zb_iconst (v := 4) d_Mo_about_15 rfl ?_
    refine zb_icmp_le (tgt := 23) d_Mo_about_16 rfl (fun h16 => absurd h16 (fun z => by
      obtain ⟨k, hk31, rfl⟩ := nI_of h11
      exact h ⟨k, by have := (nI_leI (b := 4) hk31 (by decide)).mp z; omega, rfl⟩)) (fun h16 => ?_)
    refine zb_iconst (v := 1) d_Mo_about_19 rfl ?_
    refine zb_goto (tgt := 24) d_Mo_about_20 rfl ?_
    refine zb_callV (rest := []) (c_refuse_y l G) (lk_Mo_28.cw rfl rfl ⟨Nat.le_of_ble_eq_true rfl, Nat.le_of_ble_eq_true rfl⟩) zgM rfl rfl rfl rfl (Nat.le_of_ble_eq_true rfl) d_Mo_about_24 ⟨Nat.le_of_ble_eq_true rfl, Nat.le_of_ble_eq_true rfl⟩ ?_
    rintro _ _ ⟨rfl, y9⟩
    rename_i σ9
    refine zb_st (st' := [.int 1]) rfl ?_
    refine zb_if_eq (tgt := 32) d_Mo_about_27 rfl (fun h27 => absurd h27 (by decide)) (fun h27 => ?_)
    refine zb_lconst (v := 0) d_Mo_about_30 rfl ?_
    exact zb_lret d_Mo_about_31 rfl ⟨rfl, z1.tr y9⟩
theorem fm_s {α : Type} (f : α → Nat → Int32 → α) (a0 : α) (m : Nat → Int32) (t : Nat) : fm f a0 m (t + 1) = if m t = 0 then fm f a0 m t else f (fm f a0 m t) t (m t) := rfl
theorem fmF_lt (m : Nat → Int32) (n : Nat) : fm fF 0 m n < 65536 := by
  induction n with
  | zero => exact (by decide : 0 < 65536)
  | succ n ih =>
    rw [fm_s]
    split
    · exact ih
    · exact Nat.or_lt_two_pow (n := 16) ih (Nat.pow_lt_pow_right (by decide) (Nat.mod_lt _ (by decide)))
def gO (g : Option Int32) : Int32 := match g with
  | none => 0
  | some _ => 1
set_option maxHeartbeats 4000000 in
set_option maxRecDepth 100000 in
theorem lp_mabout (l : Launch) (G : zG) {σ : zS} {r : Nat} {y : Int32} {M : Nat → Nat → Int32} {w : Nat → Nat} (hm : zmw σ M w) (hr : r < 8) {Fin : List Frame → Array Value → State → State → Prop} (K : zB l G w_Mo_about R_Mo c_Mo_about 10 (some .long) [] (zrm 2 60) Fin 0 0 125 [(8, .int (nI 4096)), (7, .int (gO (fm fG none (M r) 4096))), (6, .int ((fm fG none (M r) 4096).getD 0)), (4, .long (fm fS 0 (M r) 4096)), (3, .int (nI (fm fF 0 (M r) 4096))), (0, .ref (zad G 30)), (1, .int (nI r)), (2, .int y)] [] σ) : ∀ d i : Nat, i + d = 4096 → zB l G w_Mo_about R_Mo c_Mo_about 10 (some .long) [] (zrm 2 60) Fin 0 0 46 [(8, .int (nI i)), (7, .int (gO (fm fG none (M r) i))), (6, .int ((fm fG none (M r) i).getD 0)), (4, .long (fm fS 0 (M r) i)), (3, .int (nI (fm fF 0 (M r) i))), (0, .ref (zad G 30)), (1, .int (nI r)), (2, .int y)] [] σ := by
  intro d
  induction d with
  | zero =>
    intro i hi
    have e : i = 4096 := by omega
    refine zb_iload d_Mo_about_46 rfl ?_
    refine zb_sipush (v := 4096) d_Mo_about_48 rfl ?_
    refine zb_icmp_ge (tgt := 125) d_Mo_about_51 rfl (fun h51 => ?_) (fun h51 => absurd (nI_le (a := 4096) (b := i) (by omega) (by omega)) h51)
    refine zb_sub [0, 1, 2, 3, 4, 5, 6, 7] rfl ?_
    rw [e]
    exact K
  | succ d ih =>
    intro i hi
    have hlt : i < 4096 := by omega
    refine zb_iload d_Mo_about_46 rfl ?_
    refine zb_sipush (v := 4096) d_Mo_about_48 rfl ?_
    refine zb_icmp_ge (tgt := 125) d_Mo_about_51 rfl (fun h51 => absurd h51 (nI_ge (a := i) (b := 4096) (by omega) (by omega))) (fun h51 => ?_)
    refine zb_aload_n d_Mo_about_54 rfl rfl ?_
    refine zb_iload_n d_Mo_about_55 rfl rfl ?_
    refine zb_iload d_Mo_about_56 rfl ?_
    refine zb_callV (rest := []) (c_of l G hm hr hlt) (lk_Mo_48.cw rfl rfl ⟨Nat.le_of_ble_eq_true rfl, Nat.le_of_ble_eq_true rfl⟩) zgM rfl rfl rfl rfl (Nat.le_of_ble_eq_true rfl) d_Mo_about_58 ⟨Nat.le_of_ble_eq_true rfl, Nat.le_of_ble_eq_true rfl⟩ ?_
    rintro _ _ ⟨rfl, rfl⟩
    refine zb_st (st' := [.int (M r i)]) rfl ?_
    refine zb_istore (lv' := [(9, .int (M r i)), (8, .int (nI i)), (7, .int (gO (fm fG none (M r) i))), (6, .int ((fm fG none (M r) i).getD 0)), (4, .long (fm fS 0 (M r) i)), (3, .int (nI (fm fF 0 (M r) i))), (0, .ref (zad G 30)), (1, .int (nI r)), (2, .int y)]) d_Mo_about_61 (by decide) rfl ?_
    refine zb_iload d_Mo_about_63 rfl ?_
    refine zb_if_ne (tgt := 71) d_Mo_about_65 rfl (fun h65 => ?_) (fun h65 => ?_)
    · refine zb_iload_n d_Mo_about_71 rfl rfl ?_
      refine zb_iconst (v := 1) d_Mo_about_72 rfl ?_
      refine zb_iload d_Mo_about_73 rfl ?_
      refine zb_iconst (v := 0) d_Mo_about_75 rfl ?_
      refine zb_callS (rest := [.int 1, .int (nI (fm fF 0 (M r) i))]) (c_number l G (p := 0) hlt (by decide)) (lk_Mo_55.cw rfl rfl ⟨Nat.le_of_ble_eq_true rfl, Nat.le_of_ble_eq_true rfl⟩) rfl rfl (Nat.le_of_ble_eq_true rfl) d_Mo_about_76 ⟨Nat.le_of_ble_eq_true rfl, Nat.le_of_ble_eq_true rfl⟩ ?_
      rintro _ _ ⟨rfl, rfl⟩
      refine zb_st (st' := [.int (nI (nu i 0)), .int 1, .int (nI (fm fF 0 (M r) i))]) rfl ?_
      refine zb_ishl d_Mo_about_79 ?_
      refine zb_top (y := nI (2 ^ nu i 0)) (nI_bit _ (nu_lt i 0)) ?_
      refine zb_ior d_Mo_about_80 ?_
      refine zb_top (y := nI (fm fF 0 (M r) i ||| 2 ^ nu i 0)) (nI_or _ _) ?_
      refine zb_istore_n (lv' := [(3, .int (nI (fm fF 0 (M r) i ||| 2 ^ nu i 0))), (9, .int (M r i)), (8, .int (nI i)), (7, .int (gO (fm fG none (M r) i))), (6, .int ((fm fG none (M r) i).getD 0)), (4, .long (fm fS 0 (M r) i)), (0, .ref (zad G 30)), (1, .int (nI r)), (2, .int y)]) d_Mo_about_81 rfl (by decide) rfl ?_
      refine zb_lload d_Mo_about_82 rfl ?_
      refine zb_iload d_Mo_about_84 rfl ?_
      refine zb_i2l (v := (M r i).toInt64) d_Mo_about_86 rfl ?_
      refine zb_ladd d_Mo_about_87 ?_
      refine zb_lstore (lv' := [(4, .long ((fm fS 0 (M r) i) + ((M r i).toInt64))), (3, .int (nI (fm fF 0 (M r) i ||| 2 ^ nu i 0))), (9, .int (M r i)), (8, .int (nI i)), (7, .int (gO (fm fG none (M r) i))), (6, .int ((fm fG none (M r) i).getD 0)), (0, .ref (zad G 30)), (1, .int (nI r)), (2, .int y)]) d_Mo_about_88 (by decide) rfl ?_
      rcases hg : fm fG none (M r) i with _ | g
      · refine zb_lv (lv' := [(4, .long ((fm fS 0 (M r) i) + ((M r i).toInt64))), (3, .int (nI (fm fF 0 (M r) i ||| 2 ^ nu i 0))), (9, .int (M r i)), (8, .int (nI i)), (7, .int 0), (6, .int 0), (0, .ref (zad G 30)), (1, .int (nI r)), (2, .int y)]) rfl ?_
        refine zb_iload d_Mo_about_90 rfl ?_
        refine zb_if_eq (tgt := 112) d_Mo_about_92 rfl (fun h92 => ?_) (fun h92 => absurd rfl h92)
        refine zb_iload d_Mo_about_112 rfl ?_
        refine zb_istore (lv' := [(6, .int (M r i)), (4, .long ((fm fS 0 (M r) i) + ((M r i).toInt64))), (3, .int (nI (fm fF 0 (M r) i ||| 2 ^ nu i 0))), (9, .int (M r i)), (8, .int (nI i)), (7, .int 0), (0, .ref (zad G 30)), (1, .int (nI r)), (2, .int y)]) d_Mo_about_114 (by decide) rfl ?_
        refine zb_iconst (v := 1) d_Mo_about_116 rfl ?_
        refine zb_istore (lv' := [(7, .int 1), (6, .int (M r i)), (4, .long ((fm fS 0 (M r) i) + ((M r i).toInt64))), (3, .int (nI (fm fF 0 (M r) i ||| 2 ^ nu i 0))), (9, .int (M r i)), (8, .int (nI i)), (0, .ref (zad G 30)), (1, .int (nI r)), (2, .int y)]) d_Mo_about_117 (by decide) rfl ?_
        refine zb_iinc (v := nI (i + 1)) (lv' := [(8, .int (nI (i + 1))), (7, .int 1), (6, .int (M r i)), (4, .long ((fm fS 0 (M r) i) + ((M r i).toInt64))), (3, .int (nI (fm fF 0 (M r) i ||| 2 ^ nu i 0))), (9, .int (M r i)), (0, .ref (zad G 30)), (1, .int (nI r)), (2, .int y)]) d_Mo_about_119 rfl (nI_1 i) (by decide) rfl ?_
        refine zb_goto (tgt := 46) d_Mo_about_122 rfl ?_
        refine zb_sub [0, 1, 2, 3, 4, 6, 7, 8] rfl ?_
        refine zb_lv (lv' := [(8, .int (nI (i + 1))), (7, .int (gO (fm fG none (M r) (i + 1)))), (6, .int ((fm fG none (M r) (i + 1)).getD 0)), (4, .long (fm fS 0 (M r) (i + 1))), (3, .int (nI (fm fF 0 (M r) (i + 1)))), (0, .ref (zad G 30)), (1, .int (nI r)), (2, .int y)]) (by simp only [fm_s, h65, if_false, hg, fG, gO, Option.getD]; rfl) ?_
        exact ih (i + 1) (by omega)
      · refine zb_lv (lv' := [(4, .long ((fm fS 0 (M r) i) + ((M r i).toInt64))), (3, .int (nI (fm fF 0 (M r) i ||| 2 ^ nu i 0))), (9, .int (M r i)), (8, .int (nI i)), (7, .int 1), (6, .int g), (0, .ref (zad G 30)), (1, .int (nI r)), (2, .int y)]) rfl ?_
        refine zb_iload d_Mo_about_90 rfl ?_
        refine zb_if_eq (tgt := 112) d_Mo_about_92 rfl (fun h92 => absurd h92 (by decide)) (fun h92 => ?_)
        refine zb_iload d_Mo_about_95 rfl ?_
        refine zb_iload d_Mo_about_97 rfl ?_
        refine zb_icmp_le (tgt := 107) d_Mo_about_99 rfl (fun h99 => ?_) (fun h99 => ?_)
        · refine zb_iload d_Mo_about_107 rfl ?_
          refine zb_goto (tgt := 114) d_Mo_about_109 rfl ?_
          refine zb_istore (lv' := [(6, .int g), (4, .long ((fm fS 0 (M r) i) + ((M r i).toInt64))), (3, .int (nI (fm fF 0 (M r) i ||| 2 ^ nu i 0))), (9, .int (M r i)), (8, .int (nI i)), (7, .int 1), (0, .ref (zad G 30)), (1, .int (nI r)), (2, .int y)]) d_Mo_about_114 (by decide) rfl ?_
          refine zb_iconst (v := 1) d_Mo_about_116 rfl ?_
          refine zb_istore (lv' := [(7, .int 1), (6, .int g), (4, .long ((fm fS 0 (M r) i) + ((M r i).toInt64))), (3, .int (nI (fm fF 0 (M r) i ||| 2 ^ nu i 0))), (9, .int (M r i)), (8, .int (nI i)), (0, .ref (zad G 30)), (1, .int (nI r)), (2, .int y)]) d_Mo_about_117 (by decide) rfl ?_
          refine zb_iinc (v := nI (i + 1)) (lv' := [(8, .int (nI (i + 1))), (7, .int 1), (6, .int g), (4, .long ((fm fS 0 (M r) i) + ((M r i).toInt64))), (3, .int (nI (fm fF 0 (M r) i ||| 2 ^ nu i 0))), (9, .int (M r i)), (0, .ref (zad G 30)), (1, .int (nI r)), (2, .int y)]) d_Mo_about_119 rfl (nI_1 i) (by decide) rfl ?_
          refine zb_goto (tgt := 46) d_Mo_about_122 rfl ?_
          refine zb_sub [0, 1, 2, 3, 4, 6, 7, 8] rfl ?_
          refine zb_lv (lv' := [(8, .int (nI (i + 1))), (7, .int (gO (fm fG none (M r) (i + 1)))), (6, .int ((fm fG none (M r) (i + 1)).getD 0)), (4, .long (fm fS 0 (M r) (i + 1))), (3, .int (nI (fm fF 0 (M r) (i + 1)))), (0, .ref (zad G 30)), (1, .int (nI r)), (2, .int y)]) (by simp only [fm_s, h65, if_false, hg, fG, gO, Option.getD, if_neg (Int32.not_lt.mpr h99)]; rfl) ?_
          exact ih (i + 1) (by omega)
        · refine zb_iload d_Mo_about_102 rfl ?_
          refine zb_goto (tgt := 114) d_Mo_about_104 rfl ?_
          refine zb_istore (lv' := [(6, .int (M r i)), (4, .long ((fm fS 0 (M r) i) + ((M r i).toInt64))), (3, .int (nI (fm fF 0 (M r) i ||| 2 ^ nu i 0))), (9, .int (M r i)), (8, .int (nI i)), (7, .int 1), (0, .ref (zad G 30)), (1, .int (nI r)), (2, .int y)]) d_Mo_about_114 (by decide) rfl ?_
          refine zb_iconst (v := 1) d_Mo_about_116 rfl ?_
          refine zb_istore (lv' := [(7, .int 1), (6, .int (M r i)), (4, .long ((fm fS 0 (M r) i) + ((M r i).toInt64))), (3, .int (nI (fm fF 0 (M r) i ||| 2 ^ nu i 0))), (9, .int (M r i)), (8, .int (nI i)), (0, .ref (zad G 30)), (1, .int (nI r)), (2, .int y)]) d_Mo_about_117 (by decide) rfl ?_
          refine zb_iinc (v := nI (i + 1)) (lv' := [(8, .int (nI (i + 1))), (7, .int 1), (6, .int (M r i)), (4, .long ((fm fS 0 (M r) i) + ((M r i).toInt64))), (3, .int (nI (fm fF 0 (M r) i ||| 2 ^ nu i 0))), (9, .int (M r i)), (0, .ref (zad G 30)), (1, .int (nI r)), (2, .int y)]) d_Mo_about_119 rfl (nI_1 i) (by decide) rfl ?_
          refine zb_goto (tgt := 46) d_Mo_about_122 rfl ?_
          refine zb_sub [0, 1, 2, 3, 4, 6, 7, 8] rfl ?_
          refine zb_lv (lv' := [(8, .int (nI (i + 1))), (7, .int (gO (fm fG none (M r) (i + 1)))), (6, .int ((fm fG none (M r) (i + 1)).getD 0)), (4, .long (fm fS 0 (M r) (i + 1))), (3, .int (nI (fm fF 0 (M r) (i + 1)))), (0, .ref (zad G 30)), (1, .int (nI r)), (2, .int y)]) (by simp only [fm_s, h65, if_false, hg, fG, gO, Option.getD, if_pos (Int32.not_le.mp h99)]; rfl) ?_
          exact ih (i + 1) (by omega)
    · refine zb_goto (tgt := 119) d_Mo_about_68 rfl ?_
      refine zb_iinc (v := nI (i + 1)) (lv' := [(8, .int (nI (i + 1))), (9, .int (M r i)), (7, .int (gO (fm fG none (M r) i))), (6, .int ((fm fG none (M r) i).getD 0)), (4, .long (fm fS 0 (M r) i)), (3, .int (nI (fm fF 0 (M r) i))), (0, .ref (zad G 30)), (1, .int (nI r)), (2, .int y)]) d_Mo_about_119 rfl (nI_1 i) (by decide) rfl ?_
      refine zb_goto (tgt := 46) d_Mo_about_122 rfl ?_
      refine zb_sub [0, 2, 3, 4, 5, 6, 7, 8] rfl ?_
      refine zb_lv (lv' := [(8, .int (nI (i + 1))), (7, .int (gO (fm fG none (M r) (i + 1)))), (6, .int ((fm fG none (M r) (i + 1)).getD 0)), (4, .long (fm fS 0 (M r) (i + 1))), (3, .int (nI (fm fF 0 (M r) (i + 1)))), (0, .ref (zad G 30)), (1, .int (nI r)), (2, .int y)]) (by simp only [fm_s, h65, if_true]; rfl) ?_
      exact ih (i + 1) (by omega)
set_option maxHeartbeats 4000000 in
set_option maxRecDepth 100000 in
/-- about(r, what) -/
theorem c_mabout (l : Launch) (G : zG) {σ : zS} {r k : Nat} {M : Nat → Nat → Int32} {w : Nat → Nat} (hm : zmw σ M w) (hr : r < 8) (hk : k < 5) : zC l G y_Mo_about w_Mo_about (zrm 2 60) 0 0 [.ref (zad G 30), .int (nI r), .int (nI k)] σ (fun v σ' => v = some (.long (abt (w r) (M r) k)) ∧ zt σ σ' 0) := by
  refine zC_of (cc := c_Mo_about) (nL := 10) (ret := (some .long)) (own := R_Mo) (by decide +kernel) rfl rfl (Nat.le_of_ble_eq_true rfl) ?_
  refine zb_lv (lv' := [(0, .ref (zad G 30)), (1, .int (nI r)), (2, .int (nI k))]) rfl ?_
  refine zb_aload_n d_Mo_about_0 rfl rfl ?_
  refine zb_iload_n d_Mo_about_1 rfl rfl ?_
  refine zb_callV (rest := []) (c_none_n l G hr) (lk_Mo_36.cw rfl rfl ⟨Nat.le_of_ble_eq_true rfl, Nat.le_of_ble_eq_true rfl⟩) zgM rfl rfl rfl rfl (Nat.le_of_ble_eq_true rfl) d_Mo_about_2 ⟨Nat.le_of_ble_eq_true rfl, Nat.le_of_ble_eq_true rfl⟩ ?_
  rintro _ _ ⟨rfl, y1⟩
  rename_i σ1
  have z1 : zt σ σ1 0 := y1
  refine zb_st (st' := [.int 0]) rfl ?_
  refine zb_if_ne (tgt := 30) d_Mo_about_5 rfl (fun h5 => absurd h5 (fun z => z rfl)) (fun h5 => ?_)
  refine zb_aload_n d_Mo_about_8 rfl rfl ?_
  refine zb_iconst (v := 2) d_Mo_about_9 rfl ?_
  refine zb_iload_n d_Mo_about_10 rfl rfl ?_
  refine zb_if_lt (tgt := 19) d_Mo_about_11 rfl (fun h11 => absurd h11 (nI_pos (by omega))) (fun h11 => ?_)
  refine zb_iload_n d_Mo_about_14 rfl rfl ?_
  refine zb_iconst (v := 4) d_Mo_about_15 rfl ?_
  refine zb_icmp_le (tgt := 23) d_Mo_about_16 rfl (fun h16 => ?_) (fun h16 => absurd (nI_le (b := 4) (show k ≤ 4 by omega) (by decide)) h16)
  refine zb_iconst (v := 0) d_Mo_about_23 rfl ?_
  refine zb_callV (rest := []) (c_refuse_n l G) (lk_Mo_28.cw rfl rfl ⟨Nat.le_of_ble_eq_true rfl, Nat.le_of_ble_eq_true rfl⟩) zgM rfl rfl rfl rfl (Nat.le_of_ble_eq_true rfl) d_Mo_about_24 ⟨Nat.le_of_ble_eq_true rfl, Nat.le_of_ble_eq_true rfl⟩ ?_
  rintro _ _ ⟨rfl, rfl⟩
  refine zb_st (st' := [.int 0]) rfl ?_
  refine zb_if_eq (tgt := 32) d_Mo_about_27 rfl (fun h27 => ?_) (fun h27 => absurd rfl h27)
  refine zb_iconst (v := 0) d_Mo_about_32 rfl ?_
  refine zb_istore_n (lv' := [(3, .int 0), (0, .ref (zad G 30)), (1, .int (nI r)), (2, .int (nI k))]) d_Mo_about_33 rfl (by decide) rfl ?_
  refine zb_lconst (v := 0) d_Mo_about_34 rfl ?_
  refine zb_lstore (lv' := [(4, .long 0), (3, .int 0), (0, .ref (zad G 30)), (1, .int (nI r)), (2, .int (nI k))]) d_Mo_about_35 (by decide) rfl ?_
  refine zb_iconst (v := 0) d_Mo_about_37 rfl ?_
  refine zb_istore (lv' := [(6, .int 0), (4, .long 0), (3, .int 0), (0, .ref (zad G 30)), (1, .int (nI r)), (2, .int (nI k))]) d_Mo_about_38 (by decide) rfl ?_
  refine zb_iconst (v := 0) d_Mo_about_40 rfl ?_
  refine zb_istore (lv' := [(7, .int 0), (6, .int 0), (4, .long 0), (3, .int 0), (0, .ref (zad G 30)), (1, .int (nI r)), (2, .int (nI k))]) d_Mo_about_41 (by decide) rfl ?_
  refine zb_iconst (v := 0) d_Mo_about_43 rfl ?_
  refine zb_istore (lv' := [(8, .int 0), (7, .int 0), (6, .int 0), (4, .long 0), (3, .int 0), (0, .ref (zad G 30)), (1, .int (nI r)), (2, .int (nI k))]) d_Mo_about_44 (by decide) rfl ?_
  refine zb_lv (lv' := [(8, .int (nI 0)), (7, .int (gO (fm fG none (M r) 0))), (6, .int ((fm fG none (M r) 0).getD 0)), (4, .long (fm fS 0 (M r) 0)), (3, .int (nI (fm fF 0 (M r) 0))), (0, .ref (zad G 30)), (1, .int (nI r)), (2, .int (nI k))]) rfl ?_
  refine lp_mabout l G (z1.mw hm) hr ?_ 4096 0 rfl
  refine zb_iload_n d_Mo_about_125 rfl rfl ?_
  rcases (show k = 0 ∨ k = 1 ∨ k = 2 ∨ k = 3 ∨ k = 4 by omega) with rfl | rfl | rfl | rfl | rfl
  · refine zb_tableIn (tgt := 156) d_Mo_about_126 (by decide) (by decide) rfl rfl ?_
    refine zb_lv (lv' := [(8, .int (nI 4096)), (7, .int (gO (fm fG none (M r) 4096))), (6, .int ((fm fG none (M r) 4096).getD 0)), (4, .long (fm fS 0 (M r) 4096)), (3, .int (nI (fm fF 0 (M r) 4096))), (0, .ref (zad G 30)), (1, .int (nI r)), (2, .int (nI 0))]) rfl ?_
    refine zb_aload_n d_Mo_about_156 rfl rfl ?_
    refine zm_width d_Mo_about_157 fl_Mo_13 ?_
    refine zb_iload_n d_Mo_about_160 rfl rfl ?_
    refine zb_ialdN (q := 31) (j := r) d_Mo_about_161 (ia31) (show r < 8 from hr) ?_
    refine zb_top (y := nI (w r)) ((z1.mw hm).1 r hr) ?_
    refine zb_i2l (v := (nI (w r)).toInt64) d_Mo_about_162 rfl ?_
    exact zb_lret d_Mo_about_163 rfl ⟨rfl, z1⟩
  · refine zb_tableIn (tgt := 164) d_Mo_about_126 (by decide) (by decide) rfl rfl ?_
    refine zb_lv (lv' := [(8, .int (nI 4096)), (7, .int (gO (fm fG none (M r) 4096))), (6, .int ((fm fG none (M r) 4096).getD 0)), (4, .long (fm fS 0 (M r) 4096)), (3, .int (nI (fm fF 0 (M r) 4096))), (0, .ref (zad G 30)), (1, .int (nI r)), (2, .int (nI 1))]) rfl ?_
    refine zb_aload_n d_Mo_about_164 rfl rfl ?_
    refine zb_iload_n d_Mo_about_165 rfl rfl ?_
    refine zb_callV (rest := []) (c_in l G (z1.mw hm) hr) (lk_Mo_40.cw rfl rfl ⟨Nat.le_of_ble_eq_true rfl, Nat.le_of_ble_eq_true rfl⟩) zgM rfl rfl rfl rfl (Nat.le_of_ble_eq_true rfl) d_Mo_about_166 ⟨Nat.le_of_ble_eq_true rfl, Nat.le_of_ble_eq_true rfl⟩ ?_
    rintro _ _ ⟨rfl, rfl⟩
    refine zb_st (st' := [.int (nI (zct (M r) 4096))]) rfl ?_
    refine zb_i2l (v := (nI (zct (M r) 4096)).toInt64) d_Mo_about_169 rfl ?_
    exact zb_lret d_Mo_about_170 rfl ⟨rfl, z1⟩
  · refine zb_tableIn (tgt := 171) d_Mo_about_126 (by decide) (by decide) rfl rfl ?_
    refine zb_lv (lv' := [(8, .int (nI 4096)), (7, .int (gO (fm fG none (M r) 4096))), (6, .int ((fm fG none (M r) 4096).getD 0)), (4, .long (fm fS 0 (M r) 4096)), (3, .int (nI (fm fF 0 (M r) 4096))), (0, .ref (zad G 30)), (1, .int (nI r)), (2, .int (nI 2))]) rfl ?_
    refine zb_iload_n d_Mo_about_171 rfl rfl ?_
    refine zb_callS (rest := []) (c_bits l G (fmF_lt (M r) 4096)) (lk_Mo_62.cw rfl rfl ⟨Nat.le_of_ble_eq_true rfl, Nat.le_of_ble_eq_true rfl⟩) rfl rfl (Nat.le_of_ble_eq_true rfl) d_Mo_about_172 ⟨Nat.le_of_ble_eq_true rfl, Nat.le_of_ble_eq_true rfl⟩ ?_
    rintro _ _ ⟨rfl, rfl⟩
    refine zb_st (st' := [.int (nI (pc16 (fm fF 0 (M r) 4096)))]) rfl ?_
    refine zb_i2l (v := (nI (pc16 (fm fF 0 (M r) 4096))).toInt64) d_Mo_about_175 rfl ?_
    exact zb_lret d_Mo_about_176 rfl ⟨rfl, z1⟩
  · refine zb_tableIn (tgt := 177) d_Mo_about_126 (by decide) (by decide) rfl rfl ?_
    refine zb_lv (lv' := [(8, .int (nI 4096)), (7, .int (gO (fm fG none (M r) 4096))), (6, .int ((fm fG none (M r) 4096).getD 0)), (4, .long (fm fS 0 (M r) 4096)), (3, .int (nI (fm fF 0 (M r) 4096))), (0, .ref (zad G 30)), (1, .int (nI r)), (2, .int (nI 3))]) rfl ?_
    refine zb_lload d_Mo_about_177 rfl ?_
    exact zb_lret d_Mo_about_179 rfl ⟨rfl, z1⟩
  · refine zb_tableOut (tgt := 180) d_Mo_about_126 (by decide) rfl ?_
    refine zb_lv (lv' := [(8, .int (nI 4096)), (7, .int (gO (fm fG none (M r) 4096))), (6, .int ((fm fG none (M r) 4096).getD 0)), (4, .long (fm fS 0 (M r) 4096)), (3, .int (nI (fm fF 0 (M r) 4096))), (0, .ref (zad G 30)), (1, .int (nI r)), (2, .int (nI 4))]) rfl ?_
    refine zb_iload d_Mo_about_180 rfl ?_
    refine zb_i2l (v := ((fm fG none (M r) 4096).getD 0).toInt64) d_Mo_about_182 rfl ?_
    exact zb_lret d_Mo_about_183 rfl ⟨rfl, z1⟩
