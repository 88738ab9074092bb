def fD (D : Nat → Int32) (a : Nat → Int32) (t : Nat) (_ : Int32) : Nat → Int32 := upd a t (D t)
def fE (m D : Nat → Int32) (a : Nat → Int32) (t : Nat) (_ : Int32) : Nat → Int32 := if m t = 0 then upd a t (D t) else a
theorem fcD_in (D : Nat → Int32) (T C : Nat → Int32) (i t : Nat) : (∃ j, j < i ∧ zN (T j) = t) → fc (fD D) (fun _ => 0) T C i t = D t := by
  induction i with
  | zero => rintro ⟨j, hj, -⟩; exact absurd hj (Nat.not_lt_zero j)
  | succ i ih =>
    rintro ⟨j, hj, e⟩
    show upd _ _ _ t = _
    by_cases e2 : t = zN (T i)
    · subst e2; rw [pk_us]
    · rw [pk_un e2]
      rcases Nat.lt_or_eq_of_le (Nat.le_of_lt_succ hj) with z | z
      · exact ih ⟨j, z, e⟩
      · subst z; exact absurd e.symm e2
theorem fcD_out (D : Nat → Int32) (T C : Nat → Int32) (i t : Nat) (h : ∀ j, j < i → zN (T j) ≠ t) : fc (fD D) (fun _ => 0) T C i t = 0 := by
  induction i with
  | zero => rfl
  | succ i ih =>
    show upd _ _ _ t = _
    rw [pk_un (fun e => h i (Nat.lt_succ_self _) e.symm)]
    exact ih (fun j hj => h j (Nat.lt_succ_of_lt hj))
theorem fcE_t (m D b : Nat → Int32) (T C : Nat → Int32) (i t : Nat) : fc (fE m D) b T C i t = b t ∨ (m t = 0 ∧ fc (fE m D) b T C i t = D t) := by
  induction i with
  | zero => exact Or.inl rfl
  | succ i ih =>
    simp only [fc, fE]
    split
    · by_cases e : t = zN (T i)
      · subst e; rw [pk_us]; exact Or.inr ⟨by assumption, rfl⟩
      · rw [pk_un e]; exact ih
    · exact ih
theorem fcE_in (m D b : Nat → Int32) (T C : Nat → Int32) (i t : Nat) (hm : m t = 0) : (∃ j, j < i ∧ zN (T j) = t) → fc (fE m D) b T C i t = D t := by
  induction i with
  | zero => rintro ⟨j, hj, -⟩; exact absurd hj (Nat.not_lt_zero j)
  | succ i ih =>
    rintro ⟨j, hj, e⟩
    simp only [fc, fE]
    by_cases e2 : t = zN (T i)
    · subst e2; rw [if_pos hm, pk_us]
    · have h2 : fc (fE m D) b T C i t = D t := by
        rcases Nat.lt_or_eq_of_le (Nat.le_of_lt_succ hj) with z | z
        · exact ih ⟨j, z, e⟩
        · subst z; exact absurd e.symm e2
      split
      · rw [pk_un e2]; exact h2
      · exact h2
theorem fcE_out (m D b : Nat → Int32) (T C : Nat → Int32) (i t : Nat) (h : ∀ j, j < i → zN (T j) ≠ t) : fc (fE m D) b T C i t = b t := by
  induction i with
  | zero => rfl
  | succ i ih =>
    simp only [fc, fE]
    have h2 := ih (fun j hj => h j (Nat.lt_succ_of_lt hj))
    split
    · rw [pk_un (fun e => h i (Nat.lt_succ_self _) e.symm)]; exact h2
    · exact h2
theorem zct_mono {m D : Nat → Int32} (h : ∀ t, m t ≠ 0 → D t ≠ 0) (k : Nat) : zct m k ≤ zct D k := by
  unfold zct
  induction k with
  | zero => exact Nat.le_refl _
  | succ k ih =>
    simp only [fm]
    by_cases a : m k = 0
    · rw [if_pos a]; split <;> omega
    · rw [if_neg a, if_neg (h k a)]; omega
theorem zct_more {m D : Nat → Int32} (h : ∀ t, m t ≠ 0 → D t ≠ 0) {t : Nat} (h1 : m t = 0) (h2 : D t ≠ 0) (k : Nat) (hk : t < k) : zct m k + 1 ≤ zct D k := by
  induction k with
  | zero => exact absurd hk (Nat.not_lt_zero t)
  | succ k ih =>
    by_cases e : t = k
    · subst e
      have := zct_mono h t
      unfold zct at this ⊢
      simp only [fm]
      rw [if_pos h1, if_neg h2]
      omega
    · have := ih (by omega)
      unfold zct at this ⊢
      simp only [fm]
      by_cases a : m k = 0
      · rw [if_pos a]; split <;> omega
      · rw [if_neg a, if_neg (h k a)]; omega
/-- no room: the whole has more than 300 -/
theorem full {τ : zS} {s ns t : Nat} {m D : Nat → Int32} (hz : zr τ s ns m) (h : ∀ u, m u = 0 ∨ m u = D u) (ht : t < 4096) (hc : ¬ (m t ≠ 0 ∨ D t = 0 ∨ ns < 300)) : 300 < zct D 4096 := by
  have h1 : m t = 0 := Classical.byContradiction fun z => hc (Or.inl z)
  have h2 : D t ≠ 0 := fun z => hc (Or.inr (Or.inl z))
  have h3 : ¬ ns < 300 := fun z => hc (Or.inr (Or.inr z))
  have h4 := zct_more (m := m) (D := D) (fun u hu => by rcases h u with z | z
                                                        · exact absurd z hu
                                                        · rw [← z]; exact hu) h1 h2 4096 ht
  rw [zct_eq hz.2.2] at h4
  omega
set_option maxHeartbeats 4000000 in
set_option maxRecDepth 100000 in
theorem lf_alter1 (l : Launch) (G : zG) {σ : zS} {q q2 s n n2 op : Nat} {m m2 : Nat → Int32} (hs : zrl s) (hqs : q ≠ s) (hqs2 : q2 ≠ s) (h0 : σ.1 0 0 = nI s) (h : zr σ q n m) (h2 : zr σ q2 n2 m2) (hop : op < 6) {r : Nat} {ya zb : Int32} {Fin : List Frame → Array Value → State → State → Prop} {τ : zS} (hf : zf σ τ s) (K0 : ∀ i : Int32, zB l G w_Sh_alter R_Sh c_Sh_alter 10 (some .int) [] (zrz 8 160 6) Fin 5 30 136 [(8, .int i), (7, .int (nI 0)), (0, .ref (zad G 0)), (1, .int (nI r)), (2, .int (nI op)), (3, .int ya), (4, .int zb), (5, .ref (zad G q)), (6, .ref (zad G q2))] [] τ) (i : Int32) : zB l G w_Sh_alter R_Sh c_Sh_alter 10 (some .int) [] (zrz 8 160 6) Fin 5 30 75 [(8, .int i), (7, .int (nI 0)), (0, .ref (zad G 0)), (1, .int (nI r)), (2, .int (nI op)), (3, .int ya), (4, .int zb), (5, .ref (zad G q)), (6, .ref (zad G q2))] [] τ := by
  have hq := h.1
  have hq2 := h2.1
  have ap := hq.apart hs hqs
  have ap2 := hq2.apart hs hqs2
  have hp := h.2.2
  have hp2 := h2.2.2
  have hn3 := hp.1
  have hn4 := hp2.1
  have z0 : (0 : Nat) ≠ s ∧ (0 : Nat) ≠ s + 1 ∧ (0 : Nat) ≠ s + 2 := by have := hs.1; omega
  have hs31 : s < 2 ^ 31 := by have := hs.lt; omega
  have e0 : τ.1 0 0 = nI s := by rw [hf.1 0 z0.1 z0.2.1 z0.2.2]; exact h0
  have eq0 : τ.1 q = σ.1 q := hf.1 q ap.1 ap.2.1 ap.2.2.1
  have eq1 : τ.1 (q + 1) = σ.1 (q + 1) := hf.1 _ ap.2.2.2.1 ap.2.2.2.2.1 ap.2.2.2.2.2.1
  have eq2 : τ.1 (q + 2) = σ.1 (q + 2) := hf.1 _ ap.2.2.2.2.2.2.1 ap.2.2.2.2.2.2.2.1 ap.2.2.2.2.2.2.2.2
  have fq0 : τ.1 q2 = σ.1 q2 := hf.1 q2 ap2.1 ap2.2.1 ap2.2.2.1
  have fq1 : τ.1 (q2 + 1) = σ.1 (q2 + 1) := hf.1 _ ap2.2.2.2.1 ap2.2.2.2.2.1 ap2.2.2.2.2.2.1
  have fq2 : τ.1 (q2 + 2) = σ.1 (q2 + 2) := hf.1 _ ap2.2.2.2.2.2.2.1 ap2.2.2.2.2.2.2.2.1 ap2.2.2.2.2.2.2.2.2
  refine zb_iload d_Sh_alter_75 rfl ?_
  refine zb_aload d_Sh_alter_77 rfl ?_
  refine zr_size (q := q) d_Sh_alter_79 fl_Sh_32 hq ?_
  refine zb_top (y := nI n) (by rw [eq0]; exact h.2.1) ?_
  refine zb_icmp_ge (tgt := 136) d_Sh_alter_82 rfl (fun hx => ?_) (fun hx => ?_)
  · refine zb_sub [0, 1, 2, 3, 4, 5, 6, 7, 8] rfl ?_
    exact K0 i
  · refine zb_iload d_Sh_alter_85 rfl ?_
    refine zb_if_eq (tgt := 136) d_Sh_alter_87 rfl (fun h87 => ?_) (fun h87 => absurd rfl h87)
    refine zb_sub [0, 1, 2, 3, 4, 5, 6, 7, 8] rfl ?_
    exact K0 i
set_option maxHeartbeats 4000000 in
set_option maxRecDepth 100000 in
theorem lf_alter2 (l : Launch) (G : zG) {σ : zS} {q q2 s n n2 op : Nat} {m m2 : Nat → Int32} (hs : zrl s) (hqs : q ≠ s) (hqs2 : q2 ≠ s) (h0 : σ.1 0 0 = nI s) (h : zr σ q n m) (h2 : zr σ q2 n2 m2) (hop : op < 6) {r : Nat} {ya zb : Int32} {Fin : List Frame → Array Value → State → State → Prop} {τ : zS} (hf : zf σ τ s) (K0 : ∀ i : Int32, zB l G w_Sh_alter R_Sh c_Sh_alter 10 (some .int) [] (zrz 8 160 6) Fin 5 30 204 [(8, .int i), (7, .int (nI 0)), (0, .ref (zad G 0)), (1, .int (nI r)), (2, .int (nI op)), (3, .int ya), (4, .int zb), (5, .ref (zad G q)), (6, .ref (zad G q2))] [] τ) (i : Int32) : zB l G w_Sh_alter R_Sh c_Sh_alter 10 (some .int) [] (zrz 8 160 6) Fin 5 30 139 [(8, .int i), (7, .int (nI 0)), (0, .ref (zad G 0)), (1, .int (nI r)), (2, .int (nI op)), (3, .int ya), (4, .int zb), (5, .ref (zad G q)), (6, .ref (zad G q2))] [] τ := by
  have hq := h.1
  have hq2 := h2.1
  have ap := hq.apart hs hqs
  have ap2 := hq2.apart hs hqs2
  have hp := h.2.2
  have hp2 := h2.2.2
  have hn3 := hp.1
  have hn4 := hp2.1
  have z0 : (0 : Nat) ≠ s ∧ (0 : Nat) ≠ s + 1 ∧ (0 : Nat) ≠ s + 2 := by have := hs.1; omega
  have hs31 : s < 2 ^ 31 := by have := hs.lt; omega
  have e0 : τ.1 0 0 = nI s := by rw [hf.1 0 z0.1 z0.2.1 z0.2.2]; exact h0
  have eq0 : τ.1 q = σ.1 q := hf.1 q ap.1 ap.2.1 ap.2.2.1
  have eq1 : τ.1 (q + 1) = σ.1 (q + 1) := hf.1 _ ap.2.2.2.1 ap.2.2.2.2.1 ap.2.2.2.2.2.1
  have eq2 : τ.1 (q + 2) = σ.1 (q + 2) := hf.1 _ ap.2.2.2.2.2.2.1 ap.2.2.2.2.2.2.2.1 ap.2.2.2.2.2.2.2.2
  have fq0 : τ.1 q2 = σ.1 q2 := hf.1 q2 ap2.1 ap2.2.1 ap2.2.2.1
  have fq1 : τ.1 (q2 + 1) = σ.1 (q2 + 1) := hf.1 _ ap2.2.2.2.1 ap2.2.2.2.2.1 ap2.2.2.2.2.2.1
  have fq2 : τ.1 (q2 + 2) = σ.1 (q2 + 2) := hf.1 _ ap2.2.2.2.2.2.2.1 ap2.2.2.2.2.2.2.2.1 ap2.2.2.2.2.2.2.2.2
  refine zb_iload d_Sh_alter_139 rfl ?_
  refine zb_aload d_Sh_alter_141 rfl ?_
  refine zr_size (q := q2) d_Sh_alter_143 fl_Sh_32 hq2 ?_
  refine zb_top (y := nI n2) (by rw [fq0]; exact h2.2.1) ?_
  refine zb_icmp_ge (tgt := 204) d_Sh_alter_146 rfl (fun hx => ?_) (fun hx => ?_)
  · refine zb_sub [0, 1, 2, 3, 4, 5, 6, 7, 8] rfl ?_
    exact K0 i
  · refine zb_iload d_Sh_alter_149 rfl ?_
    refine zb_if_eq (tgt := 204) d_Sh_alter_151 rfl (fun h151 => ?_) (fun h151 => absurd rfl h151)
    refine zb_sub [0, 1, 2, 3, 4, 5, 6, 7, 8] rfl ?_
    exact K0 i
set_option maxHeartbeats 4000000 in
set_option maxRecDepth 100000 in
theorem lp_alter1 (l : Launch) (G : zG) {σ : zS} {q q2 s n n2 op : Nat} {m m2 : Nat → Int32} (hs : zrl s) (hqs : q ≠ s) (hqs2 : q2 ≠ s) (h0 : σ.1 0 0 = nI s) (h : zr σ q n m) (h2 : zr σ q2 n2 m2) (hop : op < 6) {r : Nat} {ya zb : Int32} {Fin : List Frame → Array Value → State → State → Prop} (K1 : ∀ (τ : zS) (ns : Nat), zf σ τ s → zr τ s ns (fc (fD (fun t => alt op (m t) (m2 t))) (fun _ => 0) (σ.1 (q + 1)) (σ.1 (q + 2)) n) → zB l G w_Sh_alter R_Sh c_Sh_alter 10 (some .int) [] (zrz 8 160 6) Fin 5 30 136 [(8, .int (nI n)), (7, .int (nI 1)), (0, .ref (zad G 0)), (1, .int (nI r)), (2, .int (nI op)), (3, .int ya), (4, .int zb), (5, .ref (zad G q)), (6, .ref (zad G q2))] [] τ) (K0 : ∀ (τ : zS) (i : Int32), zf σ τ s → 300 < zct (fun t => alt op (m t) (m2 t)) 4096 → zB l G w_Sh_alter R_Sh c_Sh_alter 10 (some .int) [] (zrz 8 160 6) Fin 5 30 136 [(8, .int i), (7, .int (nI 0)), (0, .ref (zad G 0)), (1, .int (nI r)), (2, .int (nI op)), (3, .int ya), (4, .int zb), (5, .ref (zad G q)), (6, .ref (zad G q2))] [] τ) : ∀ (k i : Nat) (τ : zS) (ns : Nat), i + k = n → zf σ τ s → zr τ s ns (fc (fD (fun t => alt op (m t) (m2 t))) (fun _ => 0) (σ.1 (q + 1)) (σ.1 (q + 2)) i) → zB l G w_Sh_alter R_Sh c_Sh_alter 10 (some .int) [] (zrz 8 160 6) Fin 5 30 75 [(8, .int (nI i)), (7, .int (nI 1)), (0, .ref (zad G 0)), (1, .int (nI r)), (2, .int (nI op)), (3, .int ya), (4, .int zb), (5, .ref (zad G q)), (6, .ref (zad G q2))] [] τ := by
  intro k
  induction k with
  | zero =>
    intro i τ ns hi hf hz
    have e : i = n := by omega
    have hq := h.1
    have hq2 := h2.1
    have ap := hq.apart hs hqs
    have ap2 := hq2.apart hs hqs2
    have hp := h.2.2
    have hp2 := h2.2.2
    have hn3 := hp.1
    have hn4 := hp2.1
    have z0 : (0 : Nat) ≠ s ∧ (0 : Nat) ≠ s + 1 ∧ (0 : Nat) ≠ s + 2 := by have := hs.1; omega
    have hs31 : s < 2 ^ 31 := by have := hs.lt; omega
    have e0 : τ.1 0 0 = nI s := by rw [hf.1 0 z0.1 z0.2.1 z0.2.2]; exact h0
    have eq0 : τ.1 q = σ.1 q := hf.1 q ap.1 ap.2.1 ap.2.2.1
    have eq1 : τ.1 (q + 1) = σ.1 (q + 1) := hf.1 _ ap.2.2.2.1 ap.2.2.2.2.1 ap.2.2.2.2.2.1
    have eq2 : τ.1 (q + 2) = σ.1 (q + 2) := hf.1 _ ap.2.2.2.2.2.2.1 ap.2.2.2.2.2.2.2.1 ap.2.2.2.2.2.2.2.2
    have fq0 : τ.1 q2 = σ.1 q2 := hf.1 q2 ap2.1 ap2.2.1 ap2.2.2.1
    have fq1 : τ.1 (q2 + 1) = σ.1 (q2 + 1) := hf.1 _ ap2.2.2.2.1 ap2.2.2.2.2.1 ap2.2.2.2.2.2.1
    have fq2 : τ.1 (q2 + 2) = σ.1 (q2 + 2) := hf.1 _ ap2.2.2.2.2.2.2.1 ap2.2.2.2.2.2.2.2.1 ap2.2.2.2.2.2.2.2.2
    refine zb_iload d_Sh_alter_75 rfl ?_
    refine zb_aload d_Sh_alter_77 rfl ?_
    refine zr_size (q := q) d_Sh_alter_79 fl_Sh_32 hq ?_
    refine zb_top (y := nI n) (by rw [eq0]; exact h.2.1) ?_
    refine zb_icmp_ge (tgt := 136) d_Sh_alter_82 rfl (fun h82 => ?_) (fun h82 => absurd (nI_le (a := n) (b := i) (by omega) (by omega)) h82)
    refine zb_sub [0, 1, 2, 3, 4, 5, 6, 7, 8] rfl ?_
    rw [e] at hz ⊢
    exact K1 τ ns hf hz
  | succ k ih =>
    intro i τ ns hi hf hz
    have hlt : i < n := by omega
    have hq := h.1
    have hq2 := h2.1
    have ap := hq.apart hs hqs
    have ap2 := hq2.apart hs hqs2
    have hp := h.2.2
    have hp2 := h2.2.2
    have hn3 := hp.1
    have hn4 := hp2.1
    have z0 : (0 : Nat) ≠ s ∧ (0 : Nat) ≠ s + 1 ∧ (0 : Nat) ≠ s + 2 := by have := hs.1; omega
    have hs31 : s < 2 ^ 31 := by have := hs.lt; omega
    have e0 : τ.1 0 0 = nI s := by rw [hf.1 0 z0.1 z0.2.1 z0.2.2]; exact h0
    have eq0 : τ.1 q = σ.1 q := hf.1 q ap.1 ap.2.1 ap.2.2.1
    have eq1 : τ.1 (q + 1) = σ.1 (q + 1) := hf.1 _ ap.2.2.2.1 ap.2.2.2.2.1 ap.2.2.2.2.2.1
    have eq2 : τ.1 (q + 2) = σ.1 (q + 2) := hf.1 _ ap.2.2.2.2.2.2.1 ap.2.2.2.2.2.2.2.1 ap.2.2.2.2.2.2.2.2
    have fq0 : τ.1 q2 = σ.1 q2 := hf.1 q2 ap2.1 ap2.2.1 ap2.2.2.1
    have fq1 : τ.1 (q2 + 1) = σ.1 (q2 + 1) := hf.1 _ ap2.2.2.2.1 ap2.2.2.2.2.1 ap2.2.2.2.2.2.1
    have fq2 : τ.1 (q2 + 2) = σ.1 (q2 + 2) := hf.1 _ ap2.2.2.2.2.2.2.1 ap2.2.2.2.2.2.2.2.1 ap2.2.2.2.2.2.2.2.2
    have ht : (zN (σ.1 (q + 1) i)) < 4096 := (hp.2.1 i hlt).1
    have ha0 : (fc (fD (fun t => alt op (m t) (m2 t))) (fun _ => 0) (σ.1 (q + 1)) (σ.1 (q + 2)) i) (zN (σ.1 (q + 1) i)) = 0 := fcD_out _ _ _ _ _ (fun j hj => by have := hp.2.2.1 j i hj hlt; omega)
    have hsub : ∀ u, (fc (fD (fun t => alt op (m t) (m2 t))) (fun _ => 0) (σ.1 (q + 1)) (σ.1 (q + 2)) i) u = 0 ∨ (fc (fD (fun t => alt op (m t) (m2 t))) (fun _ => 0) (σ.1 (q + 1)) (σ.1 (q + 2)) i) u = (fun t => alt op (m t) (m2 t)) u := fun u => by
      by_cases e : ∃ j, j < i ∧ zN (σ.1 (q + 1) j) = u
      · exact Or.inr (fcD_in _ _ _ _ _ e)
      · exact Or.inl (fcD_out _ _ _ _ _ (fun j hj z => e ⟨j, hj, z⟩))
    refine zb_iload d_Sh_alter_75 rfl ?_
    refine zb_aload d_Sh_alter_77 rfl ?_
    refine zr_size (q := q) d_Sh_alter_79 fl_Sh_32 hq ?_
    refine zb_top (y := nI n) (by rw [eq0]; exact h.2.1) ?_
    refine zb_icmp_ge (tgt := 136) d_Sh_alter_82 rfl (fun h82 => absurd h82 (nI_ge (a := i) (b := n) (by omega) (by omega))) (fun h82 => ?_)
    refine zb_iload d_Sh_alter_85 rfl ?_
    refine zb_if_eq (tgt := 136) d_Sh_alter_87 rfl (fun h87 => absurd h87 (by decide)) (fun h87 => ?_)
    refine zb_aload d_Sh_alter_90 rfl ?_
    refine zr_tuples (q := q) d_Sh_alter_92 fl_Sh_60 hq ?_
    refine zb_iload d_Sh_alter_95 rfl ?_
    refine zb_ialdN (q := q + 1) (j := i) d_Sh_alter_97 (hq.t) (by rw [hq.nt]; omega) ?_
    refine zb_top (y := nI (zN (σ.1 (q + 1) i))) (by rw [eq1]; exact (hp.2.1 i hlt).2) ?_
    refine zb_istore (lv' := [(9, .int (nI (zN (σ.1 (q + 1) i)))), (8, .int (nI i)), (7, .int (nI 1)), (0, .ref (zad G 0)), (1, .int (nI r)), (2, .int (nI op)), (3, .int ya), (4, .int zb), (5, .ref (zad G q)), (6, .ref (zad G q2))]) d_Sh_alter_98 (by decide) rfl ?_
    refine zb_aload_n d_Sh_alter_100 rfl rfl ?_
    refine zs_spare d_Sh_alter_101 fl_Sh_16 ?_
    refine zb_st (st' := .ref (zad G s) :: []) (by rw [e0, nI_clamp hs31]) ?_
    refine zb_iload d_Sh_alter_104 rfl ?_
    refine zb_iload_n d_Sh_alter_106 rfl rfl ?_
    refine zb_aload d_Sh_alter_107 rfl ?_
    refine zr_counts (q := q) d_Sh_alter_109 fl_Sh_82 hq ?_
    refine zb_iload d_Sh_alter_112 rfl ?_
    refine zb_ialdN (q := q + 2) (j := i) d_Sh_alter_114 (hq.c) (by rw [hq.nc]; omega) ?_
    refine zb_top (y := m (zN (σ.1 (q + 1) i))) (by rw [eq2]; exact (hp.2.2.2.1 i hlt).2.symm) ?_
    refine zb_aload d_Sh_alter_115 rfl ?_
    refine zb_iload d_Sh_alter_117 rfl ?_
    refine zb_callV (rest := [.int (m (zN (σ.1 (q + 1) i))), .int (nI op), .int (nI (zN (σ.1 (q + 1) i))), .ref (zad G s)]) (c_countOf l G (h2.same fq0 fq1 fq2) (t := (zN (σ.1 (q + 1) i))) (by omega)) (lk_Sh_53.cw rfl rfl ⟨Nat.le_of_ble_eq_true rfl, Nat.le_of_ble_eq_true rfl⟩) (zgR hq2) rfl rfl rfl rfl (Nat.le_of_ble_eq_true rfl) d_Sh_alter_119 ⟨Nat.le_of_ble_eq_true rfl, Nat.le_of_ble_eq_true rfl⟩ ?_
    rintro _ _ ⟨rfl, rfl⟩
    refine zb_st (st' := [.int (m2 (zN (σ.1 (q + 1) i))), .int (m (zN (σ.1 (q + 1) i))), .int (nI op), .int (nI (zN (σ.1 (q + 1) i))), .ref (zad G s)]) rfl ?_
    refine zb_callS (rest := [.int (nI (zN (σ.1 (q + 1) i))), .ref (zad G s)]) (c_altered l G hop) (lk_Sh_88.cw rfl rfl ⟨Nat.le_of_ble_eq_true rfl, Nat.le_of_ble_eq_true rfl⟩) rfl rfl (Nat.le_of_ble_eq_true rfl) d_Sh_alter_122 ⟨Nat.le_of_ble_eq_true rfl, Nat.le_of_ble_eq_true rfl⟩ ?_
    rintro _ _ ⟨rfl, rfl⟩
    refine zb_st (st' := [.int (alt op (m (zN (σ.1 (q + 1) i))) (m2 (zN (σ.1 (q + 1) i)))), .int (nI (zN (σ.1 (q + 1) i))), .ref (zad G s)]) rfl ?_
    by_cases hc : (fc (fD (fun t => alt op (m t) (m2 t))) (fun _ => 0) (σ.1 (q + 1)) (σ.1 (q + 2)) i) (zN (σ.1 (q + 1) i)) ≠ 0 ∨ alt op (m (zN (σ.1 (q + 1) i))) (m2 (zN (σ.1 (q + 1) i))) = 0 ∨ ns < 300
    · refine zb_callV (rest := []) (c_raise_y l G hz (t := (zN (σ.1 (q + 1) i))) (x := alt op (m (zN (σ.1 (q + 1) i))) (m2 (zN (σ.1 (q + 1) i)))) ht hc) (lk_Sh_47.cw rfl rfl ⟨Nat.le_of_ble_eq_true rfl, Nat.le_of_ble_eq_true rfl⟩) (zgR hs) rfl rfl rfl rfl (Nat.le_of_ble_eq_true rfl) d_Sh_alter_125 ⟨Nat.le_of_ble_eq_true rfl, Nat.le_of_ble_eq_true rfl⟩ ?_
      rintro _ _ ⟨rfl, n9, w1, w2⟩
      rename_i τ9
      refine zb_st (st' := [.int 1]) rfl ?_
      refine zb_istore (lv' := [(7, .int 1), (9, .int (nI (zN (σ.1 (q + 1) i)))), (8, .int (nI i)), (0, .ref (zad G 0)), (1, .int (nI r)), (2, .int (nI op)), (3, .int ya), (4, .int zb), (5, .ref (zad G q)), (6, .ref (zad G q2))]) d_Sh_alter_128 (by decide) rfl ?_
      refine zb_lv (lv' := [(7, .int (nI 1)), (9, .int (nI (zN (σ.1 (q + 1) i)))), (8, .int (nI i)), (0, .ref (zad G 0)), (1, .int (nI r)), (2, .int (nI op)), (3, .int ya), (4, .int zb), (5, .ref (zad G q)), (6, .ref (zad G q2))]) (rfl) ?_
      refine zb_iinc (v := nI (i + 1)) (lv' := [(8, .int (nI (i + 1))), (7, .int (nI 1)), (9, .int (nI (zN (σ.1 (q + 1) i)))), (0, .ref (zad G 0)), (1, .int (nI r)), (2, .int (nI op)), (3, .int ya), (4, .int zb), (5, .ref (zad G q)), (6, .ref (zad G q2))]) d_Sh_alter_130 rfl (nI_1 i) (by decide) rfl ?_
      refine zb_goto (tgt := 75) d_Sh_alter_133 rfl ?_
      refine zb_sub [0, 1, 3, 4, 5, 6, 7, 8, 9] rfl ?_
      exact ih (i + 1) τ9 n9 (by omega) (hf.tr w2) (by rw [ha0, Int32.zero_add] at w1; exact w1)
    · refine zb_callV (rest := []) (c_raise_n l G hz (t := (zN (σ.1 (q + 1) i))) (x := alt op (m (zN (σ.1 (q + 1) i))) (m2 (zN (σ.1 (q + 1) i)))) ht hc) (lk_Sh_47.cw rfl rfl ⟨Nat.le_of_ble_eq_true rfl, Nat.le_of_ble_eq_true rfl⟩) (zgR hs) rfl rfl rfl rfl (Nat.le_of_ble_eq_true rfl) d_Sh_alter_125 ⟨Nat.le_of_ble_eq_true rfl, Nat.le_of_ble_eq_true rfl⟩ ?_
      rintro _ _ ⟨rfl, rfl⟩
      refine zb_st (st' := [.int 0]) rfl ?_
      refine zb_istore (lv' := [(7, .int 0), (9, .int (nI (zN (σ.1 (q + 1) i)))), (8, .int (nI i)), (0, .ref (zad G 0)), (1, .int (nI r)), (2, .int (nI op)), (3, .int ya), (4, .int zb), (5, .ref (zad G q)), (6, .ref (zad G q2))]) d_Sh_alter_128 (by decide) rfl ?_
      refine zb_lv (lv' := [(7, .int (nI 0)), (9, .int (nI (zN (σ.1 (q + 1) i)))), (8, .int (nI i)), (0, .ref (zad G 0)), (1, .int (nI r)), (2, .int (nI op)), (3, .int ya), (4, .int zb), (5, .ref (zad G q)), (6, .ref (zad G q2))]) (rfl) ?_
      refine zb_iinc (v := nI (i + 1)) (lv' := [(8, .int (nI (i + 1))), (7, .int (nI 0)), (9, .int (nI (zN (σ.1 (q + 1) i)))), (0, .ref (zad G 0)), (1, .int (nI r)), (2, .int (nI op)), (3, .int ya), (4, .int zb), (5, .ref (zad G q)), (6, .ref (zad G q2))]) d_Sh_alter_130 rfl (nI_1 i) (by decide) rfl ?_
      refine zb_goto (tgt := 75) d_Sh_alter_133 rfl ?_
      refine zb_sub [0, 1, 3, 4, 5, 6, 7, 8, 9] rfl ?_
      exact lf_alter1 l G hs hqs hqs2 h0 h h2 hop hf (fun j => K0 τ j hf (full hz hsub ht hc)) _
set_option maxHeartbeats 4000000 in
set_option maxRecDepth 100000 in
theorem lp_alter2 (l : Launch) (G : zG) {σ : zS} {q q2 s n n2 op : Nat} {m m2 : Nat → Int32} (hs : zrl s) (hqs : q ≠ s) (hqs2 : q2 ≠ s) (h0 : σ.1 0 0 = nI s) (h : zr σ q n m) (h2 : zr σ q2 n2 m2) (hop : op < 6) {r : Nat} {ya zb : Int32} {Fin : List Frame → Array Value → State → State → Prop} (K1 : ∀ (τ : zS) (ns : Nat), zf σ τ s → zr τ s ns (fc (fE m (fun t => alt op (m t) (m2 t))) (fc (fD (fun t => alt op (m t) (m2 t))) (fun _ => 0) (σ.1 (q + 1)) (σ.1 (q + 2)) n) (σ.1 (q2 + 1)) (σ.1 (q2 + 2)) n2) → zB l G w_Sh_alter R_Sh c_Sh_alter 10 (some .int) [] (zrz 8 160 6) Fin 5 30 204 [(8, .int (nI n2)), (7, .int (nI 1)), (0, .ref (zad G 0)), (1, .int (nI r)), (2, .int (nI op)), (3, .int ya), (4, .int zb), (5, .ref (zad G q)), (6, .ref (zad G q2))] [] τ) (K0 : ∀ (τ : zS) (i : Int32), zf σ τ s → 300 < zct (fun t => alt op (m t) (m2 t)) 4096 → zB l G w_Sh_alter R_Sh c_Sh_alter 10 (some .int) [] (zrz 8 160 6) Fin 5 30 204 [(8, .int i), (7, .int (nI 0)), (0, .ref (zad G 0)), (1, .int (nI r)), (2, .int (nI op)), (3, .int ya), (4, .int zb), (5, .ref (zad G q)), (6, .ref (zad G q2))] [] τ) : ∀ (k i : Nat) (τ : zS) (ns : Nat), i + k = n2 → zf σ τ s → zr τ s ns (fc (fE m (fun t => alt op (m t) (m2 t))) (fc (fD (fun t => alt op (m t) (m2 t))) (fun _ => 0) (σ.1 (q + 1)) (σ.1 (q + 2)) n) (σ.1 (q2 + 1)) (σ.1 (q2 + 2)) i) → zB l G w_Sh_alter R_Sh c_Sh_alter 10 (some .int) [] (zrz 8 160 6) Fin 5 30 139 [(8, .int (nI i)), (7, .int (nI 1)), (0, .ref (zad G 0)), (1, .int (nI r)), (2, .int (nI op)), (3, .int ya), (4, .int zb), (5, .ref (zad G q)), (6, .ref (zad G q2))] [] τ := by
  intro k
  induction k with
  | zero =>
    intro i τ ns hi hf hz
    have e : i = n2 := by omega
    have hq := h.1
    have hq2 := h2.1
    have ap := hq.apart hs hqs
    have ap2 := hq2.apart hs hqs2
    have hp := h.2.2
    have hp2 := h2.2.2
    have hn3 := hp.1
    have hn4 := hp2.1
    have z0 : (0 : Nat) ≠ s ∧ (0 : Nat) ≠ s + 1 ∧ (0 : Nat) ≠ s + 2 := by have := hs.1; omega
    have hs31 : s < 2 ^ 31 := by have := hs.lt; omega
    have e0 : τ.1 0 0 = nI s := by rw [hf.1 0 z0.1 z0.2.1 z0.2.2]; exact h0
    have eq0 : τ.1 q = σ.1 q := hf.1 q ap.1 ap.2.1 ap.2.2.1
    have eq1 : τ.1 (q + 1) = σ.1 (q + 1) := hf.1 _ ap.2.2.2.1 ap.2.2.2.2.1 ap.2.2.2.2.2.1
    have eq2 : τ.1 (q + 2) = σ.1 (q + 2) := hf.1 _ ap.2.2.2.2.2.2.1 ap.2.2.2.2.2.2.2.1 ap.2.2.2.2.2.2.2.2
    have fq0 : τ.1 q2 = σ.1 q2 := hf.1 q2 ap2.1 ap2.2.1 ap2.2.2.1
    have fq1 : τ.1 (q2 + 1) = σ.1 (q2 + 1) := hf.1 _ ap2.2.2.2.1 ap2.2.2.2.2.1 ap2.2.2.2.2.2.1
    have fq2 : τ.1 (q2 + 2) = σ.1 (q2 + 2) := hf.1 _ ap2.2.2.2.2.2.2.1 ap2.2.2.2.2.2.2.2.1 ap2.2.2.2.2.2.2.2.2
    refine zb_iload d_Sh_alter_139 rfl ?_
    refine zb_aload d_Sh_alter_141 rfl ?_
    refine zr_size (q := q2) d_Sh_alter_143 fl_Sh_32 hq2 ?_
    refine zb_top (y := nI n2) (by rw [fq0]; exact h2.2.1) ?_
    refine zb_icmp_ge (tgt := 204) d_Sh_alter_146 rfl (fun h146 => ?_) (fun h146 => absurd (nI_le (a := n2) (b := i) (by omega) (by omega)) h146)
    refine zb_sub [0, 1, 2, 3, 4, 5, 6, 7, 8] rfl ?_
    rw [e] at hz ⊢
    exact K1 τ ns hf hz
  | succ k ih =>
    intro i τ ns hi hf hz
    have hlt : i < n2 := by omega
    have hq := h.1
    have hq2 := h2.1
    have ap := hq.apart hs hqs
    have ap2 := hq2.apart hs hqs2
    have hp := h.2.2
    have hp2 := h2.2.2
    have hn3 := hp.1
    have hn4 := hp2.1
    have z0 : (0 : Nat) ≠ s ∧ (0 : Nat) ≠ s + 1 ∧ (0 : Nat) ≠ s + 2 := by have := hs.1; omega
    have hs31 : s < 2 ^ 31 := by have := hs.lt; omega
    have e0 : τ.1 0 0 = nI s := by rw [hf.1 0 z0.1 z0.2.1 z0.2.2]; exact h0
    have eq0 : τ.1 q = σ.1 q := hf.1 q ap.1 ap.2.1 ap.2.2.1
    have eq1 : τ.1 (q + 1) = σ.1 (q + 1) := hf.1 _ ap.2.2.2.1 ap.2.2.2.2.1 ap.2.2.2.2.2.1
    have eq2 : τ.1 (q + 2) = σ.1 (q + 2) := hf.1 _ ap.2.2.2.2.2.2.1 ap.2.2.2.2.2.2.2.1 ap.2.2.2.2.2.2.2.2
    have fq0 : τ.1 q2 = σ.1 q2 := hf.1 q2 ap2.1 ap2.2.1 ap2.2.2.1
    have fq1 : τ.1 (q2 + 1) = σ.1 (q2 + 1) := hf.1 _ ap2.2.2.2.1 ap2.2.2.2.2.1 ap2.2.2.2.2.2.1
    have fq2 : τ.1 (q2 + 2) = σ.1 (q2 + 2) := hf.1 _ ap2.2.2.2.2.2.2.1 ap2.2.2.2.2.2.2.2.1 ap2.2.2.2.2.2.2.2.2
    have ht : (zN (σ.1 (q2 + 1) i)) < 4096 := (hp2.2.1 i hlt).1
    have hA : ∀ u, (fc (fD (fun t => alt op (m t) (m2 t))) (fun _ => 0) (σ.1 (q + 1)) (σ.1 (q + 2)) n) u = 0 ∨ (fc (fD (fun t => alt op (m t) (m2 t))) (fun _ => 0) (σ.1 (q + 1)) (σ.1 (q + 2)) n) u = (fun t => alt op (m t) (m2 t)) u := fun u => by
      by_cases e : ∃ j, j < n ∧ zN (σ.1 (q + 1) j) = u
      · exact Or.inr (fcD_in _ _ _ _ _ e)
      · exact Or.inl (fcD_out _ _ _ _ _ (fun j hj z => e ⟨j, hj, z⟩))
    have ha0 : m (zN (σ.1 (q2 + 1) i)) = 0 → (fc (fE m (fun t => alt op (m t) (m2 t))) (fc (fD (fun t => alt op (m t) (m2 t))) (fun _ => 0) (σ.1 (q + 1)) (σ.1 (q + 2)) n) (σ.1 (q2 + 1)) (σ.1 (q2 + 2)) i) (zN (σ.1 (q2 + 1) i)) = 0 := fun hm => by
      rw [fcE_out _ _ _ _ _ _ _ (fun j hj => by have := hp2.2.2.1 j i hj hlt; omega)]
      exact fcD_out _ _ _ _ _ (fun j hj z => (hp.2.2.2.1 j hj).1 (by rw [← (hp.2.2.2.1 j hj).2, z]; exact hm))
    have hsub : ∀ u, (fc (fE m (fun t => alt op (m t) (m2 t))) (fc (fD (fun t => alt op (m t) (m2 t))) (fun _ => 0) (σ.1 (q + 1)) (σ.1 (q + 2)) n) (σ.1 (q2 + 1)) (σ.1 (q2 + 2)) i) u = 0 ∨ (fc (fE m (fun t => alt op (m t) (m2 t))) (fc (fD (fun t => alt op (m t) (m2 t))) (fun _ => 0) (σ.1 (q + 1)) (σ.1 (q + 2)) n) (σ.1 (q2 + 1)) (σ.1 (q2 + 2)) i) u = (fun t => alt op (m t) (m2 t)) u := fun u => by
      rcases fcE_t m (fun t => alt op (m t) (m2 t)) (fc (fD (fun t => alt op (m t) (m2 t))) (fun _ => 0) (σ.1 (q + 1)) (σ.1 (q + 2)) n) (σ.1 (q2 + 1)) (σ.1 (q2 + 2)) i u with z | z
      · rw [z]; exact hA u
      · exact Or.inr z.2
    refine zb_iload d_Sh_alter_139 rfl ?_
    refine zb_aload d_Sh_alter_141 rfl ?_
    refine zr_size (q := q2) d_Sh_alter_143 fl_Sh_32 hq2 ?_
    refine zb_top (y := nI n2) (by rw [fq0]; exact h2.2.1) ?_
    refine zb_icmp_ge (tgt := 204) d_Sh_alter_146 rfl (fun h146 => absurd h146 (nI_ge (a := i) (b := n2) (by omega) (by omega))) (fun h146 => ?_)
    refine zb_iload d_Sh_alter_149 rfl ?_
    refine zb_if_eq (tgt := 204) d_Sh_alter_151 rfl (fun h151 => absurd h151 (by decide)) (fun h151 => ?_)
    refine zb_aload d_Sh_alter_154 rfl ?_
    refine zr_tuples (q := q2) d_Sh_alter_156 fl_Sh_60 hq2 ?_
    refine zb_iload d_Sh_alter_159 rfl ?_
    refine zb_ialdN (q := q2 + 1) (j := i) d_Sh_alter_161 (hq2.t) (by rw [hq2.nt]; omega) ?_
    refine zb_top (y := nI (zN (σ.1 (q2 + 1) i))) (by rw [fq1]; exact (hp2.2.1 i hlt).2) ?_
    refine zb_istore (lv' := [(9, .int (nI (zN (σ.1 (q2 + 1) i)))), (8, .int (nI i)), (7, .int (nI 1)), (0, .ref (zad G 0)), (1, .int (nI r)), (2, .int (nI op)), (3, .int ya), (4, .int zb), (5, .ref (zad G q)), (6, .ref (zad G q2))]) d_Sh_alter_162 (by decide) rfl ?_
    refine zb_aload d_Sh_alter_164 rfl ?_
    refine zb_iload d_Sh_alter_166 rfl ?_
    refine zb_callV (rest := []) (c_countOf l G (h.same eq0 eq1 eq2) (t := (zN (σ.1 (q2 + 1) i))) (by omega)) (lk_Sh_53.cw rfl rfl ⟨Nat.le_of_ble_eq_true rfl, Nat.le_of_ble_eq_true rfl⟩) (zgR hq) rfl rfl rfl rfl (Nat.le_of_ble_eq_true rfl) d_Sh_alter_168 ⟨Nat.le_of_ble_eq_true rfl, Nat.le_of_ble_eq_true rfl⟩ ?_
    rintro _ _ ⟨rfl, rfl⟩
    refine zb_st (st' := [.int (m (zN (σ.1 (q2 + 1) i)))]) rfl ?_
    refine zb_if_ne (tgt := 198) d_Sh_alter_171 rfl (fun h171 => ?_) (fun h171 => ?_)
    · refine zb_iinc (v := nI (i + 1)) (lv' := [(8, .int (nI (i + 1))), (9, .int (nI (zN (σ.1 (q2 + 1) i)))), (7, .int (nI 1)), (0, .ref (zad G 0)), (1, .int (nI r)), (2, .int (nI op)), (3, .int ya), (4, .int zb), (5, .ref (zad G q)), (6, .ref (zad G q2))]) d_Sh_alter_198 rfl (nI_1 i) (by decide) rfl ?_
      refine zb_goto (tgt := 139) d_Sh_alter_201 rfl ?_
      refine zb_sub [0, 2, 3, 4, 5, 6, 7, 8, 9] rfl ?_
      exact ih (i + 1) τ ns (by omega) hf (by show zr τ s ns (fE m (fun t => alt op (m t) (m2 t)) _ _ _); rw [fE, if_neg h171]; exact hz)
    · refine zb_aload_n d_Sh_alter_174 rfl rfl ?_
      refine zs_spare d_Sh_alter_175 fl_Sh_16 ?_
      refine zb_st (st' := .ref (zad G s) :: []) (by rw [e0, nI_clamp hs31]) ?_
      refine zb_iload d_Sh_alter_178 rfl ?_
      refine zb_iload_n d_Sh_alter_180 rfl rfl ?_
      refine zb_iconst (v := 0) d_Sh_alter_181 rfl ?_
      refine zb_aload d_Sh_alter_182 rfl ?_
      refine zr_counts (q := q2) d_Sh_alter_184 fl_Sh_82 hq2 ?_
      refine zb_iload d_Sh_alter_187 rfl ?_
      refine zb_ialdN (q := q2 + 2) (j := i) d_Sh_alter_189 (hq2.c) (by rw [hq2.nc]; omega) ?_
      refine zb_top (y := m2 (zN (σ.1 (q2 + 1) i))) (by rw [fq2]; exact (hp2.2.2.2.1 i hlt).2.symm) ?_
      refine zb_callS (rest := [.int (nI (zN (σ.1 (q2 + 1) i))), .ref (zad G s)]) (c_altered l G hop) (lk_Sh_88.cw rfl rfl ⟨Nat.le_of_ble_eq_true rfl, Nat.le_of_ble_eq_true rfl⟩) rfl rfl (Nat.le_of_ble_eq_true rfl) d_Sh_alter_190 ⟨Nat.le_of_ble_eq_true rfl, Nat.le_of_ble_eq_true rfl⟩ ?_
      rintro _ _ ⟨rfl, rfl⟩
      refine zb_st (st' := [.int (alt op 0 (m2 (zN (σ.1 (q2 + 1) i)))), .int (nI (zN (σ.1 (q2 + 1) i))), .ref (zad G s)]) rfl ?_
      by_cases hc : (fc (fE m (fun t => alt op (m t) (m2 t))) (fc (fD (fun t => alt op (m t) (m2 t))) (fun _ => 0) (σ.1 (q + 1)) (σ.1 (q + 2)) n) (σ.1 (q2 + 1)) (σ.1 (q2 + 2)) i) (zN (σ.1 (q2 + 1) i)) ≠ 0 ∨ alt op 0 (m2 (zN (σ.1 (q2 + 1) i))) = 0 ∨ ns < 300
      · refine zb_callV (rest := []) (c_raise_y l G hz (t := (zN (σ.1 (q2 + 1) i))) (x := alt op 0 (m2 (zN (σ.1 (q2 + 1) i)))) ht hc) (lk_Sh_47.cw rfl rfl ⟨Nat.le_of_ble_eq_true rfl, Nat.le_of_ble_eq_true rfl⟩) (zgR hs) rfl rfl rfl rfl (Nat.le_of_ble_eq_true rfl) d_Sh_alter_193 ⟨Nat.le_of_ble_eq_true rfl, Nat.le_of_ble_eq_true rfl⟩ ?_
        rintro _ _ ⟨rfl, n9, w1, w2⟩
        rename_i τ9
        refine zb_st (st' := [.int 1]) rfl ?_
        refine zb_istore (lv' := [(7, .int 1), (9, .int (nI (zN (σ.1 (q2 + 1) i)))), (8, .int (nI i)), (0, .ref (zad G 0)), (1, .int (nI r)), (2, .int (nI op)), (3, .int ya), (4, .int zb), (5, .ref (zad G q)), (6, .ref (zad G q2))]) d_Sh_alter_196 (by decide) rfl ?_
        refine zb_lv (lv' := [(7, .int (nI 1)), (9, .int (nI (zN (σ.1 (q2 + 1) i)))), (8, .int (nI i)), (0, .ref (zad G 0)), (1, .int (nI r)), (2, .int (nI op)), (3, .int ya), (4, .int zb), (5, .ref (zad G q)), (6, .ref (zad G q2))]) (rfl) ?_
        refine zb_iinc (v := nI (i + 1)) (lv' := [(8, .int (nI (i + 1))), (7, .int (nI 1)), (9, .int (nI (zN (σ.1 (q2 + 1) i)))), (0, .ref (zad G 0)), (1, .int (nI r)), (2, .int (nI op)), (3, .int ya), (4, .int zb), (5, .ref (zad G q)), (6, .ref (zad G q2))]) d_Sh_alter_198 rfl (nI_1 i) (by decide) rfl ?_
        refine zb_goto (tgt := 139) d_Sh_alter_201 rfl ?_
        refine zb_sub [0, 1, 3, 4, 5, 6, 7, 8, 9] rfl ?_
        exact ih (i + 1) τ9 n9 (by omega) (hf.tr w2) (by rw [ha0 h171, Int32.zero_add] at w1; show zr τ9 s n9 (fE m (fun t => alt op (m t) (m2 t)) _ _ _); rw [fE, if_pos h171, h171]; exact w1)
      · refine zb_callV (rest := []) (c_raise_n l G hz (t := (zN (σ.1 (q2 + 1) i))) (x := alt op 0 (m2 (zN (σ.1 (q2 + 1) i)))) ht hc) (lk_Sh_47.cw rfl rfl ⟨Nat.le_of_ble_eq_true rfl, Nat.le_of_ble_eq_true rfl⟩) (zgR hs) rfl rfl rfl rfl (Nat.le_of_ble_eq_true rfl) d_Sh_alter_193 ⟨Nat.le_of_ble_eq_true rfl, Nat.le_of_ble_eq_true rfl⟩ ?_
        rintro _ _ ⟨rfl, rfl⟩
        refine zb_st (st' := [.int 0]) rfl ?_
        refine zb_istore (lv' := [(7, .int 0), (9, .int (nI (zN (σ.1 (q2 + 1) i)))), (8, .int (nI i)), (0, .ref (zad G 0)), (1, .int (nI r)), (2, .int (nI op)), (3, .int ya), (4, .int zb), (5, .ref (zad G q)), (6, .ref (zad G q2))]) d_Sh_alter_196 (by decide) rfl ?_
        refine zb_lv (lv' := [(7, .int (nI 0)), (9, .int (nI (zN (σ.1 (q2 + 1) i)))), (8, .int (nI i)), (0, .ref (zad G 0)), (1, .int (nI r)), (2, .int (nI op)), (3, .int ya), (4, .int zb), (5, .ref (zad G q)), (6, .ref (zad G q2))]) (rfl) ?_
        refine zb_iinc (v := nI (i + 1)) (lv' := [(8, .int (nI (i + 1))), (7, .int (nI 0)), (9, .int (nI (zN (σ.1 (q2 + 1) i)))), (0, .ref (zad G 0)), (1, .int (nI r)), (2, .int (nI op)), (3, .int ya), (4, .int zb), (5, .ref (zad G q)), (6, .ref (zad G q2))]) d_Sh_alter_198 rfl (nI_1 i) (by decide) rfl ?_
        refine zb_goto (tgt := 139) d_Sh_alter_201 rfl ?_
        refine zb_sub [0, 1, 3, 4, 5, 6, 7, 8, 9] rfl ?_
        exact lf_alter2 l G hs hqs hqs2 h0 h h2 hop hf (fun j => K0 τ j hf (full hz hsub ht (by show ¬ (_ ∨ alt op (m (zN (σ.1 (q2 + 1) i))) (m2 (zN (σ.1 (q2 + 1) i))) = 0 ∨ _); rw [h171]; exact hc))) _
theorem alt_00 : ∀ op, op < 6 → alt op 0 0 = 0 := by decide +kernel
theorem alt_all {T C T2 C2 m m2 : Nat → Int32} {n n2 op : Nat} (h : zp T C n m) (h2 : zp T2 C2 n2 m2) (ho : op < 6) : fc (fE m (fun t => alt op (m t) (m2 t))) (fc (fD (fun t => alt op (m t) (m2 t))) (fun _ => 0) T C n) T2 C2 n2 = (fun t => alt op (m t) (m2 t)) := by
  funext t
  by_cases a : m t = 0
  · by_cases b : m2 t = 0
    · rw [fcE_out _ _ _ _ _ _ _ (fun j hj z => (h2.2.2.2.1 j hj).1 (by rw [← (h2.2.2.2.1 j hj).2, z]; exact b)), fcD_out _ _ _ _ _ (fun j hj z => (h.2.2.2.1 j hj).1 (by rw [← (h.2.2.2.1 j hj).2, z]; exact a))]
      show 0 = alt op (m t) (m2 t)
      rw [a, b, alt_00 op ho]
    · exact fcE_in _ _ _ _ _ _ _ a (h2.2.2.2.2 t b)
  · rcases fcE_t m (fun t => alt op (m t) (m2 t)) (fc (fD (fun t => alt op (m t) (m2 t))) (fun _ => 0) T C n) T2 C2 n2 t with z | z
    · rw [z]; exact fcD_in _ _ _ _ _ (h.2.2.2.2 t a)
    · exact absurd z.1 a
