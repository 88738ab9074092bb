section ZR5
variable {l : Launch} {G : zG} {Ts : List Cond} {own : String} {cc : ByteArray} {nL : Nat} {ret : Option FieldType} {xt : List ExceptionTableEntry} {R : Room} {Fin : List Frame → Array Value → State → State → Prop} {cs sl : Nat} {pc : Nat} {lv lv' : List (Nat × Value)} {st : List Value} {σ : zS}
theorem zb_zaldN {j : Nat} (d : decode cc pc = .ok (.baload, 1)) (hj : j < 256) (k : zB l G Ts own cc nL ret xt R Fin cs sl (pc + 1) lv (.int (σ.1 34 j) :: st) σ) : zB l G Ts own cc nL ret xt R Fin cs sl pc lv (.int (nI j) :: .ref (zad G 34) :: st) σ :=
  zb_zald d (vp_in_nI hj (by decide)) (by rw [nI_clamp (by omega)]; exact k)
theorem zb_zastN {j : Nat} {x : Int32} (d : decode cc pc = .ok (.bastore, 1)) (hj : j < 256) (hx : vp_nar .boolean x = x) (k : zB l G Ts own cc nL ret xt R Fin cs sl (pc + 1) lv st (zu σ 34 (upd (σ.1 34) j x))) : zB l G Ts own cc nL ret xt R Fin cs sl pc lv (.int x :: .int (nI j) :: .ref (zad G 34) :: st) σ :=
  fun p e s m args below meth c C H locs ls hl hP hD hS => va_zast C.1 C.2.1 C.K hP hD hS 34 2 (by rw [zW_at (by decide)]; rfl) rfl (vp_in_nI hj (by decide)) d (fun H1 locs1 hP hD hS => by
    have he : zF G 34 (upd (σ.1 34) j x) σ.2 = .inl (zcZ G, 256, .inl (upd (σ.1 34) j x)) := rfl
    rw [nI_clamp (by omega), hx, zW_zu (by decide) he] at hP hD
    exact k p e s m args below meth c C H1 locs1 ls hl hP hD hS)
end ZR5
theorem ws_tr (E : Nat → Nat → Prop) : ∀ k x y z, z < k → ws E k x z → ws E k z y → ws E k x y := by
  intro k
  induction k with
  | zero => intro x y z hz; exact absurd hz (Nat.not_lt_zero z)
  | succ k ih =>
    intro x y z hz h1 h2
    rcases Nat.lt_or_eq_of_le (Nat.le_of_lt_succ hz) with q | q
    · rcases h1 with a | ⟨a, b⟩ <;> rcases h2 with c | ⟨c, d⟩
      · exact Or.inl (ih x y z q a c)
      · exact Or.inr ⟨ih x k z q a c, d⟩
      · exact Or.inr ⟨a, ih k y z q b c⟩
      · exact Or.inr ⟨a, d⟩
    · subst q
      have a : ws E z x z := h1.elim id (fun p => p.1)
      have b : ws E z z y := h2.elim id (fun p => p.2)
      exact Or.inr ⟨a, b⟩
theorem ws_in {E Q : Nat → Nat → Prop} {N : Nat} (h : ∀ x y, x < N → y < N → E x y → Q x y) (hc : ∀ x y z, x < N → y < N → z < N → Q x z → Q z y → Q x y) : ∀ k, k ≤ N → ∀ x y, x < N → y < N → ws E k x y → Q x y := by
  intro k
  induction k with
  | zero => intro _ x y hx hy hh; exact h x y hx hy hh
  | succ k ih =>
    intro hk x y hx hy hh
    rcases hh with a | ⟨a, b⟩
    · exact ih (by omega) x y hx hy a
    · exact hc x y k hx hy (by omega) (ih (by omega) x k hx (by omega) a) (ih (by omega) k y (by omega) hy b)
theorem ws_E {E : Nat → Nat → Prop} {x y : Nat} : ∀ k, E x y → ws E k x y := by
  intro k h
  induction k with
  | zero => exact h
  | succ k ih => exact Or.inl ih
/-- only way has changed -/
def z34 (σ σ' : zS) : Prop := (∀ k, k ≠ 34 → σ'.1 k = σ.1 k) ∧ σ'.2 = σ.2
theorem z34.rf (σ : zS) : z34 σ σ := ⟨fun _ _ => rfl, rfl⟩
theorem z34.tr {a b c : zS} (h : z34 a b) (h2 : z34 b c) : z34 a c := ⟨fun k hk => (h2.1 k hk).trans (h.1 k hk), h2.2.trans h.2⟩
theorem z34_zu (σ : zS) (f : Nat → Int32) : z34 σ (zu σ 34 f) := ⟨fun k hk => zu_ne σ f hk, rfl⟩
theorem z34.mw {σ τ : zS} {M : Nat → Nat → Int32} {w : Nat → Nat} (h : z34 σ τ) (hm : zmw σ M w) : zmw τ M w := hm.same (h.1 31 (by decide)) (h.1 32 (by decide))
def bits (r : Nat → Int32) (k : Nat) : Prop := ∀ j, j < k → r j = 0 ∨ r j = 1
theorem bits_up {r : Nat → Int32} {k i : Nat} {x : Int32} (h : bits r k) (hx : x = 0 ∨ x = 1) : bits (upd r i x) k := by
  intro j hj
  by_cases e : j = i
  · rw [e, pk_us]; exact hx
  · rw [pk_un e]; exact h j hj
theorem nar_b {x : Int32} (h : x = 0 ∨ x = 1) : vp_nar .boolean x = x := by rcases h with rfl | rfl <;> decide
/-- the first k pairs of way say what the relation holds -/
def wy0 (r : Nat → Int32) (m : Nat → Int32) (k : Nat) : Prop := ∀ x y, x < 16 → y < 16 → 16 * x + y < k → (r (16 * x + y) = 1 ∧ m (256 * x + 16 * y) ≠ 0) ∨ (r (16 * x + y) = 0 ∧ m (256 * x + 16 * y) = 0)
theorem wy0_s {r m : Nat → Int32} {x y : Nat} {v : Int32} (h : wy0 r m (16 * x + y)) (hv : (v = 1 ∧ m (256 * x + 16 * y) ≠ 0) ∨ (v = 0 ∧ m (256 * x + 16 * y) = 0)) (hy : y < 16) : wy0 (upd r (16 * x + y) v) m (16 * x + y + 1) := by
  intro x' y' hx' hy' hk
  by_cases e : 16 * x' + y' = 16 * x + y
  · have e1 : x' = x := by omega
    have e2 : y' = y := by omega
    rw [e1, e2, pk_us]; exact hv
  · rw [pk_un e]; exact h x' y' hx' hy' (by omega)
set_option maxHeartbeats 4000000 in
set_option maxRecDepth 100000 in
theorem lp_way1 (l : Launch) (G : zG) {σ : zS} {r a : Nat} {M : Nat → Nat → Int32} {w : Nat → Nat} (hm : zmw σ M w) (ha : a < 8) {Fin : List Frame → Array Value → State → State → Prop} {x : Nat} (hx : x < 16) (K : ∀ τ : zS, z34 σ τ → wy0 (τ.1 34) (M a) (16 * x + 16) → zB l G w_Mo_reach R_Mo c_Mo_reach 8 (some .int) [] (zrm 2 60) Fin 0 0 101 [(4, .int (nI 16)), (3, .int (nI x)), (0, .ref (zad G 30)), (1, .int (nI r)), (2, .int (nI a))] [] τ) : ∀ (d y : Nat) (τ : zS), y + d = 16 → z34 σ τ → wy0 (τ.1 34) (M a) (16 * x + y) → zB l G w_Mo_reach R_Mo c_Mo_reach 8 (some .int) [] (zrm 2 60) Fin 0 0 52 [(4, .int (nI y)), (3, .int (nI x)), (0, .ref (zad G 30)), (1, .int (nI r)), (2, .int (nI a))] [] τ := by
  intro d
  induction d with
  | zero =>
    intro y τ hi hf hw0
    have e : y = 16 := by omega
    refine zb_iload d_Mo_reach_52 rfl ?_
    refine zb_bipush (v := 16) d_Mo_reach_54 rfl ?_
    refine zb_icmp_ge (tgt := 101) d_Mo_reach_56 rfl (fun h56 => ?_) (fun h56 => absurd (nI_le (a := 16) (b := y) (by omega) (by omega)) h56)
    refine zb_sub [0, 1, 2, 3, 4] rfl ?_
    rw [e] at hw0 ⊢
    exact K τ hf hw0
  | succ d ih =>
    intro y τ hi hf hw0
    have hlt : y < 16 := by omega
    refine zb_iload d_Mo_reach_52 rfl ?_
    refine zb_bipush (v := 16) d_Mo_reach_54 rfl ?_
    refine zb_icmp_ge (tgt := 101) d_Mo_reach_56 rfl (fun h56 => absurd h56 (nI_ge (a := y) (b := 16) (by omega) (by omega))) (fun h56 => ?_)
    refine zb_aload_n d_Mo_reach_59 rfl rfl ?_
    refine zm_way d_Mo_reach_60 fl_Mo_24 ?_
    refine zb_bipush (v := 16) d_Mo_reach_63 rfl ?_
    refine zb_iload_n d_Mo_reach_65 rfl rfl ?_
    refine zb_imul d_Mo_reach_66 ?_
    refine zb_top (y := nI (16 * x)) (pk_mul 16 _) ?_
    refine zb_iload d_Mo_reach_67 rfl ?_
    refine zb_iadd d_Mo_reach_69 ?_
    refine zb_top (y := nI (16 * x + y)) (nI_add _ _) ?_
    refine zb_aload_n d_Mo_reach_70 rfl rfl ?_
    refine zb_iload_n d_Mo_reach_71 rfl rfl ?_
    refine zb_sipush (v := 256) d_Mo_reach_72 rfl ?_
    refine zb_iload_n d_Mo_reach_75 rfl rfl ?_
    refine zb_imul d_Mo_reach_76 ?_
    refine zb_top (y := nI (256 * x)) (pk_mul 256 _) ?_
    refine zb_bipush (v := 16) d_Mo_reach_77 rfl ?_
    refine zb_iload d_Mo_reach_79 rfl ?_
    refine zb_imul d_Mo_reach_81 ?_
    refine zb_top (y := nI (16 * y)) (pk_mul 16 _) ?_
    refine zb_iadd d_Mo_reach_82 ?_
    refine zb_top (y := nI (256 * x + 16 * y)) (nI_add _ _) ?_
    refine zb_callV (rest := [.int (nI (16 * x + y)), .ref (zad G 34)]) (c_of l G (t := (256 * x + 16 * y)) (hf.mw hm) ha (by omega)) (lk_Mo_48.cw rfl rfl ⟨Nat.le_of_ble_eq_true rfl, Nat.le_of_ble_eq_true rfl⟩) zgM rfl rfl rfl rfl (Nat.le_of_ble_eq_true rfl) d_Mo_reach_83 ⟨Nat.le_of_ble_eq_true rfl, Nat.le_of_ble_eq_true rfl⟩ ?_
    rintro _ _ ⟨rfl, rfl⟩
    refine zb_st (st' := [.int (M a (256 * x + 16 * y)), .int (nI (16 * x + y)), .ref (zad G 34)]) rfl ?_
    refine zb_if_eq (tgt := 93) d_Mo_reach_86 rfl (fun h86 => ?_) (fun h86 => ?_)
    · refine zb_iconst (v := 0) d_Mo_reach_93 rfl ?_
      refine zb_zastN (j := (16 * x + y)) d_Mo_reach_94 (by omega) (by decide) ?_
      refine zb_iinc (v := nI (y + 1)) (lv' := [(4, .int (nI (y + 1))), (3, .int (nI x)), (0, .ref (zad G 30)), (1, .int (nI r)), (2, .int (nI a))]) d_Mo_reach_95 rfl (nI_1 y) (by decide) rfl ?_
      refine zb_goto (tgt := 52) d_Mo_reach_98 rfl ?_
      refine zb_sub [0, 1, 2, 3, 4] rfl ?_
      exact ih (y + 1) _ (by omega) (hf.tr (z34_zu _ _)) (by rw [zu_self]; exact wy0_s hw0 (Or.inr ⟨rfl, h86⟩) hlt)
    · refine zb_iconst (v := 1) d_Mo_reach_89 rfl ?_
      refine zb_goto (tgt := 94) d_Mo_reach_90 rfl ?_
      refine zb_zastN (j := (16 * x + y)) d_Mo_reach_94 (by omega) (by decide) ?_
      refine zb_iinc (v := nI (y + 1)) (lv' := [(4, .int (nI (y + 1))), (3, .int (nI x)), (0, .ref (zad G 30)), (1, .int (nI r)), (2, .int (nI a))]) d_Mo_reach_95 rfl (nI_1 y) (by decide) rfl ?_
      refine zb_goto (tgt := 52) d_Mo_reach_98 rfl ?_
      refine zb_sub [0, 1, 2, 3, 4] rfl ?_
      exact ih (y + 1) _ (by omega) (hf.tr (z34_zu _ _)) (by rw [zu_self]; exact wy0_s hw0 (Or.inl ⟨rfl, h86⟩) hlt)
set_option maxHeartbeats 4000000 in
set_option maxRecDepth 100000 in
theorem lp_way2 (l : Launch) (G : zG) {σ : zS} {r a : Nat} {M : Nat → Nat → Int32} {w : Nat → Nat} (hm : zmw σ M w) (ha : a < 8) {Fin : List Frame → Array Value → State → State → Prop} (K : ∀ τ : zS, z34 σ τ → wy0 (τ.1 34) (M a) 256 → zB l G w_Mo_reach R_Mo c_Mo_reach 8 (some .int) [] (zrm 2 60) Fin 0 0 107 [(3, .int (nI 16)), (0, .ref (zad G 30)), (1, .int (nI r)), (2, .int (nI a))] [] τ) : ∀ (d x : Nat) (τ : zS), x + d = 16 → z34 σ τ → wy0 (τ.1 34) (M a) (16 * x) → zB l G w_Mo_reach R_Mo c_Mo_reach 8 (some .int) [] (zrm 2 60) Fin 0 0 43 [(3, .int (nI x)), (0, .ref (zad G 30)), (1, .int (nI r)), (2, .int (nI a))] [] τ := by
  intro d
  induction d with
  | zero =>
    intro x τ hi hf hw0
    have e : x = 16 := by omega
    refine zb_iload_n d_Mo_reach_43 rfl rfl ?_
    refine zb_bipush (v := 16) d_Mo_reach_44 rfl ?_
    refine zb_icmp_ge (tgt := 107) d_Mo_reach_46 rfl (fun h46 => ?_) (fun h46 => absurd (nI_le (a := 16) (b := x) (by omega) (by omega)) h46)
    refine zb_sub [0, 1, 2, 3] rfl ?_
    rw [e] at hw0 ⊢
    exact K τ hf hw0
  | succ d ih =>
    intro x τ hi hf hw0
    have hlt : x < 16 := by omega
    refine zb_iload_n d_Mo_reach_43 rfl rfl ?_
    refine zb_bipush (v := 16) d_Mo_reach_44 rfl ?_
    refine zb_icmp_ge (tgt := 107) d_Mo_reach_46 rfl (fun h46 => absurd h46 (nI_ge (a := x) (b := 16) (by omega) (by omega))) (fun h46 => ?_)
    refine zb_iconst (v := 0) d_Mo_reach_49 rfl ?_
    refine zb_istore (lv' := [(4, .int 0), (3, .int (nI x)), (0, .ref (zad G 30)), (1, .int (nI r)), (2, .int (nI a))]) d_Mo_reach_50 (by decide) rfl ?_
    refine zb_lv (lv' := [(4, .int (nI 0)), (3, .int (nI x)), (0, .ref (zad G 30)), (1, .int (nI r)), (2, .int (nI a))]) rfl ?_
    refine zb_sub [0, 1, 2, 3, 4] rfl ?_
    refine lp_way1 l G hm ha hlt (fun τ2 hf2 hw2 => ?_) 16 0 τ rfl hf hw0
    refine zb_iinc (v := nI (x + 1)) (lv' := [(3, .int (nI (x + 1))), (4, .int (nI 16)), (0, .ref (zad G 30)), (1, .int (nI r)), (2, .int (nI a))]) d_Mo_reach_101 rfl (nI_1 x) (by decide) rfl ?_
    refine zb_goto (tgt := 43) d_Mo_reach_104 rfl ?_
    refine zb_sub [0, 2, 3, 4] rfl ?_
    exact ih (x + 1) τ2 (by omega) hf2 (by rw [Nat.mul_succ]; exact hw2)
/-- a step, or two over a number below z -/
def wP (r : Nat → Int32) (x y z : Nat) : Prop := r (16 * x + y) ≠ 0 ∨ ∃ c, c < z ∧ r (16 * x + c) ≠ 0 ∧ r (16 * c + y) ≠ 0
def wV (v : Int32) (P : Prop) : Prop := (v = 1 ∧ P) ∨ (v = 0 ∧ ¬ P)
theorem wV.b {v : Int32} {P : Prop} (h : wV v P) : v = 0 ∨ v = 1 := h.elim (fun z => Or.inr z.1) (fun z => Or.inl z.1)
theorem wV.ne {v : Int32} {P : Prop} (h : wV v P) (hv : ¬ v = 0) : P := h.elim (fun z => z.2) (fun z => absurd z.1 hv)
theorem wV.e0 {v : Int32} {P : Prop} (h : wV v P) (hv : v = 0) : ¬ P := h.elim (fun z => absurd (z.1.symm.trans hv) (by decide)) (fun z => z.2)
theorem wP_s {r : Nat → Int32} {x y z : Nat} : wP r x y (z + 1) ↔ wP r x y z ∨ (r (16 * x + z) ≠ 0 ∧ r (16 * z + y) ≠ 0) := by
  constructor
  · rintro (a | ⟨c, h1, h2⟩)
    · exact Or.inl (Or.inl a)
    · rcases Nat.lt_or_eq_of_le (Nat.le_of_lt_succ h1) with q | q
      · exact Or.inl (Or.inr ⟨c, q, h2⟩)
      · subst q; exact Or.inr h2
  · rintro ((a | ⟨c, h1, h2⟩) | a)
    · exact Or.inl a
    · exact Or.inr ⟨c, Nat.lt_succ_of_lt h1, h2⟩
    · exact Or.inr ⟨z, Nat.lt_succ_self z, a⟩
set_option maxHeartbeats 4000000 in
set_option maxRecDepth 100000 in
theorem lp_way3 (l : Launch) (G : zG) {σ : zS} {r a x y : Nat} {mo : Int32} (hx : x < 16) (hy : y < 16) {Fin : List Frame → Array Value → State → State → Prop} (K : ∀ v : Int32, wV v (wP (σ.1 34) x y 16) → zB l G w_Mo_reach R_Mo c_Mo_reach 8 (some .int) [] (zrm 2 60) Fin 0 0 210 [(7, .int (nI 16)), (6, .int v), (5, .int (nI y)), (4, .int (nI x)), (3, .int mo), (0, .ref (zad G 30)), (1, .int (nI r)), (2, .int (nI a))] [] σ) : ∀ (d z : Nat) (v : Int32), z + d = 16 → wV v (wP (σ.1 34) x y z) → zB l G w_Mo_reach R_Mo c_Mo_reach 8 (some .int) [] (zrm 2 60) Fin 0 0 153 [(7, .int (nI z)), (6, .int v), (5, .int (nI y)), (4, .int (nI x)), (3, .int mo), (0, .ref (zad G 30)), (1, .int (nI r)), (2, .int (nI a))] [] σ := by
  intro d
  induction d with
  | zero =>
    intro z v hi hv
    have e : z = 16 := by omega
    refine zb_iload d_Mo_reach_153 rfl ?_
    refine zb_bipush (v := 16) d_Mo_reach_155 rfl ?_
    refine zb_icmp_ge (tgt := 210) d_Mo_reach_157 rfl (fun h157 => ?_) (fun h157 => absurd (nI_le (a := 16) (b := z) (by omega) (by omega)) h157)
    refine zb_sub [0, 1, 2, 3, 4, 5, 6, 7] rfl ?_
    rw [e] at hv ⊢
    exact K v hv
  | succ d ih =>
    intro z v hi hv
    have hlt : z < 16 := by omega
    refine zb_iload d_Mo_reach_153 rfl ?_
    refine zb_bipush (v := 16) d_Mo_reach_155 rfl ?_
    refine zb_icmp_ge (tgt := 210) d_Mo_reach_157 rfl (fun h157 => absurd h157 (nI_ge (a := z) (b := 16) (by omega) (by omega))) (fun h157 => ?_)
    refine zb_iload d_Mo_reach_160 rfl ?_
    refine zb_if_ne (tgt := 197) d_Mo_reach_162 rfl (fun h162 => ?_) (fun h162 => ?_)
    · refine zb_iconst (v := 1) d_Mo_reach_197 rfl ?_
      refine zb_goto (tgt := 202) d_Mo_reach_198 rfl ?_
      refine zb_istore (lv' := [(6, .int 1), (7, .int (nI z)), (5, .int (nI y)), (4, .int (nI x)), (3, .int mo), (0, .ref (zad G 30)), (1, .int (nI r)), (2, .int (nI a))]) d_Mo_reach_202 (by decide) rfl ?_
      refine zb_iinc (v := nI (z + 1)) (lv' := [(7, .int (nI (z + 1))), (6, .int 1), (5, .int (nI y)), (4, .int (nI x)), (3, .int mo), (0, .ref (zad G 30)), (1, .int (nI r)), (2, .int (nI a))]) d_Mo_reach_204 rfl (nI_1 z) (by decide) rfl ?_
      refine zb_goto (tgt := 153) d_Mo_reach_207 rfl ?_
      refine zb_sub [0, 1, 2, 3, 4, 5, 6, 7] rfl ?_
      exact ih (z + 1) _ (by omega) (Or.inl ⟨rfl, wP_s.mpr (Or.inl (hv.ne h162))⟩)
    · refine zb_aload_n d_Mo_reach_165 rfl rfl ?_
      refine zm_way d_Mo_reach_166 fl_Mo_24 ?_
      refine zb_bipush (v := 16) d_Mo_reach_169 rfl ?_
      refine zb_iload d_Mo_reach_171 rfl ?_
      refine zb_imul d_Mo_reach_173 ?_
      refine zb_top (y := nI (16 * x)) (pk_mul 16 _) ?_
      refine zb_iload d_Mo_reach_174 rfl ?_
      refine zb_iadd d_Mo_reach_176 ?_
      refine zb_top (y := nI (16 * x + z)) (nI_add _ _) ?_
      refine zb_zaldN (j := (16 * x + z)) d_Mo_reach_177 (by omega) ?_
      refine zb_if_eq (tgt := 201) d_Mo_reach_178 rfl (fun h178 => ?_) (fun h178 => ?_)
      · refine zb_iconst (v := 0) d_Mo_reach_201 rfl ?_
        refine zb_istore (lv' := [(6, .int 0), (7, .int (nI z)), (5, .int (nI y)), (4, .int (nI x)), (3, .int mo), (0, .ref (zad G 30)), (1, .int (nI r)), (2, .int (nI a))]) d_Mo_reach_202 (by decide) rfl ?_
        refine zb_iinc (v := nI (z + 1)) (lv' := [(7, .int (nI (z + 1))), (6, .int 0), (5, .int (nI y)), (4, .int (nI x)), (3, .int mo), (0, .ref (zad G 30)), (1, .int (nI r)), (2, .int (nI a))]) d_Mo_reach_204 rfl (nI_1 z) (by decide) rfl ?_
        refine zb_goto (tgt := 153) d_Mo_reach_207 rfl ?_
        refine zb_sub [0, 1, 2, 3, 4, 5, 6, 7] rfl ?_
        exact ih (z + 1) _ (by omega) (Or.inr ⟨rfl, fun q => (wP_s.mp q).elim (hv.e0 h162) (fun q => q.1 h178)⟩)
      · refine zb_aload_n d_Mo_reach_181 rfl rfl ?_
        refine zm_way d_Mo_reach_182 fl_Mo_24 ?_
        refine zb_bipush (v := 16) d_Mo_reach_185 rfl ?_
        refine zb_iload d_Mo_reach_187 rfl ?_
        refine zb_imul d_Mo_reach_189 ?_
        refine zb_top (y := nI (16 * z)) (pk_mul 16 _) ?_
        refine zb_iload d_Mo_reach_190 rfl ?_
        refine zb_iadd d_Mo_reach_192 ?_
        refine zb_top (y := nI (16 * z + y)) (nI_add _ _) ?_
        refine zb_zaldN (j := (16 * z + y)) d_Mo_reach_193 (by omega) ?_
        refine zb_if_eq (tgt := 201) d_Mo_reach_194 rfl (fun h194 => ?_) (fun h194 => ?_)
        · refine zb_iconst (v := 0) d_Mo_reach_201 rfl ?_
          refine zb_istore (lv' := [(6, .int 0), (7, .int (nI z)), (5, .int (nI y)), (4, .int (nI x)), (3, .int mo), (0, .ref (zad G 30)), (1, .int (nI r)), (2, .int (nI a))]) d_Mo_reach_202 (by decide) rfl ?_
          refine zb_iinc (v := nI (z + 1)) (lv' := [(7, .int (nI (z + 1))), (6, .int 0), (5, .int (nI y)), (4, .int (nI x)), (3, .int mo), (0, .ref (zad G 30)), (1, .int (nI r)), (2, .int (nI a))]) d_Mo_reach_204 rfl (nI_1 z) (by decide) rfl ?_
          refine zb_goto (tgt := 153) d_Mo_reach_207 rfl ?_
          refine zb_sub [0, 1, 2, 3, 4, 5, 6, 7] rfl ?_
          exact ih (z + 1) _ (by omega) (Or.inr ⟨rfl, fun q => (wP_s.mp q).elim (hv.e0 h162) (fun q => q.2 h194)⟩)
        · refine zb_iconst (v := 1) d_Mo_reach_197 rfl ?_
          refine zb_goto (tgt := 202) d_Mo_reach_198 rfl ?_
          refine zb_istore (lv' := [(6, .int 1), (7, .int (nI z)), (5, .int (nI y)), (4, .int (nI x)), (3, .int mo), (0, .ref (zad G 30)), (1, .int (nI r)), (2, .int (nI a))]) d_Mo_reach_202 (by decide) rfl ?_
          refine zb_iinc (v := nI (z + 1)) (lv' := [(7, .int (nI (z + 1))), (6, .int 1), (5, .int (nI y)), (4, .int (nI x)), (3, .int mo), (0, .ref (zad G 30)), (1, .int (nI r)), (2, .int (nI a))]) d_Mo_reach_204 rfl (nI_1 z) (by decide) rfl ?_
          refine zb_goto (tgt := 153) d_Mo_reach_207 rfl ?_
          refine zb_sub [0, 1, 2, 3, 4, 5, 6, 7] rfl ?_
          exact ih (z + 1) _ (by omega) (Or.inl ⟨rfl, wP_s.mpr (Or.inr ⟨h178, h194⟩)⟩)
/-- way is closed for the first k pairs -/
def wC (r : Nat → Int32) (k : Nat) : Prop := ∀ x y z, x < 16 → y < 16 → z < 16 → 16 * x + y < k → r (16 * x + z) ≠ 0 → r (16 * z + y) ≠ 0 → r (16 * x + y) ≠ 0
/-- within a round: r0 at its start, r now -/
def wI (T : Nat → Nat → Prop) (r0 r : Nat → Int32) (mo : Int32) (k : Nat) : Prop := bits r 256 ∧ (∀ j, r0 j ≠ 0 → r j ≠ 0) ∧ (∀ x y, x < 16 → y < 16 → r (16 * x + y) ≠ 0 → T x y) ∧ ((mo = 0 ∧ r = r0 ∧ wC r0 k) ∨ (mo = 1 ∧ ∃ j, j < 256 ∧ r0 j = 0 ∧ r j ≠ 0))
theorem upd_id {f : Nat → Int32} {i : Nat} {x : Int32} (h : f i = x) : upd f i x = f := by
  funext j
  by_cases e : j = i
  · rw [e, pk_us, h]
  · rw [pk_un e]
theorem wI_s {T : Nat → Nat → Prop} {r0 r : Nat → Int32} {mo mo' v : Int32} {x y : Nat} (hT : ∀ x y z, x < 16 → y < 16 → z < 16 → T x z → T z y → T x y) (h : wI T r0 r mo (16 * x + y)) (hx : x < 16) (hy : y < 16) (hv : wV v (wP r x y 16)) (hm : wV mo' (mo ≠ 0 ∨ (v ≠ 0 ∧ r (16 * x + y) = 0))) : wI T r0 (upd r (16 * x + y) v) mo' (16 * x + y + 1) := by
  obtain ⟨h1, h2, h3, h4⟩ := h
  have hP : wP r x y 16 → T x y := fun q => q.elim (h3 x y hx hy) (fun ⟨c, c1, c2, c3⟩ => hT x y c hx hy c1 (h3 x c hx c1 c2) (h3 c y c1 hy c3))
  have hup : ∀ j, r j ≠ 0 → upd r (16 * x + y) v j ≠ 0 := by
    intro j hj
    by_cases e : j = 16 * x + y
    · rw [e, pk_us]
      rcases hv with q | q
      · rw [q.1]; decide
      · exact absurd (Or.inl (e ▸ hj)) q.2
    · rw [pk_un e]; exact hj
  refine ⟨bits_up h1 hv.b, fun j hj => hup j (h2 j hj), fun x' y' hx' hy' hr => ?_, ?_⟩
  · by_cases e : 16 * x' + y' = 16 * x + y
    · have e1 : x' = x := by omega
      have e2 : y' = y := by omega
      subst e1 e2
      rw [pk_us] at hr
      exact hP (hv.ne hr)
    · rw [pk_un e] at hr
      exact h3 x' y' hx' hy' hr
  · rcases h4 with ⟨a, b, c⟩ | ⟨a, j, b, c, d⟩
    · by_cases q : v ≠ 0 ∧ r (16 * x + y) = 0
      · refine Or.inr ⟨?_, 16 * x + y, by omega, by rw [← b]; exact q.2, by rw [pk_us]; exact q.1⟩
        rcases hm with z | z
        · exact z.1
        · exact absurd (Or.inr q) z.2
      · have hr : r (16 * x + y) = v := by
          rcases hv with z | z
          · rw [z.1]
            rcases h1 (16 * x + y) (by omega) with y0 | y0
            · exact absurd ⟨by rw [z.1]; decide, y0⟩ q
            · exact y0
          · rw [z.1]
            by_cases y0 : r (16 * x + y) = 0
            · exact y0
            · exact absurd (Or.inl y0) z.2
        refine Or.inl ⟨?_, by rw [upd_id hr, b], fun x' y' z' hx' hy' hz' hk r1 r2 => ?_⟩
        · rcases hm with z | z
          · exact absurd z.2 (fun w => w.elim (fun w => w a) q)
          · exact z.1
        · by_cases e : 16 * x' + y' = 16 * x + y
          · have e1 : x' = x := by omega
            have e2 : y' = y := by omega
            subst e1 e2
            rw [← b] at r1 r2 ⊢
            rw [hr]
            rcases hv with z | z
            · rw [z.1]; decide
            · exact absurd (Or.inr ⟨z', hz', r1, r2⟩) z.2
          · exact c x' y' z' hx' hy' hz' (by omega) r1 r2
    · refine Or.inr ⟨?_, j, b, c, hup j d⟩
      rcases hm with z | z
      · exact z.1
      · exact absurd (Or.inl (by rw [a]; decide)) z.2
set_option maxHeartbeats 4000000 in
set_option maxRecDepth 100000 in
theorem lp_way4 (l : Launch) (G : zG) {σ : zS} {T : Nat → Nat → Prop} {r0 : Nat → Int32} (hT : ∀ x y z, x < 16 → y < 16 → z < 16 → T x z → T z y → T x y) {r a : Nat} {Fin : List Frame → Array Value → State → State → Prop} {x : Nat} (hx : x < 16) (K : ∀ (τ : zS) (mo : Int32), z34 σ τ → wI T r0 (τ.1 34) mo (16 * x + 16) → zB l G w_Mo_reach R_Mo c_Mo_reach 8 (some .int) [] (zrm 2 60) Fin 0 0 262 [(5, .int (nI 16)), (4, .int (nI x)), (3, .int mo), (0, .ref (zad G 30)), (1, .int (nI r)), (2, .int (nI a))] [] τ) : ∀ (d y : Nat) (τ : zS) (mo : Int32), y + d = 16 → z34 σ τ → wI T r0 (τ.1 34) mo (16 * x + y) → zB l G w_Mo_reach R_Mo c_Mo_reach 8 (some .int) [] (zrm 2 60) Fin 0 0 128 [(5, .int (nI y)), (4, .int (nI x)), (3, .int mo), (0, .ref (zad G 30)), (1, .int (nI r)), (2, .int (nI a))] [] τ := by
  intro d
  induction d with
  | zero =>
    intro y τ mo hi hf hI
    have e : y = 16 := by omega
    refine zb_iload d_Mo_reach_128 rfl ?_
    refine zb_bipush (v := 16) d_Mo_reach_130 rfl ?_
    refine zb_icmp_ge (tgt := 262) d_Mo_reach_132 rfl (fun h132 => ?_) (fun h132 => absurd (nI_le (a := 16) (b := y) (by omega) (by omega)) h132)
    refine zb_sub [0, 1, 2, 3, 4, 5] rfl ?_
    rw [e] at hI ⊢
    exact K τ mo hf hI
  | succ d ih =>
    intro y τ mo hi hf hI
    have hlt : y < 16 := by omega
    refine zb_iload d_Mo_reach_128 rfl ?_
    refine zb_bipush (v := 16) d_Mo_reach_130 rfl ?_
    refine zb_icmp_ge (tgt := 262) d_Mo_reach_132 rfl (fun h132 => absurd h132 (nI_ge (a := y) (b := 16) (by omega) (by omega))) (fun h132 => ?_)
    refine zb_aload_n d_Mo_reach_135 rfl rfl ?_
    refine zm_way d_Mo_reach_136 fl_Mo_24 ?_
    refine zb_bipush (v := 16) d_Mo_reach_139 rfl ?_
    refine zb_iload d_Mo_reach_141 rfl ?_
    refine zb_imul d_Mo_reach_143 ?_
    refine zb_top (y := nI (16 * x)) (pk_mul 16 _) ?_
    refine zb_iload d_Mo_reach_144 rfl ?_
    refine zb_iadd d_Mo_reach_146 ?_
    refine zb_top (y := nI (16 * x + y)) (nI_add _ _) ?_
    refine zb_zaldN (j := (16 * x + y)) d_Mo_reach_147 (by omega) ?_
    refine zb_istore (lv' := [(6, .int (τ.1 34 (16 * x + y))), (5, .int (nI y)), (4, .int (nI x)), (3, .int mo), (0, .ref (zad G 30)), (1, .int (nI r)), (2, .int (nI a))]) d_Mo_reach_148 (by decide) rfl ?_
    refine zb_iconst (v := 0) d_Mo_reach_150 rfl ?_
    refine zb_istore (lv' := [(7, .int 0), (6, .int (τ.1 34 (16 * x + y))), (5, .int (nI y)), (4, .int (nI x)), (3, .int mo), (0, .ref (zad G 30)), (1, .int (nI r)), (2, .int (nI a))]) d_Mo_reach_151 (by decide) rfl ?_
    refine zb_lv (lv' := [(7, .int (nI 0)), (6, .int (τ.1 34 (16 * x + y))), (5, .int (nI y)), (4, .int (nI x)), (3, .int mo), (0, .ref (zad G 30)), (1, .int (nI r)), (2, .int (nI a))]) rfl ?_
    refine zb_sub [0, 1, 2, 3, 4, 5, 6, 7] rfl ?_
    refine lp_way3 l G hx hlt (fun v hv => ?_) 16 0 _ rfl (by
      rcases hI.1 (16 * x + y) (by omega) with q | q
      · exact Or.inr ⟨q, fun z => z.elim (fun z => z q) (fun ⟨c, c1, _⟩ => absurd c1 (Nat.not_lt_zero c))⟩
      · exact Or.inl ⟨q, Or.inl (by rw [q]; decide)⟩)
    refine zb_iload_n d_Mo_reach_210 rfl rfl ?_
    refine zb_if_ne (tgt := 235) d_Mo_reach_211 rfl (fun h211 => ?_) (fun h211 => ?_)
    · refine zb_iconst (v := 1) d_Mo_reach_235 rfl ?_
      refine zb_goto (tgt := 240) d_Mo_reach_236 rfl ?_
      refine zb_istore_n (lv' := [(3, .int 1), (7, .int (nI 16)), (6, .int v), (5, .int (nI y)), (4, .int (nI x)), (0, .ref (zad G 30)), (1, .int (nI r)), (2, .int (nI a))]) d_Mo_reach_240 rfl (by decide) rfl ?_
      refine zb_aload_n d_Mo_reach_241 rfl rfl ?_
      refine zm_way d_Mo_reach_242 fl_Mo_24 ?_
      refine zb_bipush (v := 16) d_Mo_reach_245 rfl ?_
      refine zb_iload d_Mo_reach_247 rfl ?_
      refine zb_imul d_Mo_reach_249 ?_
      refine zb_top (y := nI (16 * x)) (pk_mul 16 _) ?_
      refine zb_iload d_Mo_reach_250 rfl ?_
      refine zb_iadd d_Mo_reach_252 ?_
      refine zb_top (y := nI (16 * x + y)) (nI_add _ _) ?_
      refine zb_iload d_Mo_reach_253 rfl ?_
      refine zb_zastN (j := (16 * x + y)) d_Mo_reach_255 (by omega) (nar_b hv.b) ?_
      refine zb_iinc (v := nI (y + 1)) (lv' := [(5, .int (nI (y + 1))), (3, .int 1), (7, .int (nI 16)), (6, .int v), (4, .int (nI x)), (0, .ref (zad G 30)), (1, .int (nI r)), (2, .int (nI a))]) d_Mo_reach_256 rfl (nI_1 y) (by decide) rfl ?_
      refine zb_goto (tgt := 128) d_Mo_reach_259 rfl ?_
      refine zb_sub [0, 4, 1, 5, 6, 7] rfl ?_
      exact ih (y + 1) _ 1 (by omega) (hf.tr (z34_zu _ _)) (by rw [zu_self]; exact wI_s hT hI hx hlt hv (Or.inl ⟨rfl, Or.inl h211⟩))
    · refine zb_iload d_Mo_reach_214 rfl ?_
      refine zb_if_eq (tgt := 239) d_Mo_reach_216 rfl (fun h216 => ?_) (fun h216 => ?_)
      · refine zb_iconst (v := 0) d_Mo_reach_239 rfl ?_
        refine zb_istore_n (lv' := [(3, .int 0), (7, .int (nI 16)), (6, .int v), (5, .int (nI y)), (4, .int (nI x)), (0, .ref (zad G 30)), (1, .int (nI r)), (2, .int (nI a))]) d_Mo_reach_240 rfl (by decide) rfl ?_
        refine zb_aload_n d_Mo_reach_241 rfl rfl ?_
        refine zm_way d_Mo_reach_242 fl_Mo_24 ?_
        refine zb_bipush (v := 16) d_Mo_reach_245 rfl ?_
        refine zb_iload d_Mo_reach_247 rfl ?_
        refine zb_imul d_Mo_reach_249 ?_
        refine zb_top (y := nI (16 * x)) (pk_mul 16 _) ?_
        refine zb_iload d_Mo_reach_250 rfl ?_
        refine zb_iadd d_Mo_reach_252 ?_
        refine zb_top (y := nI (16 * x + y)) (nI_add _ _) ?_
        refine zb_iload d_Mo_reach_253 rfl ?_
        refine zb_zastN (j := (16 * x + y)) d_Mo_reach_255 (by omega) (nar_b hv.b) ?_
        refine zb_iinc (v := nI (y + 1)) (lv' := [(5, .int (nI (y + 1))), (3, .int 0), (7, .int (nI 16)), (6, .int v), (4, .int (nI x)), (0, .ref (zad G 30)), (1, .int (nI r)), (2, .int (nI a))]) d_Mo_reach_256 rfl (nI_1 y) (by decide) rfl ?_
        refine zb_goto (tgt := 128) d_Mo_reach_259 rfl ?_
        refine zb_sub [0, 4, 1, 5, 6, 7] rfl ?_
        exact ih (y + 1) _ 0 (by omega) (hf.tr (z34_zu _ _)) (by rw [zu_self]; exact wI_s hT hI hx hlt hv (Or.inr ⟨rfl, fun q => q.elim (fun q => q h211) (fun q => q.1 h216)⟩))
      · refine zb_aload_n d_Mo_reach_219 rfl rfl ?_
        refine zm_way d_Mo_reach_220 fl_Mo_24 ?_
        refine zb_bipush (v := 16) d_Mo_reach_223 rfl ?_
        refine zb_iload d_Mo_reach_225 rfl ?_
        refine zb_imul d_Mo_reach_227 ?_
        refine zb_top (y := nI (16 * x)) (pk_mul 16 _) ?_
        refine zb_iload d_Mo_reach_228 rfl ?_
        refine zb_iadd d_Mo_reach_230 ?_
        refine zb_top (y := nI (16 * x + y)) (nI_add _ _) ?_
        refine zb_zaldN (j := (16 * x + y)) d_Mo_reach_231 (by omega) ?_
        refine zb_if_ne (tgt := 239) d_Mo_reach_232 rfl (fun h232 => ?_) (fun h232 => ?_)
        · refine zb_iconst (v := 0) d_Mo_reach_239 rfl ?_
          refine zb_istore_n (lv' := [(3, .int 0), (7, .int (nI 16)), (6, .int v), (5, .int (nI y)), (4, .int (nI x)), (0, .ref (zad G 30)), (1, .int (nI r)), (2, .int (nI a))]) d_Mo_reach_240 rfl (by decide) rfl ?_
          refine zb_aload_n d_Mo_reach_241 rfl rfl ?_
          refine zm_way d_Mo_reach_242 fl_Mo_24 ?_
          refine zb_bipush (v := 16) d_Mo_reach_245 rfl ?_
          refine zb_iload d_Mo_reach_247 rfl ?_
          refine zb_imul d_Mo_reach_249 ?_
          refine zb_top (y := nI (16 * x)) (pk_mul 16 _) ?_
          refine zb_iload d_Mo_reach_250 rfl ?_
          refine zb_iadd d_Mo_reach_252 ?_
          refine zb_top (y := nI (16 * x + y)) (nI_add _ _) ?_
          refine zb_iload d_Mo_reach_253 rfl ?_
          refine zb_zastN (j := (16 * x + y)) d_Mo_reach_255 (by omega) (nar_b hv.b) ?_
          refine zb_iinc (v := nI (y + 1)) (lv' := [(5, .int (nI (y + 1))), (3, .int 0), (7, .int (nI 16)), (6, .int v), (4, .int (nI x)), (0, .ref (zad G 30)), (1, .int (nI r)), (2, .int (nI a))]) d_Mo_reach_256 rfl (nI_1 y) (by decide) rfl ?_
          refine zb_goto (tgt := 128) d_Mo_reach_259 rfl ?_
          refine zb_sub [0, 4, 1, 5, 6, 7] rfl ?_
          exact ih (y + 1) _ 0 (by omega) (hf.tr (z34_zu _ _)) (by rw [zu_self]; exact wI_s hT hI hx hlt hv (Or.inr ⟨rfl, fun q => q.elim (fun q => q h211) (fun q => h232 q.2)⟩))
        · refine zb_iconst (v := 1) d_Mo_reach_235 rfl ?_
          refine zb_goto (tgt := 240) d_Mo_reach_236 rfl ?_
          refine zb_istore_n (lv' := [(3, .int 1), (7, .int (nI 16)), (6, .int v), (5, .int (nI y)), (4, .int (nI x)), (0, .ref (zad G 30)), (1, .int (nI r)), (2, .int (nI a))]) d_Mo_reach_240 rfl (by decide) rfl ?_
          refine zb_aload_n d_Mo_reach_241 rfl rfl ?_
          refine zm_way d_Mo_reach_242 fl_Mo_24 ?_
          refine zb_bipush (v := 16) d_Mo_reach_245 rfl ?_
          refine zb_iload d_Mo_reach_247 rfl ?_
          refine zb_imul d_Mo_reach_249 ?_
          refine zb_top (y := nI (16 * x)) (pk_mul 16 _) ?_
          refine zb_iload d_Mo_reach_250 rfl ?_
          refine zb_iadd d_Mo_reach_252 ?_
          refine zb_top (y := nI (16 * x + y)) (nI_add _ _) ?_
          refine zb_iload d_Mo_reach_253 rfl ?_
          refine zb_zastN (j := (16 * x + y)) d_Mo_reach_255 (by omega) (nar_b hv.b) ?_
          refine zb_iinc (v := nI (y + 1)) (lv' := [(5, .int (nI (y + 1))), (3, .int 1), (7, .int (nI 16)), (6, .int v), (4, .int (nI x)), (0, .ref (zad G 30)), (1, .int (nI r)), (2, .int (nI a))]) d_Mo_reach_256 rfl (nI_1 y) (by decide) rfl ?_
          refine zb_goto (tgt := 128) d_Mo_reach_259 rfl ?_
          refine zb_sub [0, 4, 1, 5, 6, 7] rfl ?_
          exact ih (y + 1) _ 1 (by omega) (hf.tr (z34_zu _ _)) (by rw [zu_self]; exact wI_s hT hI hx hlt hv (Or.inl ⟨rfl, Or.inr ⟨h216, h232⟩⟩))
set_option maxHeartbeats 4000000 in
set_option maxRecDepth 100000 in
theorem lp_way5 (l : Launch) (G : zG) {σ : zS} {T : Nat → Nat → Prop} {r0 : Nat → Int32} (hT : ∀ x y z, x < 16 → y < 16 → z < 16 → T x z → T z y → T x y) {r a : Nat} {Fin : List Frame → Array Value → State → State → Prop} (K : ∀ (τ : zS) (mo : Int32), z34 σ τ → wI T r0 (τ.1 34) mo 256 → zB l G w_Mo_reach R_Mo c_Mo_reach 8 (some .int) [] (zrm 2 60) Fin 0 0 268 [(4, .int (nI 16)), (3, .int mo), (0, .ref (zad G 30)), (1, .int (nI r)), (2, .int (nI a))] [] τ) : ∀ (d x : Nat) (τ : zS) (mo : Int32), x + d = 16 → z34 σ τ → wI T r0 (τ.1 34) mo (16 * x) → zB l G w_Mo_reach R_Mo c_Mo_reach 8 (some .int) [] (zrm 2 60) Fin 0 0 118 [(4, .int (nI x)), (3, .int mo), (0, .ref (zad G 30)), (1, .int (nI r)), (2, .int (nI a))] [] τ := by
  intro d
  induction d with
  | zero =>
    intro x τ mo hi hf hI
    have e : x = 16 := by omega
    refine zb_iload d_Mo_reach_118 rfl ?_
    refine zb_bipush (v := 16) d_Mo_reach_120 rfl ?_
    refine zb_icmp_ge (tgt := 268) d_Mo_reach_122 rfl (fun h122 => ?_) (fun h122 => absurd (nI_le (a := 16) (b := x) (by omega) (by omega)) h122)
    refine zb_sub [0, 1, 2, 3, 4] rfl ?_
    rw [e] at hI ⊢
    exact K τ mo hf hI
  | succ d ih =>
    intro x τ mo hi hf hI
    have hlt : x < 16 := by omega
    refine zb_iload d_Mo_reach_118 rfl ?_
    refine zb_bipush (v := 16) d_Mo_reach_120 rfl ?_
    refine zb_icmp_ge (tgt := 268) d_Mo_reach_122 rfl (fun h122 => absurd h122 (nI_ge (a := x) (b := 16) (by omega) (by omega))) (fun h122 => ?_)
    refine zb_iconst (v := 0) d_Mo_reach_125 rfl ?_
    refine zb_istore (lv' := [(5, .int 0), (4, .int (nI x)), (3, .int mo), (0, .ref (zad G 30)), (1, .int (nI r)), (2, .int (nI a))]) d_Mo_reach_126 (by decide) rfl ?_
    refine zb_lv (lv' := [(5, .int (nI 0)), (4, .int (nI x)), (3, .int mo), (0, .ref (zad G 30)), (1, .int (nI r)), (2, .int (nI a))]) rfl ?_
    refine zb_sub [0, 1, 2, 3, 4, 5] rfl ?_
    refine lp_way4 l G hT hlt (fun τ2 mo2 hf2 hI2 => ?_) 16 0 τ mo rfl hf hI
    refine zb_iinc (v := nI (x + 1)) (lv' := [(4, .int (nI (x + 1))), (5, .int (nI 16)), (3, .int mo2), (0, .ref (zad G 30)), (1, .int (nI r)), (2, .int (nI a))]) d_Mo_reach_262 rfl (nI_1 x) (by decide) rfl ?_
    refine zb_goto (tgt := 118) d_Mo_reach_265 rfl ?_
    refine zb_sub [0, 2, 3, 4, 5] rfl ?_
    exact ih (x + 1) τ2 mo2 (by omega) hf2 (by rw [Nat.mul_succ]; exact hI2)
theorem zct_ub (m : Nat → Int32) (k : Nat) : zct m k ≤ k := zct_le m k
set_option maxHeartbeats 4000000 in
set_option maxRecDepth 100000 in
theorem lp_way6 (l : Launch) (G : zG) {σ : zS} {T : Nat → Nat → Prop} {r0 : Nat → Int32} (hT : ∀ x y z, x < 16 → y < 16 → z < 16 → T x z → T z y → T x y) {r a : Nat} {Fin : List Frame → Array Value → State → State → Prop} (K : ∀ τ : zS, z34 σ τ → bits (τ.1 34) 256 → (∀ j, r0 j ≠ 0 → τ.1 34 j ≠ 0) → (∀ x y, x < 16 → y < 16 → τ.1 34 (16 * x + y) ≠ 0 → T x y) → wC (τ.1 34) 256 → zB l G w_Mo_reach R_Mo c_Mo_reach 8 (some .int) [] (zrm 2 60) Fin 0 0 271 [(3, .int 0), (0, .ref (zad G 30)), (1, .int (nI r)), (2, .int (nI a))] [] τ) : ∀ (N : Nat) (τ : zS), 256 - zct (τ.1 34) 256 < N → z34 σ τ → bits (τ.1 34) 256 → (∀ j, r0 j ≠ 0 → τ.1 34 j ≠ 0) → (∀ x y, x < 16 → y < 16 → τ.1 34 (16 * x + y) ≠ 0 → T x y) → zB l G w_Mo_reach R_Mo c_Mo_reach 8 (some .int) [] (zrm 2 60) Fin 0 0 109 [(3, .int 1), (0, .ref (zad G 30)), (1, .int (nI r)), (2, .int (nI a))] [] τ := by
  intro N
  induction N with
  | zero => intro τ hN; exact absurd hN (Nat.not_lt_zero _)
  | succ N ih =>
    intro τ hN hf hb h0 hU
    have ub := fun τ2 : zS => zct_ub (τ2.1 34) 256
    refine zb_iload_n d_Mo_reach_109 rfl rfl ?_
    refine zb_if_eq (tgt := 271) d_Mo_reach_110 rfl (fun h110 => absurd h110 (by decide)) (fun h110 => ?_)
    refine zb_iconst (v := 0) d_Mo_reach_113 rfl ?_
    refine zb_istore_n (lv' := [(3, .int 0), (0, .ref (zad G 30)), (1, .int (nI r)), (2, .int (nI a))]) d_Mo_reach_114 rfl (by decide) rfl ?_
    refine zb_iconst (v := 0) d_Mo_reach_115 rfl ?_
    refine zb_istore (lv' := [(4, .int 0), (3, .int 0), (0, .ref (zad G 30)), (1, .int (nI r)), (2, .int (nI a))]) d_Mo_reach_116 (by decide) rfl ?_
    refine zb_lv (lv' := [(4, .int (nI 0)), (3, .int 0), (0, .ref (zad G 30)), (1, .int (nI r)), (2, .int (nI a))]) rfl ?_
    refine zb_sub [0, 1, 2, 3, 4] rfl ?_
    refine lp_way5 l G hT (σ := σ) (r0 := τ.1 34) (fun τ2 mo2 hf2 hI2 => ?_) 16 0 τ 0 rfl hf ⟨hb, fun _ q => q, hU, Or.inl ⟨rfl, rfl, fun _ _ _ _ _ _ q => absurd q (Nat.not_lt_zero _)⟩⟩
    obtain ⟨j1, j2, j3, j4⟩ := hI2
    rcases j4 with ⟨rfl, jr, jc⟩ | ⟨rfl, j, q1, q2, q3⟩
    · refine zb_goto (tgt := 109) d_Mo_reach_268 rfl ?_
      refine zb_iload_n d_Mo_reach_109 rfl rfl ?_
      refine zb_if_eq (tgt := 271) d_Mo_reach_110 rfl (fun h110 => ?_) (fun h110 => absurd rfl h110)
      refine zb_sub [1, 2, 3, 4] rfl ?_
      exact K τ2 hf2 j1 (fun j q => j2 j (h0 j q)) j3 (by rw [jr]; exact jc)
    · refine zb_goto (tgt := 109) d_Mo_reach_268 rfl ?_
      refine zb_sub [1, 2, 3, 4] rfl ?_
      exact ih τ2 (by have := zct_more j2 q2 q3 256 q1; have := ub τ2; omega) hf2 j1 (fun j q => j2 j (h0 j q)) j3
def gq (r : Nat → Int32) (k t : Nat) : Int32 := if t % 16 = 0 ∧ t < 4096 ∧ t / 16 < k ∧ r (t / 16) ≠ 0 then 1 else 0
theorem gq_e {r : Nat → Int32} {k t : Nat} (e : t ≠ 16 * k) : gq r k t = gq r (k + 1) t := by
  unfold gq
  by_cases c : t % 16 = 0 ∧ t < 4096 ∧ t / 16 < k ∧ r (t / 16) ≠ 0
  · rw [if_pos c, if_pos ⟨c.1, c.2.1, by omega, c.2.2.2⟩]
  · rw [if_neg c, if_neg (fun z => c ⟨z.1, z.2.1, by omega, z.2.2.2⟩)]
theorem gq_y {r : Nat → Int32} {x y : Nat} (hx : x < 16) (hy : y < 16) (h : ¬ r (16 * x + y) = 0) : upd (gq r (16 * x + y)) (256 * x + 16 * y) 1 = gq r (16 * x + y + 1) := by
  funext t
  by_cases e : t = 256 * x + 16 * y
  · rw [e, pk_us]
    refine (if_pos ⟨by omega, by omega, by omega, ?_⟩).symm
    rw [show (256 * x + 16 * y) / 16 = 16 * x + y by omega]
    exact h
  · rw [pk_un e]; exact gq_e (by omega)
theorem gq_n {r : Nat → Int32} {x y : Nat} (hy : y < 16) (h : r (16 * x + y) = 0) : gq r (16 * x + y) = gq r (16 * x + y + 1) := by
  funext t
  by_cases e : t = 256 * x + 16 * y
  · rw [e]
    unfold gq
    rw [if_neg (fun z => by omega), if_neg (fun z => z.2.2.2 (by rw [show (256 * x + 16 * y) / 16 = 16 * x + y by omega]; exact h))]
  · exact gq_e (by omega)
theorem gq_rch {r m : Nat → Int32} (h : ∀ x y, x < 16 → y < 16 → (r (16 * x + y) ≠ 0 ↔ ws (fun x y => m (256 * x + 16 * y) ≠ 0) 16 x y)) : zrch m (gq r 256) := by
  intro t
  unfold gq
  by_cases c : t % 16 = 0 ∧ t < 4096 ∧ t / 16 < 256 ∧ r (t / 16) ≠ 0
  · have hh := h (t / 256) (t / 16 % 16) (by omega) (by omega)
    rw [show 16 * (t / 256) + t / 16 % 16 = t / 16 by omega] at hh
    exact Or.inl ⟨if_pos c, c.1, c.2.1, hh.mp c.2.2.2⟩
  · refine Or.inr ⟨if_neg c, fun z => c ⟨z.1, z.2.1, by omega, ?_⟩⟩
    have hh := h (t / 256) (t / 16 % 16) (by omega) (by omega)
    rw [show 16 * (t / 256) + t / 16 % 16 = t / 16 by omega] at hh
    exact hh.mpr z.2.2
theorem zrch_u {m D D' : Nat → Int32} (h : zrch m D) (h2 : zrch m D') : D = D' := by
  funext t
  rcases h t with a | a <;> rcases h2 t with b | b
  · rw [a.1, b.1]
  · exact absurd a.2 b.2
  · exact absurd b.2 a.2
  · rw [a.1, b.1]
theorem z34.j {σ σ' : zS} (h : z34 σ σ') : zj σ σ' := ⟨fun q hq => h.1 q (by omega), h.2⟩
set_option maxHeartbeats 4000000 in
set_option maxRecDepth 100000 in
theorem lp_way7 (l : Launch) (G : zG) {σ : zS} {r a : Nat} {Fin : List Frame → Array Value → State → State → Prop} {x : Nat} (hx : x < 16) (K : ∀ τ : zS, zo σ τ (gq (σ.1 34) (16 * x + 16)) → zB l G w_Mo_reach R_Mo c_Mo_reach 8 (some .int) [] (zrm 2 60) Fin 0 0 335 [(5, .int (nI 16)), (4, .int (nI x)), (0, .ref (zad G 30)), (1, .int (nI r)), (2, .int (nI a))] [] τ) : ∀ (d y : Nat) (τ : zS), y + d = 16 → zo σ τ (gq (σ.1 34) (16 * x + y)) → zB l G w_Mo_reach R_Mo c_Mo_reach 8 (some .int) [] (zrm 2 60) Fin 0 0 288 [(5, .int (nI y)), (4, .int (nI x)), (0, .ref (zad G 30)), (1, .int (nI r)), (2, .int (nI a))] [] τ := by
  intro d
  induction d with
  | zero =>
    intro y τ hi hz
    have e : y = 16 := by omega
    refine zb_iload d_Mo_reach_288 rfl ?_
    refine zb_bipush (v := 16) d_Mo_reach_290 rfl ?_
    refine zb_icmp_ge (tgt := 335) d_Mo_reach_292 rfl (fun h292 => ?_) (fun h292 => absurd (nI_le (a := 16) (b := y) (by omega) (by omega)) h292)
    refine zb_sub [0, 1, 2, 3, 4] rfl ?_
    rw [e] at hz ⊢
    exact K τ hz
  | succ d ih =>
    intro y τ hi hz
    have hlt : y < 16 := by omega
    refine zb_iload d_Mo_reach_288 rfl ?_
    refine zb_bipush (v := 16) d_Mo_reach_290 rfl ?_
    refine zb_icmp_ge (tgt := 335) d_Mo_reach_292 rfl (fun h292 => absurd h292 (nI_ge (a := y) (b := 16) (by omega) (by omega))) (fun h292 => ?_)
    refine zb_aload_n d_Mo_reach_295 rfl rfl ?_
    refine zm_way d_Mo_reach_296 fl_Mo_24 ?_
    refine zb_bipush (v := 16) d_Mo_reach_299 rfl ?_
    refine zb_iload d_Mo_reach_301 rfl ?_
    refine zb_imul d_Mo_reach_303 ?_
    refine zb_top (y := nI (16 * x)) (pk_mul 16 _) ?_
    refine zb_iload d_Mo_reach_304 rfl ?_
    refine zb_iadd d_Mo_reach_306 ?_
    refine zb_top (y := nI (16 * x + y)) (nI_add _ _) ?_
    refine zb_zaldN (j := (16 * x + y)) d_Mo_reach_307 (by omega) ?_
    refine zb_if_eq (tgt := 329) d_Mo_reach_308 rfl (fun h308 => ?_) (fun h308 => ?_)
    · refine zb_iinc (v := nI (y + 1)) (lv' := [(5, .int (nI (y + 1))), (4, .int (nI x)), (0, .ref (zad G 30)), (1, .int (nI r)), (2, .int (nI a))]) d_Mo_reach_329 rfl (nI_1 y) (by decide) rfl ?_
      refine zb_goto (tgt := 288) d_Mo_reach_332 rfl ?_
      refine zb_sub [0, 1, 2, 3, 4] rfl ?_
      exact ih (y + 1) _ (by omega) (by rw [hz.2.1 34 (by decide)] at h308; rw [gq_n hlt h308] at hz; exact hz)
    · refine zb_aload_n d_Mo_reach_311 rfl rfl ?_
      refine zm_made d_Mo_reach_312 fl_Mo_21 ?_
      refine zb_sipush (v := 256) d_Mo_reach_315 rfl ?_
      refine zb_iload d_Mo_reach_318 rfl ?_
      refine zb_imul d_Mo_reach_320 ?_
      refine zb_top (y := nI (256 * x)) (pk_mul 256 _) ?_
      refine zb_bipush (v := 16) d_Mo_reach_321 rfl ?_
      refine zb_iload d_Mo_reach_323 rfl ?_
      refine zb_imul d_Mo_reach_325 ?_
      refine zb_top (y := nI (16 * y)) (pk_mul 16 _) ?_
      refine zb_iadd d_Mo_reach_326 ?_
      refine zb_top (y := nI (256 * x + 16 * y)) (nI_add _ _) ?_
      refine zb_iconst (v := 1) d_Mo_reach_327 rfl ?_
      refine zb_iastN (q := 33) (j := (256 * x + 16 * y)) d_Mo_reach_328 (ia33) (show 256 * x + 16 * y < 4096 by omega) ?_
      refine zb_iinc (v := nI (y + 1)) (lv' := [(5, .int (nI (y + 1))), (4, .int (nI x)), (0, .ref (zad G 30)), (1, .int (nI r)), (2, .int (nI a))]) d_Mo_reach_329 rfl (nI_1 y) (by decide) rfl ?_
      refine zb_goto (tgt := 288) d_Mo_reach_332 rfl ?_
      refine zb_sub [0, 1, 2, 3, 4] rfl ?_
      exact ih (y + 1) _ (by omega) (by rw [hz.2.1 34 (by decide)] at h308; have h9 := zo_s hz (256 * x + 16 * y) 1; rw [gq_y hx hlt h308] at h9; exact h9)
set_option maxHeartbeats 4000000 in
set_option maxRecDepth 100000 in
theorem lp_way8 (l : Launch) (G : zG) {σ : zS} {r a : Nat} {Fin : List Frame → Array Value → State → State → Prop} (K : ∀ τ : zS, zo σ τ (gq (σ.1 34) 256) → zB l G w_Mo_reach R_Mo c_Mo_reach 8 (some .int) [] (zrm 2 60) Fin 0 0 341 [(4, .int (nI 16)), (0, .ref (zad G 30)), (1, .int (nI r)), (2, .int (nI a))] [] τ) : ∀ (d x : Nat) (τ : zS), x + d = 16 → zo σ τ (gq (σ.1 34) (16 * x)) → zB l G w_Mo_reach R_Mo c_Mo_reach 8 (some .int) [] (zrm 2 60) Fin 0 0 278 [(4, .int (nI x)), (0, .ref (zad G 30)), (1, .int (nI r)), (2, .int (nI a))] [] τ := by
  intro d
  induction d with
  | zero =>
    intro x τ hi hz
    have e : x = 16 := by omega
    refine zb_iload d_Mo_reach_278 rfl ?_
    refine zb_bipush (v := 16) d_Mo_reach_280 rfl ?_
    refine zb_icmp_ge (tgt := 341) d_Mo_reach_282 rfl (fun h282 => ?_) (fun h282 => absurd (nI_le (a := 16) (b := x) (by omega) (by omega)) h282)
    refine zb_sub [0, 1, 2, 3] rfl ?_
    rw [e] at hz ⊢
    exact K τ hz
  | succ d ih =>
    intro x τ hi hz
    have hlt : x < 16 := by omega
    refine zb_iload d_Mo_reach_278 rfl ?_
    refine zb_bipush (v := 16) d_Mo_reach_280 rfl ?_
    refine zb_icmp_ge (tgt := 341) d_Mo_reach_282 rfl (fun h282 => absurd h282 (nI_ge (a := x) (b := 16) (by omega) (by omega))) (fun h282 => ?_)
    refine zb_iconst (v := 0) d_Mo_reach_285 rfl ?_
    refine zb_istore (lv' := [(5, .int 0), (4, .int (nI x)), (0, .ref (zad G 30)), (1, .int (nI r)), (2, .int (nI a))]) d_Mo_reach_286 (by decide) rfl ?_
    refine zb_lv (lv' := [(5, .int (nI 0)), (4, .int (nI x)), (0, .ref (zad G 30)), (1, .int (nI r)), (2, .int (nI a))]) rfl ?_
    refine zb_sub [0, 1, 2, 3, 4] rfl ?_
    refine lp_way7 l G hlt (fun τ2 hz2 => ?_) 16 0 τ rfl hz
    refine zb_iinc (v := nI (x + 1)) (lv' := [(4, .int (nI (x + 1))), (5, .int (nI 16)), (0, .ref (zad G 30)), (1, .int (nI r)), (2, .int (nI a))]) d_Mo_reach_335 rfl (nI_1 x) (by decide) rfl ?_
    refine zb_goto (tgt := 278) d_Mo_reach_338 rfl ?_
    refine zb_sub [0, 2, 3, 4] rfl ?_
    exact ih (x + 1) τ2 (by omega) (by rw [Nat.mul_succ]; exact hz2)
set_option maxHeartbeats 4000000 in
set_option maxRecDepth 100000 in
theorem c_mreach_ns (l : Launch) (G : zG) {σ : zS} {x y : Int32} (h : ¬ (zgr x ∧ zgr y)) : zC l G y_Mo_reach w_Mo_reach (zrm 2 60) 0 0 [.ref (zad G 30), .int x, .int y] σ (fun v σ' => v = some (.int 0) ∧ zt σ σ' 1) := by
  refine zC_of (cc := c_Mo_reach) (nL := 8) (ret := (some .int)) (own := R_Mo) (by decide +kernel) rfl rfl (Nat.le_of_ble_eq_true rfl) ?_
  refine zb_lv (lv' := [(0, .ref (zad G 30)), (1, .int x), (2, .int y)]) rfl ?_
  by_cases hx : zgr x
  · obtain ⟨r, hr, rfl⟩ := hx
    refine zb_aload_n d_Mo_reach_0 rfl rfl ?_
    refine zb_iload_n d_Mo_reach_1 rfl rfl ?_
    refine zb_callV (rest := []) (c_none_n l G hr) (lk_Mo_36.cw rfl rfl ⟨Nat.le_of_ble_eq_true rfl, Nat.le_of_ble_eq_true rfl⟩) zgM rfl rfl rfl rfl (Nat.le_of_ble_eq_true rfl) d_Mo_reach_2 ⟨Nat.le_of_ble_eq_true rfl, Nat.le_of_ble_eq_true rfl⟩ ?_
    rintro _ _ ⟨rfl, y1⟩
    rename_i σ1
    have z1 : zt σ σ1 0 := y1
    refine zb_st (st' := [.int 0]) rfl ?_
    refine zb_if_ne (tgt := 39) d_Mo_reach_5 rfl (fun h5 => absurd h5 (fun z => z rfl)) (fun h5 => ?_)
    by_cases hy : zgr y
    · exact absurd ⟨⟨r, hr, rfl⟩, hy⟩ h
    · refine zb_aload_n d_Mo_reach_8 rfl rfl ?_
      refine zb_iload_n d_Mo_reach_9 rfl rfl ?_
      refine zb_callV (rest := []) (c_none_y l G hy) (lk_Mo_36.cw rfl rfl ⟨Nat.le_of_ble_eq_true rfl, Nat.le_of_ble_eq_true rfl⟩) zgM rfl rfl rfl rfl (Nat.le_of_ble_eq_true rfl) d_Mo_reach_10 ⟨Nat.le_of_ble_eq_true rfl, Nat.le_of_ble_eq_true rfl⟩ ?_
      rintro _ _ ⟨rfl, y9⟩
      rename_i σ9
      refine zb_st (st' := [.int 1]) rfl ?_
      refine zb_if_ne (tgt := 39) d_Mo_reach_13 rfl (fun h13 => ?_) (fun h13 => absurd h13 (by decide))
      refine zb_iconst (v := 0) d_Mo_reach_39 rfl ?_
      exact zb_iret d_Mo_reach_40 rfl ⟨rfl, z1.tr y9⟩
  · refine zb_aload_n d_Mo_reach_0 rfl rfl ?_
    refine zb_iload_n d_Mo_reach_1 rfl rfl ?_
    refine zb_callV (rest := []) (c_none_y l G hx) (lk_Mo_36.cw rfl rfl ⟨Nat.le_of_ble_eq_true rfl, Nat.le_of_ble_eq_true rfl⟩) zgM rfl rfl rfl rfl (Nat.le_of_ble_eq_true rfl) d_Mo_reach_2 ⟨Nat.le_of_ble_eq_true rfl, Nat.le_of_ble_eq_true rfl⟩ ?_
    rintro _ _ ⟨rfl, y9⟩
    rename_i σ9
    refine zb_st (st' := [.int 1]) rfl ?_
    refine zb_if_ne (tgt := 39) d_Mo_reach_5 rfl (fun h5 => ?_) (fun h5 => absurd h5 (by decide))
    refine zb_iconst (v := 0) d_Mo_reach_39 rfl ?_
    exact zb_iret d_Mo_reach_40 rfl ⟨rfl, y9⟩
set_option maxHeartbeats 4000000 in
set_option maxRecDepth 100000 in
theorem c_mreach_ia (l : Launch) (G : zG) {σ : zS} {r a : Nat} {M : Nat → Nat → Int32} {w : Nat → Nat} (hm : zmw σ M w) (hr : r < 8) (ha : a < 8) (h3 : w a ≤ 3) (h : w a ≠ 2) : zC l G y_Mo_reach w_Mo_reach (zrm 2 60) 0 0 [.ref (zad G 30), .int (nI r), .int (nI a)] σ (fun v σ' => v = some (.int 0) ∧ zt σ σ' 2) := by
  refine zC_of (cc := c_Mo_reach) (nL := 8) (ret := (some .int)) (own := R_Mo) (by decide +kernel) rfl rfl (Nat.le_of_ble_eq_true rfl) ?_
  refine zb_lv (lv' := [(0, .ref (zad G 30)), (1, .int (nI r)), (2, .int (nI a))]) rfl ?_
  refine zb_aload_n d_Mo_reach_0 rfl rfl ?_
  refine zb_iload_n d_Mo_reach_1 rfl rfl ?_
  refine zb_callV (rest := []) (c_none_n l G hr) (lk_Mo_36.cw rfl rfl ⟨Nat.le_of_ble_eq_true rfl, Nat.le_of_ble_eq_true rfl⟩) zgM rfl rfl rfl rfl (Nat.le_of_ble_eq_true rfl) d_Mo_reach_2 ⟨Nat.le_of_ble_eq_true rfl, Nat.le_of_ble_eq_true rfl⟩ ?_
  rintro _ _ ⟨rfl, y1⟩
  rename_i σ1
  have z1 : zt σ σ1 0 := y1
  refine zb_st (st' := [.int 0]) rfl ?_
  refine zb_if_ne (tgt := 39) d_Mo_reach_5 rfl (fun h5 => absurd h5 (fun z => z rfl)) (fun h5 => ?_)
  refine zb_aload_n d_Mo_reach_8 rfl rfl ?_
  refine zb_iload_n d_Mo_reach_9 rfl rfl ?_
  refine zb_callV (rest := []) (c_none_n l G ha) (lk_Mo_36.cw rfl rfl ⟨Nat.le_of_ble_eq_true rfl, Nat.le_of_ble_eq_true rfl⟩) zgM rfl rfl rfl rfl (Nat.le_of_ble_eq_true rfl) d_Mo_reach_10 ⟨Nat.le_of_ble_eq_true rfl, Nat.le_of_ble_eq_true rfl⟩ ?_
  rintro _ _ ⟨rfl, y2⟩
  rename_i σ2
  have z2 : zt σ σ2 0 := z1.tr y2
  refine zb_st (st' := [.int 0]) rfl ?_
  refine zb_if_ne (tgt := 39) d_Mo_reach_13 rfl (fun h13 => absurd h13 (fun z => z rfl)) (fun h13 => ?_)
  refine zb_aload_n d_Mo_reach_16 rfl rfl ?_
  refine zb_iconst (v := 2) d_Mo_reach_17 rfl ?_
  refine zb_aload_n d_Mo_reach_18 rfl rfl ?_
  refine zm_width d_Mo_reach_19 fl_Mo_13 ?_
  refine zb_iload_n d_Mo_reach_22 rfl rfl ?_
  refine zb_ialdN (q := 31) (j := a) d_Mo_reach_23 (ia31) (show a < 8 from ha) ?_
  refine zb_top (y := nI (w a)) ((z2.mw hm).1 a ha) ?_
  refine zb_iconst (v := 2) d_Mo_reach_24 rfl ?_
  refine zb_icmp_eq (tgt := 32) d_Mo_reach_25 rfl (fun h25 => absurd h25 (fun z => h ((nI_eq (b := 2) (by omega) (by decide)).mp z))) (fun h25 => ?_)
  refine zb_iconst (v := 1) d_Mo_reach_28 rfl ?_
  refine zb_goto (tgt := 33) d_Mo_reach_29 rfl ?_
  refine zb_callV (rest := []) (c_refuse_y l G) (lk_Mo_28.cw rfl rfl ⟨Nat.le_of_ble_eq_true rfl, Nat.le_of_ble_eq_true rfl⟩) zgM rfl rfl rfl rfl (Nat.le_of_ble_eq_true rfl) d_Mo_reach_33 ⟨Nat.le_of_ble_eq_true rfl, Nat.le_of_ble_eq_true rfl⟩ ?_
  rintro _ _ ⟨rfl, y9⟩
  rename_i σ9
  refine zb_st (st' := [.int 1]) rfl ?_
  refine zb_if_eq (tgt := 41) d_Mo_reach_36 rfl (fun h36 => absurd h36 (by decide)) (fun h36 => ?_)
  refine zb_iconst (v := 0) d_Mo_reach_39 rfl ?_
  exact zb_iret d_Mo_reach_40 rfl ⟨rfl, z2.tr y9⟩
set_option maxHeartbeats 4000000 in
set_option maxRecDepth 100000 in
/-- reach(to, a) -/
theorem c_mreach (l : Launch) (G : zG) {σ : zS} {r a : Nat} {D : Nat → Int32} {M : Nat → Nat → Int32} {w : Nat → Nat} (hm : zmw σ M w) (hr : r < 8) (ha : a < 8) (h2 : w a = 2) (hD : zrch (M a) D) (hn : zct D 4096 ≤ 300) : zC l G y_Mo_reach w_Mo_reach (zrm 2 60) 0 0 [.ref (zad G 30), .int (nI r), .int (nI a)] σ (fun v σ' => v = some (.int (nI (zct D 4096))) ∧ σ'.1 30 0 = 0 ∧ zmw σ' (uM M r D) (uM w r 2) ∧ zj σ σ') := by
  refine zC_of (cc := c_Mo_reach) (nL := 8) (ret := (some .int)) (own := R_Mo) (by decide +kernel) rfl rfl (Nat.le_of_ble_eq_true rfl) ?_
  refine zb_lv (lv' := [(0, .ref (zad G 30)), (1, .int (nI r)), (2, .int (nI a))]) rfl ?_
  refine zb_aload_n d_Mo_reach_0 rfl rfl ?_
  refine zb_iload_n d_Mo_reach_1 rfl rfl ?_
  refine zb_callV (rest := []) (c_none_n l G hr) (lk_Mo_36.cw rfl rfl ⟨Nat.le_of_ble_eq_true rfl, Nat.le_of_ble_eq_true rfl⟩) zgM rfl rfl rfl rfl (Nat.le_of_ble_eq_true rfl) d_Mo_reach_2 ⟨Nat.le_of_ble_eq_true rfl, Nat.le_of_ble_eq_true rfl⟩ ?_
  rintro _ _ ⟨rfl, y1⟩
  rename_i σ1
  have z1 : zt σ σ1 0 := y1
  refine zb_st (st' := [.int 0]) rfl ?_
  refine zb_if_ne (tgt := 39) d_Mo_reach_5 rfl (fun h5 => absurd h5 (fun z => z rfl)) (fun h5 => ?_)
  refine zb_aload_n d_Mo_reach_8 rfl rfl ?_
  refine zb_iload_n d_Mo_reach_9 rfl rfl ?_
  refine zb_callV (rest := []) (c_none_n l G ha) (lk_Mo_36.cw rfl rfl ⟨Nat.le_of_ble_eq_true rfl, Nat.le_of_ble_eq_true rfl⟩) zgM rfl rfl rfl rfl (Nat.le_of_ble_eq_true rfl) d_Mo_reach_10 ⟨Nat.le_of_ble_eq_true rfl, Nat.le_of_ble_eq_true rfl⟩ ?_
  rintro _ _ ⟨rfl, y2⟩
  rename_i σ2
  have z2 : zt σ σ2 0 := z1.tr y2
  refine zb_st (st' := [.int 0]) rfl ?_
  refine zb_if_ne (tgt := 39) d_Mo_reach_13 rfl (fun h13 => absurd h13 (fun z => z rfl)) (fun h13 => ?_)
  refine zb_aload_n d_Mo_reach_16 rfl rfl ?_
  refine zb_iconst (v := 2) d_Mo_reach_17 rfl ?_
  refine zb_aload_n d_Mo_reach_18 rfl rfl ?_
  refine zm_width d_Mo_reach_19 fl_Mo_13 ?_
  refine zb_iload_n d_Mo_reach_22 rfl rfl ?_
  refine zb_ialdN (q := 31) (j := a) d_Mo_reach_23 (ia31) (show a < 8 from ha) ?_
  refine zb_top (y := nI (w a)) ((z2.mw hm).1 a ha) ?_
  refine zb_iconst (v := 2) d_Mo_reach_24 rfl ?_
  refine zb_icmp_eq (tgt := 32) d_Mo_reach_25 rfl (fun h25 => ?_) (fun h25 => absurd (by rw [h2]; rfl) h25)
  refine zb_iconst (v := 0) d_Mo_reach_32 rfl ?_
  refine zb_callV (rest := []) (c_refuse_n l G) (lk_Mo_28.cw rfl rfl ⟨Nat.le_of_ble_eq_true rfl, Nat.le_of_ble_eq_true rfl⟩) zgM rfl rfl rfl rfl (Nat.le_of_ble_eq_true rfl) d_Mo_reach_33 ⟨Nat.le_of_ble_eq_true rfl, Nat.le_of_ble_eq_true rfl⟩ ?_
  rintro _ _ ⟨rfl, rfl⟩
  refine zb_st (st' := [.int 0]) rfl ?_
  refine zb_if_eq (tgt := 41) d_Mo_reach_36 rfl (fun h36 => ?_) (fun h36 => absurd rfl h36)
  refine zb_iconst (v := 0) d_Mo_reach_41 rfl ?_
  refine zb_istore_n (lv' := [(3, .int 0), (0, .ref (zad G 30)), (1, .int (nI r)), (2, .int (nI a))]) d_Mo_reach_42 rfl (by decide) rfl ?_
  refine zb_lv (lv' := [(3, .int (nI 0)), (0, .ref (zad G 30)), (1, .int (nI r)), (2, .int (nI a))]) rfl ?_
  refine zb_sub [0, 1, 2, 3] rfl ?_
  have hmk := z2.mw hm
  refine lp_way2 l G hmk ha (fun τ hf hw0 => ?_) 16 0 _ rfl (z34.rf _) (fun x y _ _ q => absurd q (Nat.not_lt_zero _))
  refine zb_iconst (v := 1) d_Mo_reach_107 rfl ?_
  refine zb_istore_n (lv' := [(3, .int 1), (0, .ref (zad G 30)), (1, .int (nI r)), (2, .int (nI a))]) d_Mo_reach_108 rfl (by decide) rfl ?_
  have hbt : bits (τ.1 34) 256 := fun j hj => by
    have q := hw0 (j / 16) (j % 16) (by omega) (by omega) (by omega)
    rw [show 16 * (j / 16) + j % 16 = j by omega] at q
    exact q.elim (fun z => Or.inr z.1) (fun z => Or.inl z.1)
  have hE : ∀ x y, x < 16 → y < 16 → (τ.1 34 (16 * x + y) ≠ 0 ↔ M a (256 * x + 16 * y) ≠ 0) := fun x y hx hy => by
    rcases hw0 x y hx hy (by omega) with q | q
    · exact ⟨fun _ => q.2, fun _ => by rw [q.1]; decide⟩
    · exact ⟨fun z => absurd q.1 z, fun z => absurd q.2 z⟩
  refine zb_sub [0, 1, 2, 3] rfl ?_
  refine lp_way6 l G (σ := σ2) (T := ws (fun x y => M a (256 * x + 16 * y) ≠ 0) 16) (r0 := τ.1 34) (fun x y z _ _ hz => ws_tr _ 16 x y z hz) (fun τ2 hf2 hb2 h02 hU2 hC2 => ?_) 257 τ (by omega) hf hbt (fun _ q => q) (fun x y hx hy q => ws_E 16 ((hE x y hx hy).mp q))
  have hR : zrch (M a) (gq (τ2.1 34) 256) := gq_rch (fun x y hx hy => ⟨hU2 x y hx hy, ws_in (Q := fun x y => τ2.1 34 (16 * x + y) ≠ 0) (N := 16) (fun x y hx hy q => h02 _ ((hE x y hx hy).mpr q)) (fun x y z hx hy hz => hC2 x y z hx hy hz (by omega)) 16 (Nat.le_refl _) x y hx hy⟩)
  refine zb_aload_n d_Mo_reach_271 rfl rfl ?_
  refine zb_callV (rest := []) (c_begin l G) (lk_Mo_52.cw rfl rfl ⟨Nat.le_of_ble_eq_true rfl, Nat.le_of_ble_eq_true rfl⟩) zgM rfl rfl rfl rfl (Nat.le_of_ble_eq_true rfl) d_Mo_reach_272 ⟨Nat.le_of_ble_eq_true rfl, Nat.le_of_ble_eq_true rfl⟩ ?_
  rintro _ _ ⟨rfl, hb0⟩
  rename_i σb
  refine zb_st (st' := []) rfl ?_
  refine zb_iconst (v := 0) d_Mo_reach_275 rfl ?_
  refine zb_istore (lv' := [(4, .int 0), (3, .int 0), (0, .ref (zad G 30)), (1, .int (nI r)), (2, .int (nI a))]) d_Mo_reach_276 (by decide) rfl ?_
  refine zb_lv (lv' := [(4, .int (nI 0)), (3, .int 0), (0, .ref (zad G 30)), (1, .int (nI r)), (2, .int (nI a))]) rfl ?_
  refine zb_sub [0, 2, 3, 4] rfl ?_
  refine lp_way8 l G (σ := τ2) (fun τ3 hz => ?_) 16 0 _ rfl (by rw [show gq (τ2.1 34) (16 * 0) = (fun _ => 0) from funext fun t => if_neg (fun z => by omega)]; exact hb0)
  rw [zrch_u hR hD] at hz
  refine zb_aload_n d_Mo_reach_341 rfl rfl ?_
  refine zb_iload_n d_Mo_reach_342 rfl rfl ?_
  refine zb_iconst (v := 2) d_Mo_reach_343 rfl ?_
  refine zb_iconst (v := 3) d_Mo_reach_344 rfl ?_
  refine zb_callV (rest := []) (c_keep_y l G (D := D) (u := 2) (hz.mw (hf2.mw hmk)) hr hz.1 hn) (lk_Mo_58.cw rfl rfl ⟨Nat.le_of_ble_eq_true rfl, Nat.le_of_ble_eq_true rfl⟩) zgM rfl rfl rfl rfl (Nat.le_of_ble_eq_true rfl) d_Mo_reach_345 ⟨Nat.le_of_ble_eq_true rfl, Nat.le_of_ble_eq_true rfl⟩ ?_
  rintro _ _ ⟨rfl, k1, k2, k3⟩
  rename_i σ9
  refine zb_st (st' := [.int (nI (zct D 4096))]) rfl ?_
  exact zb_iret d_Mo_reach_348 rfl ⟨rfl, by rw [k3, hz.2.1 30 (by decide), hf2.1 30 (by decide)]; exact z2.1, k1, z2.j.tr (hf2.j.tr (hz.j.tr k2))⟩
