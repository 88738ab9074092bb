theorem zC.mono {l : Launch} {G : zG} {y : MethodName} {ws : List Cond} {rm : Room} {mc ms : Nat} {as : List Value} {σ : zS} {φ φ' : Option Value → zS → Prop} (h : zC l G y ws rm mc ms as σ φ) (hh : ∀ v σ', φ v σ' → φ' v σ') : zC l G y ws rm mc ms as σ φ' := by
  intro p e h1 h2 h3 s m args below h4 h5 h6 h7
  obtain ⟨n, o, a1, a2, a3, ⟨v, σ', b1, b2, b3⟩, a5⟩ := h p e h1 h2 h3 s m args below h4 h5 h6 h7
  exact ⟨n, o, a1, a2, a3, ⟨v, σ', b1, hh v σ' b2, b3⟩, a5⟩
theorem c_raise_y (l : Launch) (G : zG) {σ : zS} {q n t : Nat} {m : Nat → Int32} {x : Int32} (h : zr σ q n m) (ht : t < 4096) (hc : m t ≠ 0 ∨ x = 0 ∨ n < 300) : zC l G y_Rel_raise w_Rel_raise (zrm 3 120) 0 0 [.ref (zad G q), .int (nI t), .int x] σ (fun v σ' => v = some (.int 1) ∧ ∃ n' : Nat, zr σ' q n' (upd m t (m t + x)) ∧ zf σ σ' q) :=
  (c_raise l G h ht).mono (fun v σ' h => h.1 hc)
theorem c_raise_n (l : Launch) (G : zG) {σ : zS} {q n t : Nat} {m : Nat → Int32} {x : Int32} (h : zr σ q n m) (ht : t < 4096) (hc : ¬ (m t ≠ 0 ∨ x = 0 ∨ n < 300)) : zC l G y_Rel_raise w_Rel_raise (zrm 3 120) 0 0 [.ref (zad G q), .int (nI t), .int x] σ (fun v σ' => v = some (.int 0) ∧ σ = σ') :=
  (c_raise l G h ht).mono (fun v σ' h => h.2 hc)
theorem c_isTuple_y (l : Launch) (G : zG) {σ : zS} {t : Int32} {w : Nat} (hw : w ≤ 3) (h : ztp t w) : zC l G y_Sh_isTuple w_Sh_isTuple (zrm 1 20) 0 0 [.int t, .int (nI w)] σ (fun v σ' => v = some (.int 1) ∧ σ = σ') := (c_isTuple l G hw).mono (fun v σ' q => ⟨q.1 h, q.2.2⟩)
theorem c_isTuple_n (l : Launch) (G : zG) {σ : zS} {t : Int32} {w : Nat} (hw : w ≤ 3) (h : ¬ ztp t w) : zC l G y_Sh_isTuple w_Sh_isTuple (zrm 1 20) 0 0 [.int t, .int (nI w)] σ (fun v σ' => v = some (.int 0) ∧ σ = σ') := (c_isTuple l G hw).mono (fun v σ' q => ⟨q.2.1 h, q.2.2⟩)
abbrev zrz (f lo c : Nat) : Room := { frames := f, cells := c, slots := 6 * c, locals := lo }
def zgw (x : Int32) : Prop := ∃ u : Nat, 1 ≤ u ∧ u ≤ 3 ∧ x = nI u
theorem zgw_of {x : Int32} (h1 : ¬ x < 1) (h3 : ¬ (3 : Int32) < x) : zgw x := by
  have h0 : ¬ x < 0 := fun z => h1 (i_tr z (by decide))
  obtain ⟨j, hj, rfl⟩ := nI_of h0
  have a := Int32.not_lt.mp h3
  have b := Int32.not_lt.mp h1
  exact ⟨j, (nI_leI (a := 1) (by decide) hj).mp b, (nI_leI (b := 3) hj (by decide)).mp a, rfl⟩
theorem zgw_lt {x : Int32} (h : zgw x) : ¬ x < 1 ∧ ¬ (3 : Int32) < x := by
  obtain ⟨u, h1, h3, rfl⟩ := h
  exact ⟨nI_nlt h1 (by omega), nI_nlt h3 (by decide)⟩
theorem uM_id {α : Type} (M : Nat → α) (r : Nat) : uM M r (M r) = M := funext fun k => by
  by_cases e : k = r
  · subst e; rw [uM_s]
  · rw [uM_n _ _ e]
theorem zp_nil (T C : Nat → Int32) : zp T C 0 (fun _ => 0) := ⟨Nat.zero_le _, fun i h => absurd h (Nat.not_lt_zero i), fun i j _ h => absurd h (Nat.not_lt_zero j), fun i h => absurd h (Nat.not_lt_zero i), fun t h => absurd rfl h⟩
theorem zr_start {σ : zS} {q : Nat} {x : Int32} (hq : zrl q) : zr (zu (zu σ q (upd (σ.1 q) 0 x)) q (upd ((zu σ q (upd (σ.1 q) 0 x)).1 q) 1 0)) q 0 (fun _ => 0) := ⟨hq, by simp [zu, upd]; rfl, zp_nil _ _⟩
theorem zk_zu (σ : zS) {q : Nat} (f : Nat → Int32) (hq : q < 30) : zk σ (zu σ q f) := ⟨fun k hk => zu_ne σ f (by omega), rfl⟩
theorem zrl.l30 {q : Nat} (h : zrl q) : q < 30 := by unfold zrl at h; omega
