/-! THE SHELF: its eight relations and the spare one, each with its rows apart; M r: the counts of relation r, w r: its width -/
def uM {α : Type} (M : Nat → α) (r : Nat) (m : α) : Nat → α := fun k => if k = r then m else M k
theorem uM_s {α : Type} (M : Nat → α) (r : Nat) (m : α) : uM M r m r = m := if_pos rfl
theorem uM_n {α : Type} (M : Nat → α) {r k : Nat} (m : α) (h : k ≠ r) : uM M r m k = M k := if_neg h
def zok (σ : zS) (q u : Nat) (m : Nat → Int32) : Prop := σ.1 q 0 = nI u ∧ 1 ≤ u ∧ u ≤ 3 ∧ (∃ n, zr σ q n m) ∧ ∀ t, m t ≠ 0 → t % 2 ^ (12 - 4 * u) = 0
def zwf (σ : zS) (M : Nat → Nat → Int32) (w : Nat → Nat) : Prop :=
  (zrl (zN (σ.1 0 0)) ∧ ∀ r, r < 8 → zrl (zN (σ.1 1 r)) ∧ zN (σ.1 1 r) ≠ zN (σ.1 0 0)) ∧
  (∀ r r', r < 8 → r' < 8 → zN (σ.1 1 r) = zN (σ.1 1 r') → r = r') ∧ ∀ r, r < 8 → zok σ (zN (σ.1 1 r)) (w r) (M r)
/-- what no method of the shelf touches -/
def zk (σ σ' : zS) : Prop := (∀ q, 30 ≤ q → σ'.1 q = σ.1 q) ∧ σ'.2 = σ.2
theorem zk.rf (σ : zS) : zk σ σ := ⟨fun _ _ => rfl, rfl⟩
theorem zk.tr {a b c : zS} (h : zk a b) (h2 : zk b c) : zk a c := ⟨fun q hq => (h2.1 q hq).trans (h.1 q hq), h2.2.trans h.2⟩
theorem zf.k {σ σ' : zS} {q : Nat} (hq : zrl q) (h : zf σ σ' q) : zk σ σ' := ⟨fun k hk => h.1 k (by have := hq.2.1; omega) (by have := hq; unfold zrl at this; omega) (by have := hq; unfold zrl at this; omega), h.2.1⟩
theorem zwf.rl {σ : zS} {M : Nat → Nat → Int32} {w : Nat → Nat} (h : zwf σ M w) {r : Nat} (hr : r < 8) : zrl (zN (σ.1 1 r)) := (h.1.2 r hr).1
theorem zwf.sp {σ : zS} {M : Nat → Nat → Int32} {w : Nat → Nat} (h : zwf σ M w) : zrl (zN (σ.1 0 0)) := h.1.1
theorem zwf.at {σ : zS} {M : Nat → Nat → Int32} {w : Nat → Nat} (h : zwf σ M w) {r : Nat} (hr : r < 8) : zok σ (zN (σ.1 1 r)) (w r) (M r) := h.2.2 r hr
theorem zrl.apart {a b : Nat} (ha : zrl a) (hb : zrl b) (h : a ≠ b) : a ≠ b ∧ a ≠ b + 1 ∧ a ≠ b + 2 ∧ a + 1 ≠ b ∧ a + 1 ≠ b + 1 ∧ a + 1 ≠ b + 2 ∧ a + 2 ≠ b ∧ a + 2 ≠ b + 1 ∧ a + 2 ≠ b + 2 := by
  unfold zrl at ha hb
  omega
theorem zr.same {σ σ' : zS} {q n : Nat} {m : Nat → Int32} (h : zr σ q n m) (h0 : σ'.1 q = σ.1 q) (h1 : σ'.1 (q + 1) = σ.1 (q + 1)) (h2 : σ'.1 (q + 2) = σ.1 (q + 2)) : zr σ' q n m := ⟨h.1, by rw [h0]; exact h.2.1, by rw [h1, h2]; exact h.2.2⟩
theorem zok.same {σ σ' : zS} {q u : Nat} {m : Nat → Int32} (h : zok σ q u m) (h0 : σ'.1 q = σ.1 q) (h1 : σ'.1 (q + 1) = σ.1 (q + 1)) (h2 : σ'.1 (q + 2) = σ.1 (q + 2)) : zok σ' q u m := by
  obtain ⟨a, b, c, ⟨n, d⟩, e⟩ := h
  exact ⟨by rw [h0]; exact a, b, c, ⟨n, d.same h0 h1 h2⟩, e⟩
/-- relation r is changed, all else stays -/
theorem zwf_set {σ σ' : zS} {M : Nat → Nat → Int32} {w : Nat → Nat} {r u : Nat} {m' : Nat → Int32} (h : zwf σ M w) (hr : r < 8) (hf : ∀ k, k ≠ zN (σ.1 1 r) → k ≠ zN (σ.1 1 r) + 1 → k ≠ zN (σ.1 1 r) + 2 → σ'.1 k = σ.1 k) (hz : zok σ' (zN (σ.1 1 r)) u m') : zwf σ' (uM M r m') (uM w r u) := by
  have hq := h.rl hr
  have e0 : σ'.1 0 = σ.1 0 := hf 0 (by have := hq.1; omega) (by omega) (by omega)
  have e1 : σ'.1 1 = σ.1 1 := hf 1 (by have := hq.1; omega) (by have := hq.1; omega) (by omega)
  refine ⟨?_, ?_, ?_⟩
  · rw [e0, e1]; exact h.1
  · rw [e1]; exact h.2.1
  · intro k hk
    rw [e1]
    by_cases e : k = r
    · subst e
      rw [uM_s, uM_s]
      exact hz
    · rw [uM_n _ _ e, uM_n _ _ e]
      have a := (h.rl hk).apart hq (fun z => e (h.2.1 k r hk hr z))
      exact (h.at hk).same (hf _ a.1 a.2.1 a.2.2.1) (hf _ a.2.2.2.1 a.2.2.2.2.1 a.2.2.2.2.2.1) (hf _ a.2.2.2.2.2.2.1 a.2.2.2.2.2.2.2.1 a.2.2.2.2.2.2.2.2)
/-- the spare relation is changed -/
theorem zwf_spare {σ σ' : zS} {M : Nat → Nat → Int32} {w : Nat → Nat} (h : zwf σ M w) (hf : ∀ k, k ≠ zN (σ.1 0 0) → k ≠ zN (σ.1 0 0) + 1 → k ≠ zN (σ.1 0 0) + 2 → k ≤ 28 → σ'.1 k = σ.1 k) : zwf σ' M w := by
  have hq := h.sp
  have e0 : σ'.1 0 = σ.1 0 := hf 0 (by have := hq.1; omega) (by omega) (by omega) (by omega)
  have e1 : σ'.1 1 = σ.1 1 := hf 1 (by have := hq.1; omega) (by have := hq.1; omega) (by omega) (by omega)
  refine ⟨?_, ?_, ?_⟩
  · rw [e0, e1]; exact h.1
  · rw [e1]; exact h.2.1
  · intro k hk
    rw [e1]
    have a := (h.rl hk).apart hq (h.1.2 k hk).2
    have b := h.rl hk
    unfold zrl at b
    exact (h.at hk).same (hf _ a.1 a.2.1 a.2.2.1 (by omega)) (hf _ a.2.2.2.1 a.2.2.2.2.1 a.2.2.2.2.2.1 (by omega)) (hf _ a.2.2.2.2.2.2.1 a.2.2.2.2.2.2.2.1 a.2.2.2.2.2.2.2.2 (by omega))
/-- the spare relation becomes relation r -/
theorem zwf_swap {σ σ' : zS} {M : Nat → Nat → Int32} {w : Nat → Nat} {r u : Nat} {m' : Nat → Int32} (h : zwf σ M w) (hr : r < 8) (hz : zok σ (zN (σ.1 0 0)) u m') (h0 : σ'.1 0 0 = nI (zN (σ.1 1 r))) (h1 : σ'.1 1 = upd (σ.1 1) r (nI (zN (σ.1 0 0)))) (hf : ∀ q, q ≠ 0 → q ≠ 1 → σ'.1 q = σ.1 q) : zwf σ' (uM M r m') (uM w r u) := by
  have hq := h.sp
  have hp := h.rl hr
  have z0 : zN (σ'.1 0 0) = zN (σ.1 1 r) := by rw [h0]; exact nI_clamp (by have := hp.lt; omega)
  have zs : zN (nI (zN (σ.1 0 0))) = zN (σ.1 0 0) := nI_clamp (by have := hq.lt; omega)
  have z1 : ∀ k, zN (σ'.1 1 k) = if k = r then zN (σ.1 0 0) else zN (σ.1 1 k) := by
    intro k
    rw [h1]
    by_cases e : k = r
    · subst e; rw [pk_us, if_pos rfl]; exact zs
    · rw [pk_un e, if_neg e]
  refine ⟨⟨by rw [z0]; exact hp, fun k hk => ?_⟩, fun a b ha hb hab => ?_, fun k hk => ?_⟩
  · rw [z0, z1]
    by_cases e : k = r
    · subst e; rw [if_pos rfl]; exact ⟨hq, fun z => (h.1.2 k hk).2 z.symm⟩
    · rw [if_neg e]; exact ⟨h.rl hk, fun z => e (h.2.1 k r hk hr z)⟩
  · rw [z1, z1] at hab
    by_cases e : a = r
    · by_cases e2 : b = r
      · rw [e, e2]
      · rw [if_pos e, if_neg e2] at hab
        exact absurd hab.symm (h.1.2 b hb).2
    · by_cases e2 : b = r
      · rw [if_neg e, if_pos e2] at hab
        exact absurd hab (h.1.2 a ha).2
      · rw [if_neg e, if_neg e2] at hab
        exact h.2.1 a b ha hb hab
  · rw [z1]
    have nn : ∀ {q : Nat}, zrl q → q ≠ 0 ∧ q ≠ 1 ∧ q + 1 ≠ 0 ∧ q + 1 ≠ 1 ∧ q + 2 ≠ 0 ∧ q + 2 ≠ 1 := fun h => by unfold zrl at h; omega
    by_cases e : k = r
    · subst e
      rw [if_pos rfl, uM_s, uM_s]
      obtain ⟨a, b, c, d, e, f⟩ := nn hq
      exact hz.same (hf _ a b) (hf _ c d) (hf _ e f)
    · rw [if_neg e, uM_n _ _ e, uM_n _ _ e]
      obtain ⟨a, b, c, d, e, f⟩ := nn (h.rl hk)
      exact (h.at hk).same (hf _ a b) (hf _ c d) (hf _ e f)
