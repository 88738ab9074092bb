/-! PURE: joining. u and v: the widths, k: how many numbers are shared; jx, jy: the two tuples of which a joined one is made -/
theorem or_low {p d : Nat} (A c : Nat) (h : d < 2 ^ p) : (A * 2 ^ p) ||| (c * 2 ^ p + d) = (A ||| c) * 2 ^ p + d := by
  apply Nat.eq_of_testBit_eq
  intro i
  rw [Nat.testBit_or, Nat.mul_comm c, Nat.mul_comm (A ||| c), Nat.testBit_two_pow_mul_add _ h, Nat.testBit_two_pow_mul_add _ h, Nat.testBit_mul_two_pow]
  by_cases q : i < p
  · have : ¬ p ≤ i := by omega
    simp [q, this]
  · have : p ≤ i := by omega
    simp [q, this, Nat.testBit_or]
theorem or_md (A j : Nat) : A ||| (A % 2 ^ j) = A := by
  apply Nat.eq_of_testBit_eq
  intro i
  rw [Nat.testBit_or, Nat.testBit_mod_two_pow]
  cases A.testBit i <;> simp
def jok (u v k : Nat) : Prop := 1 ≤ u ∧ u ≤ 3 ∧ 1 ≤ v ∧ v ≤ 3 ∧ k ≤ u ∧ k ≤ v ∧ u + v - k ≤ 3
def jx (u t : Nat) : Nat := t / 2 ^ (12 - 4 * u) * 2 ^ (12 - 4 * u)
def jy (u k t : Nat) : Nat := t * 2 ^ (4 * (u - k)) % 4096
def jj (u k a b : Nat) : Nat := a ||| b / 2 ^ (4 * (u - k))
def jm (u v k a b : Nat) : Prop := a < 4096 ∧ a % 2 ^ (12 - 4 * u) = 0 ∧ b < 4096 ∧ b % 2 ^ (12 - 4 * v) = 0 ∧ b / 2 ^ (12 - 4 * k) = a / 2 ^ (12 - 4 * u) % 2 ^ (4 * k)
theorem jj_eq {u v k a b : Nat} (h : jok u v k) (hm : jm u v k a b) : jj u k a b = a + b / 2 ^ (4 * (u - k)) % 2 ^ (12 - 4 * u) := by
  have e1 : a = a / 2 ^ (12 - 4 * u) * 2 ^ (12 - 4 * u) := by
    have := Nat.div_add_mod a (2 ^ (12 - 4 * u))
    rw [hm.2.1, Nat.add_zero, Nat.mul_comm] at this
    exact this.symm
  have e2 : b / 2 ^ (4 * (u - k)) = a / 2 ^ (12 - 4 * u) % 2 ^ (4 * k) * 2 ^ (12 - 4 * u) + b / 2 ^ (4 * (u - k)) % 2 ^ (12 - 4 * u) := by
    rw [← hm.2.2.2.2]
    have := Nat.div_add_mod (b / 2 ^ (4 * (u - k))) (2 ^ (12 - 4 * u))
    rw [Nat.div_div_eq_div_mul, ← Nat.pow_add, show 4 * (u - k) + (12 - 4 * u) = 12 - 4 * k by unfold jok at h; omega, Nat.mul_comm] at this
    exact this.symm
  unfold jj
  rw [e2]
  conv => lhs; lhs; rw [e1]
  rw [or_low _ _ (Nat.mod_lt _ (Nat.two_pow_pos _)), or_md, ← e1]
  conv => rhs; rw [← e2]
theorem jj_in {u v k a b : Nat} (h : jok u v k) (hm : jm u v k a b) : jj u k a b < 4096 ∧ jj u k a b % 2 ^ (12 - 4 * (u + v - k)) = 0 ∧ jx u (jj u k a b) = a ∧ jy u k (jj u k a b) = b := by
  rw [jj_eq h hm]
  unfold jok at h
  unfold jm at hm
  unfold jx jy
  rcases (show u = 1 ∨ u = 2 ∨ u = 3 by omega) with rfl | rfl | rfl <;> rcases (show v = 1 ∨ v = 2 ∨ v = 3 by omega) with rfl | rfl | rfl <;> rcases (show k = 0 ∨ k = 1 ∨ k = 2 ∨ k = 3 by omega) with rfl | rfl | rfl | rfl <;> simp only [Nat.reduceMul, Nat.reduceSub, Nat.reducePow, Nat.reduceAdd] at h hm ⊢ <;> omega
theorem jm_of {u v k t : Nat} (h : jok u v k) (ht : t < 4096) (hd : t % 2 ^ (12 - 4 * (u + v - k)) = 0) : jm u v k (jx u t) (jy u k t) := by
  unfold jok at h
  unfold jm jx jy
  rcases (show u = 1 ∨ u = 2 ∨ u = 3 by omega) with rfl | rfl | rfl <;> rcases (show v = 1 ∨ v = 2 ∨ v = 3 by omega) with rfl | rfl | rfl <;> rcases (show k = 0 ∨ k = 1 ∨ k = 2 ∨ k = 3 by omega) with rfl | rfl | rfl | rfl <;> simp only [Nat.reduceMul, Nat.reduceSub, Nat.reducePow, Nat.reduceAdd] at h hd ⊢ <;> omega
theorem jj_of {u v k t : Nat} (h : jok u v k) (ht : t < 4096) (hd : t % 2 ^ (12 - 4 * (u + v - k)) = 0) : jj u k (jx u t) (jy u k t) = t := by
  rw [jj_eq h (jm_of h ht hd)]
  unfold jok at h
  unfold jx jy
  rcases (show u = 1 ∨ u = 2 ∨ u = 3 by omega) with rfl | rfl | rfl <;> rcases (show v = 1 ∨ v = 2 ∨ v = 3 by omega) with rfl | rfl | rfl <;> rcases (show k = 0 ∨ k = 1 ∨ k = 2 ∨ k = 3 by omega) with rfl | rfl | rfl | rfl <;> simp only [Nat.reduceMul, Nat.reduceSub, Nat.reducePow, Nat.reduceAdd] at h hd ⊢ <;> omega
/-- the joined relation -/
def jD (u v k : Nat) (m1 m2 : Nat → Int32) (t : Nat) : Int32 := if t < 4096 ∧ t % 2 ^ (12 - 4 * (u + v - k)) = 0 then m1 (jx u t) * m2 (jy u k t) else 0
theorem jD_ne {u v k t : Nat} {m1 m2 : Nat → Int32} (h : jD u v k m1 m2 t ≠ 0) : t < 4096 ∧ t % 2 ^ (12 - 4 * (u + v - k)) = 0 ∧ m1 (jx u t) ≠ 0 ∧ m2 (jy u k t) ≠ 0 := by
  unfold jD at h
  split at h
  · rename_i c
    exact ⟨c.1, c.2, fun e => h (by rw [e]; exact Int32.zero_mul), fun e => h (by rw [e]; exact Int32.mul_zero)⟩
  · exact absurd rfl h
theorem jD_at {u v k a b : Nat} {m1 m2 : Nat → Int32} (h : jok u v k) (hm : jm u v k a b) : jD u v k m1 m2 (jj u k a b) = m1 a * m2 b := by
  have z := jj_in h hm
  unfold jD
  rw [if_pos ⟨z.1, z.2.1⟩, z.2.2.1, z.2.2.2]
/-- S: what has been made so far -/
def inv (D m : Nat → Int32) (S : Nat → Prop) : Prop := ∀ t, (S t → m t = D t) ∧ (¬ S t → m t = 0)
theorem inv_or {D m : Nat → Int32} {S : Nat → Prop} (h : inv D m S) (t : Nat) : m t = 0 ∨ m t = D t := by
  by_cases s : S t
  · exact Or.inr ((h t).1 s)
  · exact Or.inl ((h t).2 s)
theorem inv_ext {D m : Nat → Int32} {S S' : Nat → Prop} (h : inv D m S) (e : ∀ t, D t ≠ 0 → (S t ↔ S' t)) : inv D m S' := by
  intro t
  by_cases d : D t = 0
  · have : m t = 0 := by
      rcases inv_or h t with z | z
      · exact z
      · rw [z, d]
    exact ⟨fun _ => by rw [this, d], fun _ => this⟩
  · exact ⟨fun s => (h t).1 ((e t d).mpr s), fun s => (h t).2 (fun z => s ((e t d).mp z))⟩
theorem inv_up {D m : Nat → Int32} {S : Nat → Prop} (h : inv D m S) {t0 : Nat} (h0 : ¬ S t0) : inv D (upd m t0 (m t0 + D t0)) (fun t => S t ∨ t = t0) := by
  intro t
  by_cases e : t = t0
  · subst e
    rw [pk_us, (h t).2 h0, Int32.zero_add]
    exact ⟨fun _ => rfl, fun z => absurd (Or.inr rfl) z⟩
  · rw [pk_un e]
    exact ⟨fun s => (h t).1 (s.resolve_right e), fun s => (h t).2 (fun z => s (Or.inl z))⟩
def jS1 (u : Nat) (T1 : Nat → Int32) (i t : Nat) : Prop := ∃ i', i' < i ∧ zN (T1 i') = jx u t
def jS2 (u k : Nat) (T1 T2 : Nat → Int32) (i f j t : Nat) : Prop := jS1 u T1 i t ∨ (zN (T1 i) = jx u t ∧ ∃ j', f ≤ j' ∧ j' < j ∧ zN (T2 j') = jy u k t)
theorem jS_start (u k : Nat) (T1 T2 : Nat → Int32) (i f t : Nat) : jS1 u T1 i t ↔ jS2 u k T1 T2 i f f t := ⟨Or.inl, fun h => h.elim id (fun ⟨_, j', a, b, _⟩ => by omega)⟩
/-- the places of the tuples that begin with the numbers shared -/
theorem pl_rng {T C m : Nat → Int32} {n k s f e : Nat} (h : zp T C n m) (hk : k ≤ 3) (hs : s < 2 ^ (4 * k)) (hf : pl T n (nI (s * 2 ^ (12 - 4 * k))) f) (he : pl T n (nI ((s + 1) * 2 ^ (12 - 4 * k))) e) : ∀ j, j < n → ((f ≤ j ∧ j < e) ↔ zN (T j) / 2 ^ (12 - 4 * k) = s) := by
  intro j hj
  have hb : (s + 1) * 2 ^ (12 - 4 * k) ≤ 4096 := by
    have h1 : (s + 1) * 2 ^ (12 - 4 * k) ≤ 2 ^ (4 * k) * 2 ^ (12 - 4 * k) := Nat.mul_le_mul_right _ hs
    rw [← Nat.pow_add, show 4 * k + (12 - 4 * k) = 12 by omega] at h1
    exact h1
  have hb1 : s * 2 ^ (12 - 4 * k) ≤ (s + 1) * 2 ^ (12 - 4 * k) := Nat.mul_le_mul_right _ (Nat.le_succ s)
  have a1 : (j < f ↔ zN (T j) < s * 2 ^ (12 - 4 * k)) := by
    rw [← h.lt hj (by omega)]
    exact ⟨fun z => hf.2.1 j z, fun z => Nat.not_le.mp fun y => hf.2.2 j (by omega) hj z⟩
  have a2 : (j < e ↔ zN (T j) < (s + 1) * 2 ^ (12 - 4 * k)) := by
    rw [← h.lt hj (by omega)]
    exact ⟨fun z => he.2.1 j z, fun z => Nat.not_le.mp fun y => he.2.2 j (by omega) hj z⟩
  rw [a2, ← Nat.not_lt, a1, Nat.not_lt, Nat.div_eq_iff (Nat.two_pow_pos _)]
  have := Nat.two_pow_pos (12 - 4 * k)
  have e3 : (s + 1) * 2 ^ (12 - 4 * k) = s * 2 ^ (12 - 4 * k) + 2 ^ (12 - 4 * k) := Nat.succ_mul _ _
  omega
theorem jS_step {u v k i f j n1 n2 : Nat} {T1 C1 m1 T2 C2 m2 : Nat → Int32} (h : jok u v k) (h2 : zp T2 C2 n2 m2) (hj : j < n2) (hfj : f ≤ j) (hm : jm u v k (zN (T1 i)) (zN (T2 j))) (t : Nat) (hD : jD u v k m1 m2 t ≠ 0) : (jS2 u k T1 T2 i f j t ∨ t = jj u k (zN (T1 i)) (zN (T2 j))) ↔ jS2 u k T1 T2 i f (j + 1) t := by
  have d := jD_ne hD
  have z := jj_in h hm
  constructor
  · rintro ((a | ⟨a, j', b, c, e⟩) | a)
    · exact Or.inl a
    · exact Or.inr ⟨a, j', b, Nat.lt_succ_of_lt c, e⟩
    · subst a
      exact Or.inr ⟨z.2.2.1.symm, j, hfj, Nat.lt_succ_self j, z.2.2.2.symm⟩
  · rintro (a | ⟨a, j', b, c, e⟩)
    · exact Or.inl (Or.inl a)
    · rcases Nat.lt_or_eq_of_le (Nat.le_of_lt_succ c) with q | q
      · exact Or.inl (Or.inr ⟨a, j', b, q, e⟩)
      · subst q
        refine Or.inr ?_
        rw [a, e]
        exact (jj_of h d.1 d.2.1).symm
theorem jS_new {u v k i f j n1 n2 : Nat} {T1 C1 m1 T2 C2 m2 : Nat → Int32} (h : jok u v k) (h1 : zp T1 C1 n1 m1) (h2 : zp T2 C2 n2 m2) (hi : i < n1) (hj : j < n2) (hm : jm u v k (zN (T1 i)) (zN (T2 j))) : ¬ jS2 u k T1 T2 i f j (jj u k (zN (T1 i)) (zN (T2 j))) := by
  have z := jj_in h hm
  rintro (⟨i', a, b⟩ | ⟨a, j', b, c, e⟩)
  · rw [z.2.2.1] at b
    have := h1.2.2.1 i' i a hi
    omega
  · rw [z.2.2.2] at e
    have := h2.2.2.1 j' j c hj
    omega
theorem jS_end {u v k i f e n1 n2 : Nat} {T1 C1 m1 T2 C2 m2 : Nat → Int32} (h : jok u v k) (h2 : zp T2 C2 n2 m2) (hr : ∀ j, j < n2 → ((f ≤ j ∧ j < e) ↔ zN (T2 j) / 2 ^ (12 - 4 * k) = zN (T1 i) / 2 ^ (12 - 4 * u) % 2 ^ (4 * k))) (t : Nat) (hD : jD u v k m1 m2 t ≠ 0) : jS2 u k T1 T2 i f e t ↔ jS1 u T1 (i + 1) t := by
  have d := jD_ne hD
  constructor
  · rintro (⟨i', a, b⟩ | ⟨a, _⟩)
    · exact ⟨i', Nat.lt_succ_of_lt a, b⟩
    · exact ⟨i, Nat.lt_succ_self i, a⟩
  · rintro ⟨i', a, b⟩
    rcases Nat.lt_or_eq_of_le (Nat.le_of_lt_succ a) with q | q
    · exact Or.inl ⟨i', q, b⟩
    · subst q
      obtain ⟨j, hj, ej⟩ := h2.2.2.2.2 _ d.2.2.2
      have mm := (jm_of h d.1 d.2.1).2.2.2.2
      have := (hr j hj).mpr (by rw [ej, b]; exact mm)
      exact Or.inr ⟨b, j, this.1, this.2, ej⟩
theorem jS_all {u v k n1 : Nat} {T1 C1 m1 m2 m : Nat → Int32} (h1 : zp T1 C1 n1 m1) (hi : inv (jD u v k m1 m2) m (jS1 u T1 n1)) : m = jD u v k m1 m2 := by
  funext t
  by_cases d : jD u v k m1 m2 t = 0
  · rcases inv_or hi t with z | z
    · rw [z, d]
    · exact z
  · obtain ⟨i, hi', e⟩ := h1.2.2.2.2 _ (jD_ne d).2.2.1
    exact (hi t).1 ⟨i, hi', e⟩
theorem jS_nil {D : Nat → Int32} (u : Nat) (T1 : Nat → Int32) : inv D (fun _ => 0) (jS1 u T1 0) := fun t => ⟨fun ⟨_, a, _⟩ => absurd a (Nat.not_lt_zero _), fun _ => rfl⟩
