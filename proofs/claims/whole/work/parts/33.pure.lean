/-! PURE: what the shelf makes and what the reference makes are the same -/
theorem i_add0 (x : Int32) : x + 0 = x := Int32.add_zero x
theorem mN_eq (k : Nat) (m : Nat → Int32) : ∀ n, fm (fB (fun t => (nar t k 3).1)) (fun _ => 0) m n = mN k m n := by
  intro n
  induction n with
  | zero => rfl
  | succ n ih =>
    rw [fm_s]
    show _ = upd (mN k m n) (nar n k 3).1 (mN k m n (nar n k 3).1 + m n)
    by_cases h : m n = 0
    · rw [if_pos h, h, i_add0, upd_id rfl, ih]
    · rw [if_neg h, ih]
      rfl
theorem fP_eq (p v : Nat) (m : Nat → Int32) : ∀ n, fm (fP p v) (fun _ => 0) m n = fun t => if t < n ∧ nu t p = v then m t else 0 := by
  intro n
  induction n with
  | zero =>
    funext t
    exact (if_neg (fun z => absurd z.1 (Nat.not_lt_zero t))).symm
  | succ n ih =>
    rw [fm_s, ih]
    funext t
    have ne : t ≠ n → ((t < n + 1 ∧ nu t p = v) ↔ (t < n ∧ nu t p = v)) := fun e => ⟨fun z => ⟨by omega, z.2⟩, fun z => ⟨by omega, z.2⟩⟩
    by_cases e : t = n
    · subst e
      by_cases h : m t = 0
      · rw [if_pos h, h]
        simp
      · rw [if_neg h]
        unfold fP
        by_cases q : nu t p = v
        · rw [if_pos q, pk_us, if_pos ⟨Nat.lt_succ_self t, q⟩]
          show (if t < t ∧ nu t p = v then m t else 0) + m t = m t
          rw [if_neg (fun z => Nat.lt_irrefl _ z.1), Int32.zero_add]
        · simp [q]
    · have k : (if t < n + 1 ∧ nu t p = v then m t else 0) = (if t < n ∧ nu t p = v then m t else 0) := by
        by_cases c : t < n ∧ nu t p = v
        · rw [if_pos c, if_pos ((ne e).mpr c)]
        · rw [if_neg c, if_neg (fun z => c ((ne e).mp z))]
      rw [k]
      by_cases h : m n = 0
      · rw [if_pos h]
      · rw [if_neg h]
        unfold fP
        by_cases q : nu n p = v
        · rw [if_pos q, pk_un e]
        · rw [if_neg q]
theorem fP_all {p v : Nat} {m : Nat → Int32} (h : ∀ t, m t ≠ 0 → t < 4096) : fm (fP p v) (fun _ => 0) m 4096 = fun t => if nu t p = v then m t else 0 := by
  rw [fP_eq]
  funext t
  by_cases ht : t < 4096
  · by_cases q : nu t p = v
    · rw [if_pos ⟨ht, q⟩, if_pos q]
    · rw [if_neg (fun z => q z.2), if_neg q]
  · have h0 : m t = 0 := Decidable.byContradiction (fun z => ht (h t z))
    rw [if_neg (fun z => ht z.1), h0]
    split <;> rfl
set_option maxRecDepth 100000 in
theorem tur_1 : chk (fun t => bif Nat.beq (t % 256) 0 then Nat.beq (tur (tur t 1 1) 1 1) t else true) 4096 = true := by decide +kernel
set_option maxRecDepth 100000 in
theorem tur_2 : chk (fun t => bif Nat.beq (t % 16) 0 then Nat.beq (tur (tur t 2 2) 2 2) t else true) 4096 = true := by decide +kernel
set_option maxRecDepth 100000 in
theorem tur_3 : chk (fun t => bif Nat.beq (t % 1) 0 then Nat.beq (tur (tur t 3 3) 3 3) t else true) 4096 = true := by decide +kernel
theorem tur_tur {t u : Nat} (h1 : 1 ≤ u) (h3 : u ≤ 3) (ht : t < 4096) (hd : t % 2 ^ (12 - 4 * u) = 0) : tur (tur t u u) u u = t := by
  have key : ∀ P Q : Nat, (bif Nat.beq (t % P) 0 then Nat.beq Q t else true) = true → t % P = 0 → Q = t := fun P Q a b => by
    rw [b] at a
    exact Nat.eq_of_beq_eq_true a
  rcases (show u = 1 ∨ u = 2 ∨ u = 3 by omega) with rfl | rfl | rfl
  · exact key _ _ (chk_at tur_1 t ht) hd
  · exact key _ _ (chk_at tur_2 t ht) hd
  · exact key _ _ (chk_at tur_3 t ht) hd
theorem mT_sup {u : Nat} {m : Nat → Int32} : ∀ n y, mT u m n y ≠ 0 → ∃ t, t < n ∧ t % 2 ^ (12 - 4 * u) = 0 ∧ tur t u u = y := by
  intro n
  induction n with
  | zero => intro y h; exact absurd rfl h
  | succ n ih =>
    intro y h
    by_cases hd : n % 2 ^ (12 - 4 * u) = 0
    · rw [show mT u m (n + 1) = upd (mT u m n) (tur n u u) (m n) from if_pos hd] at h
      by_cases e : y = tur n u u
      · exact ⟨n, Nat.lt_succ_self n, hd, e.symm⟩
      · rw [pk_un e] at h
        obtain ⟨t, a, b, c⟩ := ih y h
        exact ⟨t, Nat.lt_succ_of_lt a, b, c⟩
    · rw [show mT u m (n + 1) = mT u m n from if_neg hd] at h
      obtain ⟨t, a, b, c⟩ := ih y h
      exact ⟨t, Nat.lt_succ_of_lt a, b, c⟩
theorem mT_eq {u : Nat} {m : Nat → Int32} (h1 : 1 ≤ u) (h3 : u ≤ 3) (hm : ∀ t, m t ≠ 0 → t % 2 ^ (12 - 4 * u) = 0) : ∀ n, n ≤ 4096 → fm (fB (fun t => tur t u u)) (fun _ => 0) m n = mT u m n := by
  intro n
  induction n with
  | zero => intro _; rfl
  | succ n ih =>
    intro hn
    have ih := ih (by omega)
    rw [fm_s, ih]
    by_cases hd : n % 2 ^ (12 - 4 * u) = 0
    · rw [show mT u m (n + 1) = upd (mT u m n) (tur n u u) (m n) from if_pos hd]
      have h0 : mT u m n (tur n u u) = 0 := Decidable.byContradiction (fun z => by
        obtain ⟨t, a, b, c⟩ := mT_sup n _ z
        have e1 := tur_tur h1 h3 (show t < 4096 by omega) b
        have e2 := tur_tur h1 h3 (show n < 4096 by omega) hd
        rw [c, e2] at e1
        omega)
      by_cases h : m n = 0
      · rw [if_pos h, h, upd_id h0]
      · rw [if_neg h]
        show upd (mT u m n) (tur n u u) (mT u m n (tur n u u) + m n) = _
        rw [h0, Int32.zero_add]
    · rw [show mT u m (n + 1) = mT u m n from if_neg hd, if_pos (Decidable.byContradiction (fun z => hd (hm n z)))]
theorem zct_at {T C m : Nat → Int32} {n k : Nat} (h : zp T C n m) (hk : k < n) : zct m (zN (T k)) = k := by
  obtain ⟨p, h1, h2, h3, h4⟩ := fm_at (fun (a : Nat) _ _ => a + 1) 0 h (zN (T k))
  have e : zct m (zN (T k)) = p := h4.trans (fc_n T C p)
  rw [e]
  rcases Nat.lt_trichotomy p k with q | q | q
  · have a := h3 p (Nat.le_refl _) (by omega)
    have b := h.2.2.1 p k q hk
    omega
  · exact q
  · have := h2 k q
    omega
theorem zwf.lt {σ : zS} {M : Nat → Nat → Int32} {w : Nat → Nat} (h : zwf σ M w) {r : Nat} (hr : r < 8) : ∀ t, M r t ≠ 0 → t < 4096 := fun t ht => by
  obtain ⟨n, hn⟩ := (h.at hr).2.2.2.1
  obtain ⟨i, hi, e⟩ := hn.2.2.2.2.2.2 t ht
  rw [← e]
  exact (hn.2.2.2.1 i hi).1
theorem zwf.eqM {σ : zS} {M : Nat → Nat → Int32} {w : Nat → Nat} (h : zwf σ M w) {a b : Nat} (ha : a < 8) (hb : b < 8) : (∀ t, t < 4096 → M a t = M b t) ↔ M a = M b := by
  constructor
  · intro q
    funext t
    by_cases ht : t < 4096
    · exact q t ht
    · have h1 : M a t = 0 := Decidable.byContradiction (fun z => ht (h.lt ha t z))
      have h2 : M b t = 0 := Decidable.byContradiction (fun z => ht (h.lt hb t z))
      rw [h1, h2]
  · intro q t _; rw [q]
theorem zwf.ct {σ : zS} {M : Nat → Nat → Int32} {w : Nat → Nat} (h : zwf σ M w) {r : Nat} (hr : r < 8) : zct (M r) 4096 ≤ 300 := by
  obtain ⟨n, hn⟩ := (h.at hr).2.2.2.1
  rw [zct_eq hn.2.2]
  exact hn.2.2.1
