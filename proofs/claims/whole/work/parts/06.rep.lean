/-! PURE ROWS: a relation as n tuples in order with counts (T, C), and the count of every tuple (m) -/
abbrev zN (x : Int32) : Nat := x.toNatClampNeg
def zp (T C : Nat → Int32) (n : Nat) (m : Nat → Int32) : Prop :=
  n ≤ 300 ∧ (∀ i, i < n → zN (T i) < 4096 ∧ T i = nI (zN (T i))) ∧ (∀ i j, i < j → j < n → zN (T i) < zN (T j)) ∧ (∀ i, i < n → C i ≠ 0 ∧ m (zN (T i)) = C i) ∧ ∀ t, m t ≠ 0 → ∃ i, i < n ∧ zN (T i) = t
def srt (T : Nat → Int32) (n : Nat) : Prop := ∀ i j, i < j → j < n → T i < T j
/-- a window in which the place of t lies -/
def plI (T : Nat → Int32) (n : Nat) (t : Int32) (a w : Nat) : Prop := a ≤ n ∧ (∀ i, i < a → T i < t) ∧ ∀ i, a + w ≤ i → i < n → ¬ T i < t
def pl (T : Nat → Int32) (n : Nat) (t : Int32) (a : Nat) : Prop := plI T n t a 0
theorem i_tr {a b c : Int32} (h : a < b) (h2 : b < c) : a < c := by
  rw [Int32.lt_iff_toInt_lt] at *
  omega
theorem srt_up {T : Nat → Int32} {n j i : Nat} {t : Int32} (h : srt T n) (hj : ¬ T j < t) (hji : j ≤ i) (hi : i < n) : ¬ T i < t := by
  rcases Nat.lt_or_eq_of_le hji with h1 | rfl
  · exact fun h2 => hj (i_tr (h j i h1 hi) h2)
  · exact hj
theorem srt_dn {T : Nat → Int32} {n j i : Nat} {t : Int32} (h : srt T n) (hj : T j < t) (hji : i ≤ j) (hi : j < n) : T i < t := by
  rcases Nat.lt_or_eq_of_le hji with h1 | rfl
  · exact i_tr (h i j h1 hi) hj
  · exact hj
theorem plI_yes {T : Nat → Int32} {n a s w : Nat} {t : Int32} (hs : srt T n) (h : plI T n t a w) (hw : w = 2 * s - 1) (h1 : 1 ≤ s) (ha : a + s ≤ n) (ht : T (a + s - 1) < t) : plI T n t (a + s) (s - 1) :=
  ⟨ha, fun i hi => srt_dn hs ht (by omega) (by omega), fun i h2 h3 => h.2.2 i (by omega) h3⟩
theorem plI_no {T : Nat → Int32} {n a s : Nat} {t : Int32} (hs : srt T n) {w : Nat} (h : plI T n t a w) (h1 : 1 ≤ s) (ht : n < a + s ∨ ¬ T (a + s - 1) < t) : plI T n t a (s - 1) := by
  refine ⟨h.1, h.2.1, fun i h2 h3 => ?_⟩
  rcases ht with ht | ht
  · omega
  · exact srt_up hs ht (by omega) h3
theorem zN_nI {t : Nat} (h : t < 2 ^ 31) : zN (nI t) = t := nI_clamp h
theorem zp.srt {T C : Nat → Int32} {n : Nat} {m : Nat → Int32} (h : zp T C n m) : srt T n := fun i j hij hj => by
  rw [(h.2.1 i (by omega)).2, (h.2.1 j hj).2]
  have h1 := h.2.2.1 i j hij hj
  have h2 := (h.2.1 j hj).1
  exact nI_lt h1 (by omega)
theorem zp.lt {T C : Nat → Int32} {n : Nat} {m : Nat → Int32} (h : zp T C n m) {i t : Nat} (hi : i < n) (ht : t < 2 ^ 31) : T i < nI t ↔ zN (T i) < t := by
  have h2 := (h.2.1 i hi).1
  rw [(h.2.1 i hi).2, nI_ltI (by omega) ht, zN_nI (by omega)]
theorem zp.eq {T C : Nat → Int32} {n : Nat} {m : Nat → Int32} (h : zp T C n m) {i t : Nat} (hi : i < n) (ht : t < 2 ^ 31) : T i = nI t ↔ zN (T i) = t := by
  have h2 := (h.2.1 i hi).1
  rw [(h.2.1 i hi).2, nI_eq (by omega) ht, zN_nI (by omega)]
/-- at its place, or nowhere -/
theorem zp.at {T C : Nat → Int32} {n p t : Nat} {m : Nat → Int32} (h : zp T C n m) (ht : t < 2 ^ 31) (hp : pl T n (nI t) p) : (p < n ∧ T p = nI t ∧ m t = C p ∧ C p ≠ 0) ∨ (¬ (p < n ∧ T p = nI t) ∧ m t = 0) := by
  by_cases hc : p < n ∧ T p = nI t
  · have h1 := (h.eq hc.1 ht).mp hc.2
    have h2 := h.2.2.2.1 p hc.1
    rw [h1] at h2
    exact Or.inl ⟨hc.1, hc.2, h2.2, h2.1⟩
  · refine Or.inr ⟨hc, ?_⟩
    by_cases hm : m t = 0
    · exact hm
    · obtain ⟨i, hi, hit⟩ := h.2.2.2.2 t hm
      have e1 := (h.eq hi ht).mpr hit
      exfalso
      by_cases hip : i < p
      · have := hp.2.1 i hip
        rw [h.lt hi ht] at this
        omega
      · have h3 := hp.2.2 p (by omega) (by omega)
        by_cases hpi : p = i
        · subst hpi; exact hc ⟨hi, e1⟩
        · have h4 := h.2.2.1 p i (by omega) hi
          rw [h.lt (by omega) ht] at h3
          omega
theorem zp_upd {T C : Nat → Int32} {n p t : Nat} {m : Nat → Int32} {x : Int32} (h : zp T C n m) (hp : p < n) (hT : zN (T p) = t) (hx : x ≠ 0) : zp T (upd C p x) n (upd m t x) := by
  refine ⟨h.1, h.2.1, h.2.2.1, fun i hi => ?_, fun u hu => ?_⟩
  · by_cases hip : i = p
    · subst hip
      rw [pk_us, hT, pk_us]
      exact ⟨hx, rfl⟩
    · have hne : zN (T i) ≠ t := by
        intro e
        rcases Nat.lt_or_gt_of_ne hip with q | q
        · have := h.2.2.1 i p q hp; omega
        · have := h.2.2.1 p i q hi; omega
      rw [pk_un hip, pk_un hne]
      exact h.2.2.2.1 i hi
  · by_cases e : u = t
    · exact ⟨p, hp, by rw [e]; exact hT⟩
    · rw [pk_un e] at hu
      exact h.2.2.2.2 u hu
theorem zp_rem {T C C1 : Nat → Int32} {n p t : Nat} {m : Nat → Int32} (h : zp T C n m) (hp : p < n) (hT : zN (T p) = t) (hC : ∀ i, i ≠ p → C1 i = C i) : zp (va_cpy T T (p + 1) p (n - 1 - p)) (va_cpy C1 C1 (p + 1) p (n - 1 - p)) (n - 1) (upd m t 0) := by
  have eT : ∀ i, i < n - 1 → va_cpy T T (p + 1) p (n - 1 - p) i = T (if i < p then i else i + 1) := by
    intro i hi
    by_cases q : i < p
    · rw [pk_cpy_out (Or.inl q), if_pos q]
    · rw [pk_cpy_in (by omega) (by omega), if_neg q]
      congr 1; omega
  have eC : ∀ i, i < n - 1 → va_cpy C1 C1 (p + 1) p (n - 1 - p) i = C (if i < p then i else i + 1) := by
    intro i hi
    by_cases q : i < p
    · rw [pk_cpy_out (Or.inl q), if_pos q, hC i (by omega)]
    · rw [pk_cpy_in (by omega) (by omega), if_neg q, hC _ (by omega)]
      congr 1; omega
  have hne : ∀ i, i < n → i ≠ p → zN (T i) ≠ t := by
    intro i hi hip e
    rcases Nat.lt_or_gt_of_ne hip with q | q
    · have := h.2.2.1 i p q hp; omega
    · have := h.2.2.1 p i q hi; omega
  refine ⟨by have := h.1; omega, fun i hi => ?_, fun i j hij hj => ?_, fun i hi => ?_, fun u hu => ?_⟩
  · rw [eT i hi]
    exact h.2.1 _ (by split <;> omega)
  · rw [eT i (by omega), eT j hj]
    exact h.2.2.1 _ _ (by split <;> split <;> omega) (by split <;> omega)
  · rw [eT i hi, eC i hi, pk_un (hne _ (by split <;> omega) (by split <;> omega))]
    exact h.2.2.2.1 _ (by split <;> omega)
  · by_cases e : u = t
    · subst e
      rw [pk_us] at hu
      exact absurd rfl hu
    · rw [pk_un e] at hu
      obtain ⟨i, hi, hit⟩ := h.2.2.2.2 u hu
      have hip : i ≠ p := fun q => e (by rw [← hit, q]; exact hT)
      by_cases q : i < p
      · exact ⟨i, by omega, by rw [eT i (by omega), if_pos q]; exact hit⟩
      · refine ⟨i - 1, by omega, ?_⟩
        rw [eT (i - 1) (by omega), if_neg (by omega), show i - 1 + 1 = i by omega]
        exact hit
theorem zp_ins {T C : Nat → Int32} {n p t : Nat} {m : Nat → Int32} {x : Int32} (h : zp T C n m) (hpl : pl T n (nI t) p) (ht : t < 4096) (hm : m t = 0) (hn : n < 300) (hx : x ≠ 0) :
    zp (upd (va_cpy T T p (p + 1) (n - p)) p (nI t)) (upd (va_cpy C C p (p + 1) (n - p)) p x) (n + 1) (upd m t x) := by
  have hpn : p ≤ n := hpl.1
  have eT : ∀ i, i < n + 1 → i ≠ p → upd (va_cpy T T p (p + 1) (n - p)) p (nI t) i = T (if i < p then i else i - 1) := by
    intro i hi hip
    rw [pk_un hip]
    by_cases q : i < p
    · rw [pk_cpy_out (Or.inl (by omega)), if_pos q]
    · rw [pk_cpy_in (by omega) (by omega), if_neg q]
      congr 1; omega
  have eC : ∀ i, i < n + 1 → i ≠ p → upd (va_cpy C C p (p + 1) (n - p)) p x i = C (if i < p then i else i - 1) := by
    intro i hi hip
    rw [pk_un hip]
    by_cases q : i < p
    · rw [pk_cpy_out (Or.inl (by omega)), if_pos q]
    · rw [pk_cpy_in (by omega) (by omega), if_neg q]
      congr 1; omega
  have ht' : zN (nI t) = t := zN_nI (by omega)
  have hne : ∀ i, i < n → zN (T i) ≠ t := by
    intro i hi e
    have := h.2.2.2.1 i hi
    rw [e, hm] at this
    exact this.1 this.2.symm
  have lo : ∀ i, i < p → zN (T i) < t := fun i hi => (h.lt (by omega) (by omega)).mp (hpl.2.1 i hi)
  have hi' : ∀ i, p ≤ i → i < n → t < zN (T i) := fun i h1 h2 => by
    have h3 := hpl.2.2 i (by omega) h2
    rw [h.lt h2 (by omega)] at h3
    have := hne i h2
    omega
  refine ⟨by omega, fun i hi => ?_, fun i j hij hj => ?_, fun i hi => ?_, fun u hu => ?_⟩
  · by_cases hip : i = p
    · subst hip
      rw [pk_us, ht']
      exact ⟨ht, rfl⟩
    · rw [eT i hi hip]
      exact h.2.1 _ (by split <;> omega)
  · by_cases hip : i = p
    · subst hip
      rw [pk_us, ht', eT j hj (by omega), if_neg (by omega)]
      exact hi' _ (by omega) (by omega)
    · by_cases hjp : j = p
      · subst hjp
        rw [pk_us, ht', eT i (by omega) hip, if_pos hij]
        exact lo _ hij
      · rw [eT i (by omega) hip, eT j hj hjp]
        exact h.2.2.1 _ _ (by split <;> split <;> omega) (by split <;> omega)
  · by_cases hip : i = p
    · subst hip
      rw [pk_us, pk_us, ht', pk_us]
      exact ⟨hx, rfl⟩
    · rw [eT i hi hip, eC i hi hip, pk_un (hne _ (by split <;> omega))]
      exact h.2.2.2.1 _ (by split <;> omega)
  · by_cases e : u = t
    · exact ⟨p, by omega, by rw [pk_us, ht', e]⟩
    · rw [pk_un e] at hu
      obtain ⟨i, hi, hit⟩ := h.2.2.2.2 u hu
      by_cases q : i < p
      · exact ⟨i, by omega, by rw [eT i (by omega) (by omega), if_pos q]; exact hit⟩
      · refine ⟨i + 1, by omega, ?_⟩
        rw [eT (i + 1) (by omega) (by omega), if_neg (by omega), show i + 1 - 1 = i by omega]
        exact hit
