/-! PURE: going over a relation's tuples in order, and over all tuples that have a count, is the same -/
def fc {α : Type} (f : α → Nat → Int32 → α) (a0 : α) (T C : Nat → Int32) : Nat → α
  | 0 => a0
  | i + 1 => f (fc f a0 T C i) (zN (T i)) (C i)
def fm {α : Type} (f : α → Nat → Int32 → α) (a0 : α) (m : Nat → Int32) : Nat → α
  | 0 => a0
  | t + 1 => if m t = 0 then fm f a0 m t else f (fm f a0 m t) t (m t)
theorem fm_at {α : Type} (f : α → Nat → Int32 → α) (a0 : α) {T C m : Nat → Int32} {n : Nat} (h : zp T C n m) (k : Nat) : ∃ p, p ≤ n ∧ (∀ i, i < p → zN (T i) < k) ∧ (∀ i, p ≤ i → i < n → k ≤ zN (T i)) ∧ fm f a0 m k = fc f a0 T C p := by
  induction k with
  | zero => exact ⟨0, Nat.zero_le _, fun i hi => absurd hi (Nat.not_lt_zero i), fun i _ _ => Nat.zero_le _, rfl⟩
  | succ k ih =>
    obtain ⟨p, h1, h2, h3, h4⟩ := ih
    by_cases hm : m k = 0
    · refine ⟨p, h1, fun i hi => Nat.lt_succ_of_lt (h2 i hi), fun i a b => ?_, by simp only [fm, hm, if_true]; exact h4⟩
      have h5 := h3 i a b
      have h6 := h.2.2.2.1 i b
      have h7 : zN (T i) ≠ k := fun e => h6.1 (by rw [← h6.2, e, hm])
      omega
    · obtain ⟨i, hi, hk⟩ := h.2.2.2.2 k hm
      have hpi : p ≤ i := Nat.not_lt.mp fun z => by have := h2 i z; omega
      have hip : i = p := by
        rcases Nat.lt_or_eq_of_le hpi with z | z
        · have a := h.2.2.1 p i z hi
          have b := h3 p (Nat.le_refl _) (by omega)
          omega
        · exact z.symm
      subst hip
      refine ⟨i + 1, hi, fun j hj => ?_, fun j a b => ?_, ?_⟩
      · rcases Nat.lt_or_eq_of_le (Nat.le_of_lt_succ hj) with z | z
        · exact Nat.lt_succ_of_lt (h2 j z)
        · rw [z, hk]; exact Nat.lt_succ_self k
      · have := h.2.2.1 i j (by omega) b
        omega
      · simp only [fm, fc, hm, if_false]
        rw [h4, hk, ← (h.2.2.2.1 i hi).2, hk]
theorem fm_eq {α : Type} (f : α → Nat → Int32 → α) (a0 : α) {T C m : Nat → Int32} {n : Nat} (h : zp T C n m) : fm f a0 m 4096 = fc f a0 T C n := by
  obtain ⟨p, h1, h2, h3, h4⟩ := fm_at f a0 h 4096
  have : p = n := by
    rcases Nat.lt_or_eq_of_le h1 with z | z
    · have a := h3 p (Nat.le_refl _) z
      have b := (h.2.1 p z).1
      omega
    · exact z
  rw [h4, this]
/-- how many have a count -/
def zct (m : Nat → Int32) : Nat → Nat := fm (fun a _ _ => a + 1) 0 m
theorem fc_n (T C : Nat → Int32) (n : Nat) : fc (fun (a : Nat) _ _ => a + 1) 0 T C n = n := by
  induction n with
  | zero => rfl
  | succ n ih => simp only [fc, ih]
theorem zct_eq {T C m : Nat → Int32} {n : Nat} (h : zp T C n m) : zct m 4096 = n := (fm_eq _ 0 h).trans (fc_n T C n)
/-- the bits of a number below 65536, counted -/
def pc16 (k : Nat) : Nat := k % 2 + k / 2 % 2 + k / 4 % 2 + k / 8 % 2 + k / 16 % 2 + k / 32 % 2 + k / 64 % 2 + k / 128 % 2 + k / 256 % 2 + k / 512 % 2 + k / 1024 % 2 + k / 2048 % 2 + k / 4096 % 2 + k / 8192 % 2 + k / 16384 % 2 + k / 32768 % 2
def ush (x : Int32) (y : Int32) : Int32 := (x.toUInt32 >>> (y.toUInt32 &&& Int32.toUInt32 31)).toInt32
def bcA (x : Int32) : Int32 := x - (ush x 1 &&& 1431655765)
def bcB (x : Int32) : Int32 := (x &&& 858993459) + (ush x 2 &&& 858993459)
def bcC (x : Int32) : Int32 := (x + ush x 4) &&& 252645135
def bcD (x : Int32) : Int32 := x + ush x 8
def bcE (x : Int32) : Int32 := (x + ush x 16) &&& 63
theorem nI_or (a b : Nat) : nI a ||| nI b = nI (a ||| b) := by
  apply Int32.toBitVec_inj.mp
  show BitVec.ofNat 32 a ||| BitVec.ofNat 32 b = BitVec.ofNat 32 (a ||| b)
  apply BitVec.eq_of_getLsbD_eq
  intro i hi
  simp [BitVec.getLsbD_or, hi]
theorem nI_bit : ∀ x, x < 16 → (1 : Int32) <<< (nI x &&& 31) = nI (2 ^ x) := by decide +kernel
theorem nI_and (a b : Nat) : nI a &&& nI b = nI (a &&& b) := by
  apply Int32.toBitVec_inj.mp
  show BitVec.ofNat 32 a &&& BitVec.ofNat 32 b = BitVec.ofNat 32 (a &&& b)
  apply BitVec.eq_of_getLsbD_eq
  intro i hi
  simp [BitVec.getLsbD_and, hi]
theorem us_l : ∀ n, n < 32 → (((nI n).toUInt32 &&& Int32.toUInt32 31).toBitVec % 32).toNat = n := by decide +kernel
theorem us_r {a b : Nat} (h : a < 2 ^ 32) (hb : b < 32) : ush (nI a) (nI b) = nI (a / 2 ^ b) := pk_ushrN h _ b (us_l b hb)
def bnA (k : Nat) : Nat := k - (k / 2 &&& 1431655765)
def bnB (k : Nat) : Nat := (k &&& 858993459) + (k / 4 &&& 858993459)
def bnC (k : Nat) : Nat := (k + k / 16) &&& 252645135
def bnD (k : Nat) : Nat := k + k / 256
def bnE (k : Nat) : Nat := (k + k / 65536) &&& 63
theorem bcA_n {k : Nat} (h : k < 65536) : bcA (nI k) = nI (bnA k) := by
  show nI k - (ush (nI k) (nI 1) &&& nI 1431655765) = _
  rw [us_r (by omega) (by decide), nI_and, pk_sub (Nat.le_trans Nat.and_le_left (Nat.div_le_self _ _))]
  rfl
theorem bcB_n {k : Nat} (h : k < 65536) : bcB (nI k) = nI (bnB k) := by
  show (nI k &&& nI 858993459) + (ush (nI k) (nI 2) &&& nI 858993459) = _
  rw [us_r (by omega) (by decide), nI_and, nI_and, nI_add]
  rfl
theorem bcC_n {k : Nat} (h : k < 2 ^ 30) : bcC (nI k) = nI (bnC k) := by
  show (nI k + ush (nI k) (nI 4)) &&& nI 252645135 = _
  rw [us_r (by omega) (by decide), nI_add, nI_and]
  rfl
theorem bcD_n {k : Nat} (h : k < 2 ^ 30) : bcD (nI k) = nI (bnD k) := by
  show nI k + ush (nI k) (nI 8) = _
  rw [us_r (by omega) (by decide), nI_add]
  rfl
theorem bcE_n {k : Nat} (h : k < 2 ^ 30) : bcE (nI k) = nI (bnE k) := by
  show (nI k + ush (nI k) (nI 16)) &&& nI 63 = _
  rw [us_r (by omega) (by decide), nI_add, nI_and]
  rfl
theorem bc_nat {k : Nat} (h : k < 65536) : bcE (bcD (bcC (bcB (bcA (nI k))))) = nI (bnE (bnD (bnC (bnB (bnA k))))) := by
  have a : bnA k < 65536 := Nat.lt_of_le_of_lt (Nat.sub_le _ _) h
  have b : bnB (bnA k) < 2 ^ 29 := by
    have h1 : bnA k &&& 858993459 ≤ bnA k := Nat.and_le_left
    have h2 : bnA k / 4 &&& 858993459 ≤ bnA k / 4 := Nat.and_le_left
    unfold bnB
    omega
  have c : bnC (bnB (bnA k)) < 2 ^ 30 := Nat.lt_of_le_of_lt Nat.and_le_right (by decide)
  have c2 : bnC (bnB (bnA k)) < 2 ^ 29 := Nat.lt_of_le_of_lt Nat.and_le_right (by decide)
  have d : bnD (bnC (bnB (bnA k))) < 2 ^ 30 := by unfold bnD; omega
  rw [bcA_n h, bcB_n a, bcC_n (by omega), bcD_n c, bcE_n d]
def bchk (lo : Nat) : Nat → Bool
  | 0 => true
  | n + 1 => (Nat.beq (bnE (bnD (bnC (bnB (bnA (lo + n)))))) (pc16 (lo + n))) && bchk lo n
