set_option maxRecDepth 100000 in
theorem bchk_0 : bchk 0 2048 = true := by decide +kernel
set_option maxRecDepth 100000 in
theorem bchk_1 : bchk 2048 2048 = true := by decide +kernel
set_option maxRecDepth 100000 in
theorem bchk_2 : bchk 4096 2048 = true := by decide +kernel
set_option maxRecDepth 100000 in
theorem bchk_3 : bchk 6144 2048 = true := by decide +kernel
set_option maxRecDepth 100000 in
theorem bchk_4 : bchk 8192 2048 = true := by decide +kernel
set_option maxRecDepth 100000 in
theorem bchk_5 : bchk 10240 2048 = true := by decide +kernel
set_option maxRecDepth 100000 in
theorem bchk_6 : bchk 12288 2048 = true := by decide +kernel
set_option maxRecDepth 100000 in
theorem bchk_7 : bchk 14336 2048 = true := by decide +kernel
set_option maxRecDepth 100000 in
theorem bchk_8 : bchk 16384 2048 = true := by decide +kernel
set_option maxRecDepth 100000 in
theorem bchk_9 : bchk 18432 2048 = true := by decide +kernel
set_option maxRecDepth 100000 in
theorem bchk_10 : bchk 20480 2048 = true := by decide +kernel
set_option maxRecDepth 100000 in
theorem bchk_11 : bchk 22528 2048 = true := by decide +kernel
set_option maxRecDepth 100000 in
theorem bchk_12 : bchk 24576 2048 = true := by decide +kernel
set_option maxRecDepth 100000 in
theorem bchk_13 : bchk 26624 2048 = true := by decide +kernel
set_option maxRecDepth 100000 in
theorem bchk_14 : bchk 28672 2048 = true := by decide +kernel
set_option maxRecDepth 100000 in
theorem bchk_15 : bchk 30720 2048 = true := by decide +kernel
set_option maxRecDepth 100000 in
theorem bchk_16 : bchk 32768 2048 = true := by decide +kernel
set_option maxRecDepth 100000 in
theorem bchk_17 : bchk 34816 2048 = true := by decide +kernel
set_option maxRecDepth 100000 in
theorem bchk_18 : bchk 36864 2048 = true := by decide +kernel
set_option maxRecDepth 100000 in
theorem bchk_19 : bchk 38912 2048 = true := by decide +kernel
set_option maxRecDepth 100000 in
theorem bchk_20 : bchk 40960 2048 = true := by decide +kernel
set_option maxRecDepth 100000 in
theorem bchk_21 : bchk 43008 2048 = true := by decide +kernel
set_option maxRecDepth 100000 in
theorem bchk_22 : bchk 45056 2048 = true := by decide +kernel
set_option maxRecDepth 100000 in
theorem bchk_23 : bchk 47104 2048 = true := by decide +kernel
set_option maxRecDepth 100000 in
theorem bchk_24 : bchk 49152 2048 = true := by decide +kernel
set_option maxRecDepth 100000 in
theorem bchk_25 : bchk 51200 2048 = true := by decide +kernel
set_option maxRecDepth 100000 in
theorem bchk_26 : bchk 53248 2048 = true := by decide +kernel
set_option maxRecDepth 100000 in
theorem bchk_27 : bchk 55296 2048 = true := by decide +kernel
set_option maxRecDepth 100000 in
theorem bchk_28 : bchk 57344 2048 = true := by decide +kernel
set_option maxRecDepth 100000 in
theorem bchk_29 : bchk 59392 2048 = true := by decide +kernel
set_option maxRecDepth 100000 in
theorem bchk_30 : bchk 61440 2048 = true := by decide +kernel
set_option maxRecDepth 100000 in
theorem bchk_31 : bchk 63488 2048 = true := by decide +kernel
theorem bchk_at {lo : Nat} : ∀ {n : Nat}, bchk lo n = true → ∀ j, j < n → bnE (bnD (bnC (bnB (bnA (lo + j))))) = pc16 (lo + j)
  | 0, _, j, hj => absurd hj (Nat.not_lt_zero j)
  | n + 1, h, j, hj => by
    unfold bchk at h
    rw [Bool.and_eq_true] at h
    rcases Nat.lt_or_eq_of_le (Nat.le_of_lt_succ hj) with z | z
    · exact bchk_at h.2 j z
    · rw [z]; exact Nat.eq_of_beq_eq_true h.1
theorem bn_all {k : Nat} (h : k < 65536) : bnE (bnD (bnC (bnB (bnA k)))) = pc16 k := by
  have e : k = 2048 * (k / 2048) + k % 2048 := by omega
  have hm : k % 2048 < 2048 := Nat.mod_lt _ (by decide)
  have hd : k / 2048 < 32 := by omega
  generalize k / 2048 = a at e hd
  generalize k % 2048 = b at e hm
  subst e
  match a, hd with
  | 0, _ => exact bchk_at bchk_0 b hm
  | 1, _ => exact bchk_at bchk_1 b hm
  | 2, _ => exact bchk_at bchk_2 b hm
  | 3, _ => exact bchk_at bchk_3 b hm
  | 4, _ => exact bchk_at bchk_4 b hm
  | 5, _ => exact bchk_at bchk_5 b hm
  | 6, _ => exact bchk_at bchk_6 b hm
  | 7, _ => exact bchk_at bchk_7 b hm
  | 8, _ => exact bchk_at bchk_8 b hm
  | 9, _ => exact bchk_at bchk_9 b hm
  | 10, _ => exact bchk_at bchk_10 b hm
  | 11, _ => exact bchk_at bchk_11 b hm
  | 12, _ => exact bchk_at bchk_12 b hm
  | 13, _ => exact bchk_at bchk_13 b hm
  | 14, _ => exact bchk_at bchk_14 b hm
  | 15, _ => exact bchk_at bchk_15 b hm
  | 16, _ => exact bchk_at bchk_16 b hm
  | 17, _ => exact bchk_at bchk_17 b hm
  | 18, _ => exact bchk_at bchk_18 b hm
  | 19, _ => exact bchk_at bchk_19 b hm
  | 20, _ => exact bchk_at bchk_20 b hm
  | 21, _ => exact bchk_at bchk_21 b hm
  | 22, _ => exact bchk_at bchk_22 b hm
  | 23, _ => exact bchk_at bchk_23 b hm
  | 24, _ => exact bchk_at bchk_24 b hm
  | 25, _ => exact bchk_at bchk_25 b hm
  | 26, _ => exact bchk_at bchk_26 b hm
  | 27, _ => exact bchk_at bchk_27 b hm
  | 28, _ => exact bchk_at bchk_28 b hm
  | 29, _ => exact bchk_at bchk_29 b hm
  | 30, _ => exact bchk_at bchk_30 b hm
  | 31, _ => exact bchk_at bchk_31 b hm
  | a + 32, h => exact absurd h (by omega)
theorem bc_eq {k : Nat} (h : k < 65536) : bcE (bcD (bcC (bcB (bcA (nI k))))) = nI (pc16 k) := by rw [bc_nat h, bn_all h]
