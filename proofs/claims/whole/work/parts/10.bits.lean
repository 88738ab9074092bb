/-! shelf's fields and array of relations; shifts by small naturals -/
section ZSH
variable {l : Launch} {G : zG} {Ts : List Cond} {own : String} {cc : ByteArray} {nL : Nat} {ret : Option FieldType} {xt : List ExceptionTableEntry} {R : Room} {Fin : List Frame → Array Value → State → State → Prop} {cs sl : Nat} {pc : Nat} {lv lv' : List (Nat × Value)} {st : List Value} {σ : zS}
theorem zb_aaldN {j : Nat} (d : decode cc pc = .ok (.aaload, 1)) (hj : j < 8) (k : zB l G Ts own cc nL ret xt R Fin cs sl (pc + 1) lv (.ref (zad G (zN (σ.1 1 j))) :: st) σ) : zB l G Ts own cc nL ret xt R Fin cs sl pc lv (.int (nI j) :: .ref (zad G 1) :: st) σ := by
  intro p e s m args below meth c C H locs ls hl hP hD hS
  refine va_aldq C.ex C.bt C.K hP 1 3 (by rw [zW_at (by decide)]; rfl) rfl (vp_in_nI hj (by decide)) d ?_
  rw [nI_clamp (by omega)]
  exact k p e s m args below meth c C H locs ls hl hP hD hS
theorem zb_aastN {j q : Nat} (d : decode cc pc = .ok (.aastore, 1)) (hj : j < 8) (hq : zrl q) (k : zB l G Ts own cc nL ret xt R Fin cs sl (pc + 1) lv st (zu σ 1 (upd (σ.1 1) j (nI q)))) : zB l G Ts own cc nL ret xt R Fin cs sl pc lv (.ref (zad G q) :: .int (nI j) :: .ref (zad G 1) :: st) σ := by
  intro p e s m args below meth c C H locs ls hl hP hD hS
  refine va_astq C.ex C.bt C.K hP hD hS 1 3 q n_Rel (r := (R_Rel, T_Rel, 4)) (by rw [zW_at (by decide)]; rfl) rfl (zgR hq) rfl (vp_in_nI hj (by decide)) d (fun H1 locs1 hP hD hS => ?_)
  have hq2 : q < 2 ^ 31 := by have := hq.lt; omega
  rw [nI_clamp (by omega)] at hP hD
  have he : zF G 1 (upd (σ.1 1) j (nI q)) σ.2 = .inl (zcR G, 8, .inr (.inr (.inr (.inr (va_up (fun j => some (zad G (σ.1 1 j).toNatClampNeg)) j (some (zad G q))))))) := by
    show (Sum.inl (zcR G, 8, Sum.inr (Sum.inr (Sum.inr (Sum.inr (fun i => some (zad G (upd (σ.1 1) j (nI q) i).toNatClampNeg)))))) : va_E) = _
    congr 7
    funext i
    by_cases e : i = j
    · subst e
      simp [va_up, upd, nI_clamp hq2]
    · simp [va_up, upd, e]
  rw [zW_zu (f := upd (σ.1 1) j (nI q)) (by decide) he] at hP hD
  exact k p e s m args below meth c C H1 locs1 ls hl hP hD hS
theorem zs_put_spare {index q : Nat} (d : decode cc pc = .ok (.putfield index, 3)) (hlk : Cond.fieldLink own index "TupleShelf" "spare" "LTupleShelf$Relation;" ∈ zws) (hq : zrl q) (k : zB l G Ts own cc nL ret xt R Fin cs sl (pc + 3) lv st (zu σ 0 (upd (σ.1 0) 0 (nI q)))) : zB l G Ts own cc nL ret xt R Fin cs sl pc lv (.ref (zad G q) :: .ref (zad G 0) :: st) σ :=
  zb_putf (ci := n_Shelf) (C0 := R_Sh) (T0 := T_Sh) (N := 3) (ref := "TupleShelf") (ty := .object "TupleShelf$Relation") 1 ty_Sh ty_Sh_ok nm_Sh d zu_Sh hlk rfl zgS rfl (by decide) rfl (by decide +kernel) rfl rfl (Nat.le_of_ble_eq_true rfl) (zW_zu (by decide) (by simp [zF, upd, nI_clamp (show q < 2 ^ 31 by have := hq.lt; omega)])) k
end ZSH
theorem sh_l : ∀ n, n < 32 → ((nI n &&& 31).toBitVec.smod 32).toNat = n := by decide +kernel
theorem sh_r {n b : Nat} (h : n < 2 ^ 31) (hb : b < 32) : nI n >>> (nI b &&& 31) = nI (n / 2 ^ b) := pk_shrN h _ b (sh_l b hb)
theorem sh_lN {n b : Nat} (hb : b < 32) (h : n * 2 ^ b < 2 ^ 32) : nI n <<< (nI b &&& 31) = nI (n * 2 ^ b) := pk_shlN _ b (sh_l b hb) h
theorem nI_m (a b : Nat) : nI a * nI b = nI (a * b) := pk_mul a b
