abbrev w_Sh_init : List Cond := zwy y_Sh_init c_Sh_init 2 none
abbrev w_Rel_init : List Cond := zwy y_Rel_init c_Rel_init 1 none
abbrev w_Sh_width : List Cond := zwy y_Sh_width c_Sh_width 5 (some .int)
abbrev w_Sh_relationOf : List Cond := zwy y_Sh_relationOf c_Sh_relationOf 2 (some (.object "TupleShelf$Relation"))
abbrev w_Sh_mustBeRelation : List Cond := zwy y_Sh_mustBeRelation c_Sh_mustBeRelation 1 none
abbrev w_Sh_refuseUnless : List Cond := zwy y_Sh_refuseUnless c_Sh_refuseUnless 1 none
abbrev w_Rel_startAnew : List Cond := zwy y_Rel_startAnew c_Rel_startAnew 2 none
abbrev w_Sh_put : List Cond := zwy y_Sh_put c_Sh_put 5 (some .int)
abbrev w_Sh_isTuple : List Cond := zwy y_Sh_isTuple c_Sh_isTuple 2 (some .boolean)
abbrev w_Sh_bitsBehind : List Cond := zwy y_Sh_bitsBehind c_Sh_bitsBehind 1 (some .int)
abbrev w_Rel_raise : List Cond := zwy y_Rel_raise c_Rel_raise 4 (some .boolean)
abbrev w_Rel_placeOf : List Cond := zwy y_Rel_placeOf c_Rel_placeOf 4 (some .int)
abbrev w_Rel_holdsAt : List Cond := zwy y_Rel_holdsAt c_Rel_holdsAt 3 (some .boolean)
abbrev w_Rel_raiseAt : List Cond := zwy y_Rel_raiseAt c_Rel_raiseAt 3 none
abbrev w_Rel_removeAt : List Cond := zwy y_Rel_removeAt c_Rel_removeAt 2 none
abbrev w_Rel_insertAt : List Cond := zwy y_Rel_insertAt c_Rel_insertAt 4 none
abbrev w_Sh_refuseIfFull : List Cond := zwy y_Sh_refuseIfFull c_Sh_refuseIfFull 1 none
abbrev w_Rel_countOf : List Cond := zwy y_Rel_countOf c_Rel_countOf 3 (some .int)
abbrev w_Sh_count : List Cond := zwy y_Sh_count c_Sh_count 4 (some .int)
abbrev w_Sh_at : List Cond := zwy y_Sh_at c_Sh_at 4 (some .int)
abbrev w_Sh_join : List Cond := zwy y_Sh_join c_Sh_join 10 (some .int)
abbrev w_Sh_joinOne : List Cond := zwy y_Sh_joinOne c_Sh_joinOne 12 (some .boolean)
abbrev w_Sh_lastNumbers : List Cond := zwy y_Sh_lastNumbers c_Sh_lastNumbers 3 (some .int)
abbrev w_Sh_keepSpareAs : List Cond := zwy y_Sh_keepSpareAs c_Sh_keepSpareAs 3 (some .int)
abbrev w_Sh_narrow : List Cond := zwy y_Sh_narrow c_Sh_narrow 6 (some .int)
abbrev w_Jint_bitCount : List Cond := zwy y_Jint_bitCount c_Jint_bitCount 1 (some .int)
abbrev w_Sh_narrowed : List Cond := zwy y_Sh_narrowed c_Sh_narrowed 5 (some .int)
abbrev w_Sh_numberAt : List Cond := zwy y_Sh_numberAt c_Sh_numberAt 2 (some .int)
abbrev w_Sh_withNumber : List Cond := zwy y_Sh_withNumber c_Sh_withNumber 2 (some .int)
abbrev w_Sh_pick : List Cond := zwy y_Sh_pick c_Sh_pick 7 (some .int)
abbrev w_Sh_alter : List Cond := zwy y_Sh_alter c_Sh_alter 10 (some .int)
abbrev w_Sh_altered : List Cond := zwy y_Sh_altered c_Sh_altered 3 (some .int)
abbrev w_Jmath_min : List Cond := zwy y_Jmath_min c_Jmath_min 2 (some .int)
abbrev w_Sh_reach : List Cond := zwy y_Sh_reach c_Sh_reach 6 (some .int)
abbrev w_Sh_takeSteps : List Cond := zwy y_Sh_takeSteps c_Sh_takeSteps 4 none
abbrev w_Sh_followSteps : List Cond := zwy y_Sh_followSteps c_Sh_followSteps 3 none
abbrev w_Sh_isReached : List Cond := zwy y_Sh_isReached c_Sh_isReached 3 (some .boolean)
abbrev w_Sh_turn : List Cond := zwy y_Sh_turn c_Sh_turn 5 (some .int)
abbrev w_Sh_turned : List Cond := zwy y_Sh_turned c_Sh_turned 4 (some .int)
abbrev w_Sh_about : List Cond := zwy y_Sh_about c_Sh_about 4 (some .long)
abbrev w_Rel_firstNumbers : List Cond := zwy y_Rel_firstNumbers c_Rel_firstNumbers 3 (some .int)
abbrev w_Rel_sum : List Cond := zwy y_Rel_sum c_Rel_sum 4 (some .long)
abbrev w_Rel_greatest : List Cond := zwy y_Rel_greatest c_Rel_greatest 3 (some .int)
abbrev w_Jmath_max : List Cond := zwy y_Jmath_max c_Jmath_max 2 (some .int)
abbrev w_Sh_same : List Cond := zwy y_Sh_same c_Sh_same 5 (some .boolean)
abbrev w_Rel_holdsWhat : List Cond := zwy y_Rel_holdsWhat c_Rel_holdsWhat 3 (some .boolean)
abbrev w_Mo_init : List Cond := zwy y_Mo_init c_Mo_init 2 none
abbrev w_Mo_thrown : List Cond := zwy y_Mo_thrown c_Mo_thrown 1 (some .int)
abbrev w_Mo_width : List Cond := zwy y_Mo_width c_Mo_width 5 (some .int)
abbrev w_Mo_none : List Cond := zwy y_Mo_none c_Mo_none 2 (some .boolean)
abbrev w_Mo_refuse : List Cond := zwy y_Mo_refuse c_Mo_refuse 3 (some .boolean)
abbrev w_Mo_in : List Cond := zwy y_Mo_in c_Mo_in 2 (some .int)
abbrev w_Mo_many : List Cond := zwy y_Mo_many c_Mo_many 4 (some .int)
abbrev w_Mo_put : List Cond := zwy y_Mo_put c_Mo_put 5 (some .int)
abbrev w_Mo_isTuple : List Cond := zwy y_Mo_isTuple c_Mo_isTuple 2 (some .boolean)
abbrev w_Mo_of : List Cond := zwy y_Mo_of c_Mo_of 3 (some .int)
abbrev w_Mo_count : List Cond := zwy y_Mo_count c_Mo_count 3 (some .int)
abbrev w_Mo_at : List Cond := zwy y_Mo_at c_Mo_at 5 (some .int)
abbrev w_Mo_join : List Cond := zwy y_Mo_join c_Mo_join 10 (some .int)
abbrev w_Mo_begin : List Cond := zwy y_Mo_begin c_Mo_begin 2 none
abbrev w_Mo_number : List Cond := zwy y_Mo_number c_Mo_number 2 (some .int)
abbrev w_Mo_keep : List Cond := zwy y_Mo_keep c_Mo_keep 6 (some .int)
abbrev w_Mo_narrow : List Cond := zwy y_Mo_narrow c_Mo_narrow 8 (some .int)
abbrev w_Mo_bits : List Cond := zwy y_Mo_bits c_Mo_bits 3 (some .int)
abbrev w_Mo_pick : List Cond := zwy y_Mo_pick c_Mo_pick 6 (some .int)
abbrev w_Mo_alter : List Cond := zwy y_Mo_alter c_Mo_alter 6 (some .int)
abbrev w_Mo_altered : List Cond := zwy y_Mo_altered c_Mo_altered 3 (some .int)
abbrev w_Mo_reach : List Cond := zwy y_Mo_reach c_Mo_reach 8 (some .int)
abbrev w_Mo_turn : List Cond := zwy y_Mo_turn c_Mo_turn 7 (some .int)
abbrev w_Mo_about : List Cond := zwy y_Mo_about c_Mo_about 10 (some .long)
abbrev w_Mo_same : List Cond := zwy y_Mo_same c_Mo_same 5 (some .boolean)
abbrev zrm (f lo : Nat) : Room := { frames := f, cells := 0, slots := 0, locals := lo }
abbrev zrx (f lo : Nat) : Room := { frames := f, cells := 1, slots := 6, locals := lo }
section ZFL
variable {l : Launch} {G : zG} {Ts : List Cond} {own : String} {cc : ByteArray} {nL : Nat} {ret : Option FieldType} {xt : List ExceptionTableEntry} {R : Room} {Fin : List Frame → Array Value → State → State → Prop} {cs sl : Nat} {pc : Nat} {lv lv' : List (Nat × Value)} {st : List Value} {σ : zS}
theorem zgR {q : Nat} (hq : zrl q) : (zW G σ)[q]? = some (zad G q, .inr (n_Rel, [.ref (zad G (q + 1)), .ref (zad G (q + 2)), .int (σ.1 q 0), .int (σ.1 q 1)])) := by rw [zW_at hq.lt, zF_rel hq]
theorem zgS : (zW G σ)[0]? = some (zad G 0, .inr (n_Shelf, [.ref (zad G 1), .ref (zad G (σ.1 0 0).toNatClampNeg), .ref (zad G 29)])) := by rw [zW_at (by decide)]; rfl
theorem zgM : (zW G σ)[30]? = some (zad G 30, .inr (n_Model, [.int (σ.1 30 0), .ref (zad G 31), .ref (zad G 32), .ref (zad G 33), .ref (zad G 34)])) := by rw [zW_at (by decide)]; rfl
theorem zr_tuples {q index : Nat} (d : decode cc pc = .ok (.getfield index, 3)) (hlk : Cond.fieldLink own index "TupleShelf$Relation" "tuples" "[I" ∈ zws) (hq : zrl q) (k : zB l G Ts own cc nL ret xt R Fin cs sl (pc + 3) lv (.ref (zad G (q + 1)) :: st) σ) : zB l G Ts own cc nL ret xt R Fin cs sl pc lv (.ref (zad G q) :: st) σ :=
  zb_getf (ci := n_Rel) (C0 := R_Rel) (T0 := T_Rel) (N := 4) (ref := "TupleShelf$Relation") 0 d zu_Rel hlk rfl (zgR hq) rfl (by decide) rfl k
theorem zr_counts {q index : Nat} (d : decode cc pc = .ok (.getfield index, 3)) (hlk : Cond.fieldLink own index "TupleShelf$Relation" "counts" "[I" ∈ zws) (hq : zrl q) (k : zB l G Ts own cc nL ret xt R Fin cs sl (pc + 3) lv (.ref (zad G (q + 2)) :: st) σ) : zB l G Ts own cc nL ret xt R Fin cs sl pc lv (.ref (zad G q) :: st) σ :=
  zb_getf (ci := n_Rel) (C0 := R_Rel) (T0 := T_Rel) (N := 4) (ref := "TupleShelf$Relation") 1 d zu_Rel hlk rfl (zgR hq) rfl (by decide) rfl k
theorem zr_width {q index : Nat} (d : decode cc pc = .ok (.getfield index, 3)) (hlk : Cond.fieldLink own index "TupleShelf$Relation" "width" "I" ∈ zws) (hq : zrl q) (k : zB l G Ts own cc nL ret xt R Fin cs sl (pc + 3) lv (.int (σ.1 q 0) :: st) σ) : zB l G Ts own cc nL ret xt R Fin cs sl pc lv (.ref (zad G q) :: st) σ :=
  zb_getf (ci := n_Rel) (C0 := R_Rel) (T0 := T_Rel) (N := 4) (ref := "TupleShelf$Relation") 2 d zu_Rel hlk rfl (zgR hq) rfl (by decide) rfl k
theorem zr_size {q index : Nat} (d : decode cc pc = .ok (.getfield index, 3)) (hlk : Cond.fieldLink own index "TupleShelf$Relation" "size" "I" ∈ zws) (hq : zrl q) (k : zB l G Ts own cc nL ret xt R Fin cs sl (pc + 3) lv (.int (σ.1 q 1) :: st) σ) : zB l G Ts own cc nL ret xt R Fin cs sl pc lv (.ref (zad G q) :: st) σ :=
  zb_getf (ci := n_Rel) (C0 := R_Rel) (T0 := T_Rel) (N := 4) (ref := "TupleShelf$Relation") 3 d zu_Rel hlk rfl (zgR hq) rfl (by decide) rfl k
theorem zr_put_width {q index : Nat} {x : Int32} (d : decode cc pc = .ok (.putfield index, 3)) (hlk : Cond.fieldLink own index "TupleShelf$Relation" "width" "I" ∈ zws) (hq : zrl q) (k : zB l G Ts own cc nL ret xt R Fin cs sl (pc + 3) lv st (zu σ q (upd (σ.1 q) 0 x))) : zB l G Ts own cc nL ret xt R Fin cs sl pc lv (.int x :: .ref (zad G q) :: st) σ :=
  zb_putf (ci := n_Rel) (C0 := R_Rel) (T0 := T_Rel) (N := 4) (ref := "TupleShelf$Relation") (ty := .int) 2 ty_Rel ty_Rel_ok nm_Rel d zu_Rel hlk rfl (zgR hq) rfl (by decide) rfl (by decide +kernel) rfl rfl (Nat.le_of_ble_eq_true rfl) (zW_zu hq.lt (by rw [zF_rel hq]; simp [upd])) k
theorem zr_put_size {q index : Nat} {x : Int32} (d : decode cc pc = .ok (.putfield index, 3)) (hlk : Cond.fieldLink own index "TupleShelf$Relation" "size" "I" ∈ zws) (hq : zrl q) (k : zB l G Ts own cc nL ret xt R Fin cs sl (pc + 3) lv st (zu σ q (upd (σ.1 q) 1 x))) : zB l G Ts own cc nL ret xt R Fin cs sl pc lv (.int x :: .ref (zad G q) :: st) σ :=
  zb_putf (ci := n_Rel) (C0 := R_Rel) (T0 := T_Rel) (N := 4) (ref := "TupleShelf$Relation") (ty := .int) 3 ty_Rel ty_Rel_ok nm_Rel d zu_Rel hlk rfl (zgR hq) rfl (by decide) rfl (by decide +kernel) rfl rfl (Nat.le_of_ble_eq_true rfl) (zW_zu hq.lt (by rw [zF_rel hq]; simp [upd])) k
theorem zs_relations {index : Nat} (d : decode cc pc = .ok (.getfield index, 3)) (hlk : Cond.fieldLink own index "TupleShelf" "relations" "[LTupleShelf$Relation;" ∈ zws) (k : zB l G Ts own cc nL ret xt R Fin cs sl (pc + 3) lv (.ref (zad G 1) :: st) σ) : zB l G Ts own cc nL ret xt R Fin cs sl pc lv (.ref (zad G 0) :: st) σ :=
  zb_getf (ci := n_Shelf) (C0 := R_Sh) (T0 := T_Sh) (N := 3) (ref := "TupleShelf") 0 d zu_Sh hlk rfl zgS rfl (by decide) rfl k
theorem zs_spare {index : Nat} (d : decode cc pc = .ok (.getfield index, 3)) (hlk : Cond.fieldLink own index "TupleShelf" "spare" "LTupleShelf$Relation;" ∈ zws) (k : zB l G Ts own cc nL ret xt R Fin cs sl (pc + 3) lv (.ref (zad G (σ.1 0 0).toNatClampNeg) :: st) σ) : zB l G Ts own cc nL ret xt R Fin cs sl pc lv (.ref (zad G 0) :: st) σ :=
  zb_getf (ci := n_Shelf) (C0 := R_Sh) (T0 := T_Sh) (N := 3) (ref := "TupleShelf") 1 d zu_Sh hlk rfl zgS rfl (by decide) rfl k
theorem zs_reached {index : Nat} (d : decode cc pc = .ok (.getfield index, 3)) (hlk : Cond.fieldLink own index "TupleShelf" "reached" "[I" ∈ zws) (k : zB l G Ts own cc nL ret xt R Fin cs sl (pc + 3) lv (.ref (zad G 29) :: st) σ) : zB l G Ts own cc nL ret xt R Fin cs sl pc lv (.ref (zad G 0) :: st) σ :=
  zb_getf (ci := n_Shelf) (C0 := R_Sh) (T0 := T_Sh) (N := 3) (ref := "TupleShelf") 2 d zu_Sh hlk rfl zgS rfl (by decide) rfl k
theorem zm_thrown {index : Nat} (d : decode cc pc = .ok (.getfield index, 3)) (hlk : Cond.fieldLink own index "TupleShelfModel" "thrown" "I" ∈ zws) (k : zB l G Ts own cc nL ret xt R Fin cs sl (pc + 3) lv (.int (σ.1 30 0) :: st) σ) : zB l G Ts own cc nL ret xt R Fin cs sl pc lv (.ref (zad G 30) :: st) σ :=
  zb_getf (ci := n_Model) (C0 := R_Mo) (T0 := T_Mo) (N := 5) (ref := "TupleShelfModel") 0 d zu_Mo hlk rfl zgM rfl (by decide) rfl k
theorem zm_width {index : Nat} (d : decode cc pc = .ok (.getfield index, 3)) (hlk : Cond.fieldLink own index "TupleShelfModel" "width" "[I" ∈ zws) (k : zB l G Ts own cc nL ret xt R Fin cs sl (pc + 3) lv (.ref (zad G 31) :: st) σ) : zB l G Ts own cc nL ret xt R Fin cs sl pc lv (.ref (zad G 30) :: st) σ :=
  zb_getf (ci := n_Model) (C0 := R_Mo) (T0 := T_Mo) (N := 5) (ref := "TupleShelfModel") 1 d zu_Mo hlk rfl zgM rfl (by decide) rfl k
theorem zm_counts {index : Nat} (d : decode cc pc = .ok (.getfield index, 3)) (hlk : Cond.fieldLink own index "TupleShelfModel" "counts" "[I" ∈ zws) (k : zB l G Ts own cc nL ret xt R Fin cs sl (pc + 3) lv (.ref (zad G 32) :: st) σ) : zB l G Ts own cc nL ret xt R Fin cs sl pc lv (.ref (zad G 30) :: st) σ :=
  zb_getf (ci := n_Model) (C0 := R_Mo) (T0 := T_Mo) (N := 5) (ref := "TupleShelfModel") 2 d zu_Mo hlk rfl zgM rfl (by decide) rfl k
theorem zm_made {index : Nat} (d : decode cc pc = .ok (.getfield index, 3)) (hlk : Cond.fieldLink own index "TupleShelfModel" "made" "[I" ∈ zws) (k : zB l G Ts own cc nL ret xt R Fin cs sl (pc + 3) lv (.ref (zad G 33) :: st) σ) : zB l G Ts own cc nL ret xt R Fin cs sl pc lv (.ref (zad G 30) :: st) σ :=
  zb_getf (ci := n_Model) (C0 := R_Mo) (T0 := T_Mo) (N := 5) (ref := "TupleShelfModel") 3 d zu_Mo hlk rfl zgM rfl (by decide) rfl k
theorem zm_way {index : Nat} (d : decode cc pc = .ok (.getfield index, 3)) (hlk : Cond.fieldLink own index "TupleShelfModel" "way" "[Z" ∈ zws) (k : zB l G Ts own cc nL ret xt R Fin cs sl (pc + 3) lv (.ref (zad G 34) :: st) σ) : zB l G Ts own cc nL ret xt R Fin cs sl pc lv (.ref (zad G 30) :: st) σ :=
  zb_getf (ci := n_Model) (C0 := R_Mo) (T0 := T_Mo) (N := 5) (ref := "TupleShelfModel") 4 d zu_Mo hlk rfl zgM rfl (by decide) rfl k
theorem zm_put_thrown {index : Nat} {x : Int32} (d : decode cc pc = .ok (.putfield index, 3)) (hlk : Cond.fieldLink own index "TupleShelfModel" "thrown" "I" ∈ zws) (k : zB l G Ts own cc nL ret xt R Fin cs sl (pc + 3) lv st (zu σ 30 (upd (σ.1 30) 0 x))) : zB l G Ts own cc nL ret xt R Fin cs sl pc lv (.int x :: .ref (zad G 30) :: st) σ :=
  zb_putf (ci := n_Model) (C0 := R_Mo) (T0 := T_Mo) (N := 5) (ref := "TupleShelfModel") (ty := .int) 0 ty_Mo ty_Mo_ok nm_Mo d zu_Mo hlk rfl zgM rfl (by decide) rfl (by decide +kernel) rfl rfl (Nat.le_of_ble_eq_true rfl) (zW_zu (by decide) (by simp [zF, upd])) k
theorem zn_lt (q : Nat) : zn q < 2 ^ 31 := by unfold zn; split <;> (try split) <;> (try split) <;> (try split) <;> decide
theorem zb_ialdN {q j : Nat} (d : decode cc pc = .ok (.iaload, 1)) (hq : zia q) (hj : j < zn q) (k : zB l G Ts own cc nL ret xt R Fin cs sl (pc + 1) lv (.int (σ.1 q j) :: st) σ) : zB l G Ts own cc nL ret xt R Fin cs sl pc lv (.int (nI j) :: .ref (zad G q) :: st) σ :=
  zb_iald d hq (vp_in_nI hj (zn_lt q)) (by rw [nI_clamp (Nat.lt_trans hj (zn_lt q))]; exact k)
theorem zb_iastN {q j : Nat} {x : Int32} (d : decode cc pc = .ok (.iastore, 1)) (hq : zia q) (hj : j < zn q) (k : zB l G Ts own cc nL ret xt R Fin cs sl (pc + 1) lv st (zu σ q (upd (σ.1 q) j x))) : zB l G Ts own cc nL ret xt R Fin cs sl pc lv (.int x :: .int (nI j) :: .ref (zad G q) :: st) σ :=
  zb_iast d hq (vp_in_nI hj (zn_lt q)) (by rw [nI_clamp (Nat.lt_trans hj (zn_lt q))]; exact k)
theorem zb_copyN {q a b c : Nat} (hq : zia q) (ha : a + c ≤ zn q) (hb : b + c ≤ zn q) (hfr : 1 ≤ R.frames) (hlo : (st.map fun v => v.category).sum + (nativeFrameWords "java/lang/System" "arraycopy" 5 + 11) ≤ R.locals) (ho : own = R_Rel) (d : decode cc pc = .ok (.invokestatic 59, 3)) (k : zB l G Ts own cc nL ret xt R Fin cs sl (pc + 3) lv st (zu σ q (va_cpy (σ.1 q) (σ.1 q) a b c))) : zB l G Ts own cc nL ret xt R Fin cs sl pc lv (.int (nI c) :: .int (nI b) :: .ref (zad G q) :: .int (nI a) :: .ref (zad G q) :: st) σ := by
  have hz := zn_lt q
  subst ho
  refine zb_copy (index := 59) (zin 191 (by decide +kernel) (by decide +kernel)) (zin 193 (by decide +kernel) (by decide +kernel)) (zin 192 (by decide +kernel) (by decide +kernel)) (zin 9 (by decide +kernel) (by decide +kernel)) hq hq (nI_pos (by omega)) (nI_pos (by omega)) (nI_pos (by omega)) (by rw [nI_clamp (by omega), nI_clamp (by omega)]; exact ha) (by rw [nI_clamp (by omega), nI_clamp (by omega)]; exact hb) hfr hlo d ?_
  rw [nI_clamp (by omega), nI_clamp (by omega), nI_clamp (by omega)]
  exact k
end ZFL
/-- a relation's rows and what they stand for; what a change of it leaves alone -/
def zr (σ : zS) (q n : Nat) (m : Nat → Int32) : Prop := zrl q ∧ σ.1 q 1 = nI n ∧ zp (σ.1 (q + 1)) (σ.1 (q + 2)) n m
def zf (σ σ' : zS) (q : Nat) : Prop := (∀ k, k ≠ q → k ≠ q + 1 → k ≠ q + 2 → σ'.1 k = σ.1 k) ∧ σ'.2 = σ.2 ∧ σ'.1 q 0 = σ.1 q 0
def zrw (σ σ' : zS) (q n : Nat) (T C : Nat → Int32) : Prop := zf σ σ' q ∧ σ'.1 q 1 = nI n ∧ σ'.1 (q + 1) = T ∧ σ'.1 (q + 2) = C
theorem zf.rf (σ : zS) (q : Nat) : zf σ σ q := ⟨fun _ _ _ _ => rfl, rfl, rfl⟩
theorem zf.tr {σ σ1 σ2 : zS} {q : Nat} (h : zf σ σ1 q) (h2 : zf σ1 σ2 q) : zf σ σ2 q := ⟨fun k a b c => (h2.1 k a b c).trans (h.1 k a b c), h2.2.1.trans h.2.1, h2.2.2.trans h.2.2⟩
