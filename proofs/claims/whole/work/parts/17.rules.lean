section ZR2
variable {l : Launch} {G : zG} {Ts : List Cond} {own : String} {cc : ByteArray} {nL : Nat} {ret : Option FieldType} {xt : List ExceptionTableEntry} {R : Room} {Fin : List Frame → Array Value → State → State → Prop} {cs sl : Nat} {pc : Nat} {lv lv' : List (Nat × Value)} {st : List Value} {σ : zS}
theorem zb_iushr {x y : Int32} (d : decode cc pc = .ok (.iushr, 1)) (k : zB l G Ts own cc nL ret xt R Fin cs sl (pc + 1) lv (.int (ush x y) :: st) σ) : zB l G Ts own cc nL ret xt R Fin cs sl pc lv (.int y :: .int x :: st) σ :=
  fun p e s m args below meth c C H locs ls hl hP hD hS => lv_iushr C.ex C.bt d rfl (k p e s m args below meth c C H locs ls hl hP hD hS)
theorem zb_ldcw {index : Nat} {v : Int32} (hc : Cond.constant own index v ∈ zws) (d : decode cc pc = .ok (.ldc_w index, 3)) (k : zB l G Ts own cc nL ret xt R Fin cs sl (pc + 3) lv (.int v :: st) σ) : zB l G Ts own cc nL ret xt R Fin cs sl pc lv st σ :=
  fun p e s m args below meth c C H locs ls hl hP hD hS => lv_ldcw C.ex C.bt C.ow (C.zs _ hc) d (k p e s m args below meth c C H locs ls hl hP hD hS)
theorem zb_ldc {index : Nat} {v : Int32} (hc : Cond.constant own index v ∈ zws) (d : decode cc pc = .ok (.ldc index, 2)) (k : zB l G Ts own cc nL ret xt R Fin cs sl (pc + 2) lv (.int v :: st) σ) : zB l G Ts own cc nL ret xt R Fin cs sl pc lv st σ :=
  fun p e s m args below meth c C H locs ls hl hP hD hS => lv_ldc C.ex C.bt C.ow (C.zs _ hc) d (k p e s m args below meth c C H locs ls hl hP hD hS)
theorem zb_max {x y : Int32} (hlk : Cond.methodLink own 50 y_Jmath_max ∈ zws) (hfr : 1 ≤ R.frames) (hlo : (st.map fun v => v.category).sum + 13 ≤ R.locals) (hc : cs ≤ R.cells) (hs : sl ≤ R.slots) (d : decode cc pc = .ok (.invokestatic 50, 3)) (k : zB l G Ts own cc nL ret xt R Fin cs sl (pc + 3) lv (.int (if x < y then y else x) :: st) σ) : zB l G Ts own cc nL ret xt R Fin cs sl pc lv (.int y :: .int x :: st) σ :=
  fun p e s m args below meth c C H locs ls hl hP hD hS => va_mmax C.ex C.bt (C.ml.trans hl.1.symm) C.ow (C.zs _ hlk) (C.zs _ lk_Rel_50.2.2.1) (C.zs _ lk_Rel_50.2.2.2.1) (C.zs _ lk_Rel_50.1) hfr hlo hc hs d (k p e s m args below meth c C H locs ls hl hP hD hS)
theorem zb_min {x y : Int32} (hlk : Cond.methodLink own 138 y_Jmath_min ∈ zws) (hfr : 1 ≤ R.frames) (hlo : (st.map fun v => v.category).sum + 13 ≤ R.locals) (hc : cs ≤ R.cells) (hs : sl ≤ R.slots) (d : decode cc pc = .ok (.invokestatic 138, 3)) (k : zB l G Ts own cc nL ret xt R Fin cs sl (pc + 3) lv (.int (if y < x then y else x) :: st) σ) : zB l G Ts own cc nL ret xt R Fin cs sl pc lv (.int y :: .int x :: st) σ :=
  fun p e s m args below meth c C H locs ls hl hP hD hS => va_mmin C.ex C.bt (C.ml.trans hl.1.symm) C.ow (C.zs _ hlk) (C.zs _ lk_Sh_138.2.2.1) (C.zs _ lk_Sh_138.2.2.2.1) (C.zs _ lk_Sh_138.1) hfr hlo hc hs d (k p e s m args below meth c C H locs ls hl hP hD hS)
/-- numberAt, called by the nest mate -/
theorem zb_callSN {y0 : MethodName} {rest as : List Value} {φ : Option Value → zS → Prop} {rm : Room} (hM : zC l G y_Sh_numberAt w_Sh_numberAt rm 0 0 as σ φ) (hrc : rm.cells = 0) (hrs : rm.slots = 0) (hR : rm.frames + 1 ≤ R.frames ∧ 8 + (2 + 11) + rm.locals ≤ R.locals) (ho : own = R_Rel) (hT : Ts = zwy y0 cc nL ret)
    (hn : as.length = 2) (hst : st = as.reverse ++ rest) (hr : (rest.map fun v => v.category).sum ≤ 8) (d : decode cc pc = .ok (.invokestatic 41, 3)) (hf : cs + 0 ≤ R.cells ∧ sl + 0 ≤ R.slots) (k : ∀ (v : Option Value) (σ' : zS), φ v σ' → zB l G Ts own cc nL ret xt R Fin (cs + 0) (sl + 0) (pc + 3) lv (v.toList ++ rest) σ') : zB l G Ts own cc nL ret xt R Fin cs sl pc lv st σ := by
  subst hst
  subst ho
  subst hT
  intro p e s m args below meth c C H locs ls hl hP hD hS
  have hcode : Cond.code y_Sh_numberAt c_Sh_numberAt 2 (some .int) ∈ zws := lk_Sh_85.1
  exact zb_run C hl hS (va_runSN (As := as) (rest := rest) ⟨C.ex, C.bt, C.ml, C.ow, C.ts⟩ hM ⟨va_cnB 2 C.ts (zwy_good hcode) rfl hrc hrs C.st.2.2.2.2 (C.zs _ lk_Sh_85.2.2.2.1) lk_Sh_85.2.2.2.2 hR, C.zs _ lk_Sh_85.2.2.1, trivial⟩ ⟨zI.blind, fun U hU hW => ⟨rfl, zI.pre C hP hD hS U hU hW⟩⟩ rfl hn hl.1 rfl (lv_room hr) d hf) k
end ZR2
