/-! METHODS WITH HANDLERS: the law's own, which catch what the shelf throws -/
abbrev zwh (y : MethodName) (cc : ByteArray) (n : Nat) (ret : Option FieldType) (hh : List (Nat × Nat × Nat × Nat)) : List Cond := .codeWith y cc n ret hh :: zws
theorem zwh_in {y : MethodName} {cc : ByteArray} {n : Nat} {ret : Option FieldType} {hh : List (Nat × Nat × Nat × Nat)} {w : Cond} (h : w ∈ zws) : w ∈ zwh y cc n ret hh := List.mem_cons_of_mem _ h
theorem lk_c13 : Cond.classLink R_La 13 zNS ∈ zws := zin 59 (by decide +kernel) (by decide +kernel)
theorem lk_c15 : Cond.classLink R_La 15 zIA ∈ zws := zin 60 (by decide +kernel) (by decide +kernel)
theorem lk_c21 : Cond.classLink R_La 21 zIS ∈ zws := zin 160 (by decide +kernel) (by decide +kernel)
theorem zul_at {G : zG} {σ : zS} (f : Nat → Int64) : (zW G σ).set 35 (zad G 35, .inl (zcJ G, 1, .inr (.inl f))) = zW G (zul σ f) :=
  zW_set (by decide) rfl (fun k hk => by simp [zF, zul, hk])
section ZH
variable {l : Launch} {G : zG} {Ts : List Cond} {own : String} {cc : ByteArray} {nL : Nat} {ret : Option FieldType} {xt : List ExceptionTableEntry} {R : Room} {Fin : List Frame → Array Value → State → State → Prop} {cs sl : Nat} {pc : Nat} {lv lv' : List (Nat × Value)} {st : List Value} {σ : zS}
theorem zCH_of {y : MethodName} {as : List Value} {φ : Option Value → zS → Prop} {mc ms : Nat} {hh : List (Nat × Nat × Nat × Nat)} (hy : plainName y.cls = true) (hw : Ts = zwh y cc nL ret hh) (ho : y.cls = own) (hn : (lg_sl as).length ≤ nL) (k : zB l G Ts own cc nL ret (tableOf hh) R (zR G φ mc ms) 0 0 0 (lv_args 0 as) [] σ) : zC l G y Ts R mc ms as σ φ := by
  refine va_MetW (cc := cc) (maxL := nL) (ret := ret) (hh := hh) hy hw ?_
  intro p e s m args below meth c s₁ B hml hv
  obtain ⟨rfl, ⟨hP, hD, hold⟩, hK, hst⟩ := hv
  have hx0 : c.exceptionTable.toList = tableOf hh := vx_table (x := y) B (atoms_spec (ws := Ts) B.pre _ (by rw [hw]; exact List.mem_cons_self))
  rw [lg_entry_eq]
  exact k p e s m _ below meth c ⟨B.exec, B.bytes, hml, B.returns, B.notSynchronized, atoms_spec B.pre, fun w h => by rw [hw]; exact zwh_in h, by rw [← ho]; exact findClass_of_methodNamed B.named, hK, hst, hx0, hold⟩ s.heap [] _ (lv_entry as hn) hP hD hold
theorem zb_lastN {x : Int64} (d : decode cc pc = .ok (.lastore, 1)) (k : zB l G Ts own cc nL ret xt R Fin cs sl (pc + 1) lv st (zul σ (vp_updL σ.2 0 x))) : zB l G Ts own cc nL ret xt R Fin cs sl pc lv (.long x :: .int (nI 0) :: .ref (zad G 35) :: st) σ :=
  fun p e s m args below meth c C H locs ls hl hP hD hS => va_last C.1 C.2.1 C.K hP hD hS 35 1 (by rw [zW_at (by decide)]; rfl) rfl (vp_in_nI (show 0 < 1 by decide) (by decide)) d (fun H1 locs1 hP hD hS => by
    rw [nI_clamp (by decide), zul_at] at hP hD
    exact k p e s m args below meth c C H1 locs1 ls hl hP hD hS)
theorem zx_h1 {x : ExceptionTableEntry} {suf : List ExceptionTableEntry} (ho : own = R_La) (hxt : xt = x :: suf) (hx : covers x pc = true) (h0 : x.catchType = 13) (k : ∀ q : Nat, zB l G Ts own cc nL ret xt R Fin cs sl x.handlerPc lv [.ref q] σ) : zBx l G Ts own cc nL ret xt R Fin zNS cs sl pc lv st σ := by
  subst ho
  intro p e s m args below meth c C H locs ls hl hP hD hS q ce hq hv hcl
  obtain ⟨-, -, ⟨c1, c2, c3⟩, -, -⟩ := C.st
  refine vx_catch (own := R_La) (name := zNS) (E := zNS) C.ow [] x suf (C.tb.trans hxt) (fun z hz => nomatch hz) hx (by rw [h0]; decide) (by rw [h0]; exact C.zs _ lk_c13) (c1.use rfl) hq hv hcl ?_
  exact k q p e s m args below meth c C H locs ls hl hP hD hS
theorem zx_h2 {x0 x : ExceptionTableEntry} {suf : List ExceptionTableEntry} (ho : own = R_La) (hxt : xt = x0 :: x :: suf) (hx : covers x pc = true) (h13 : x0.catchType = 13) (h0 : x.catchType = 15) (k : ∀ q : Nat, zB l G Ts own cc nL ret xt R Fin cs sl x.handlerPc lv [.ref q] σ) : zBx l G Ts own cc nL ret xt R Fin zIA cs sl pc lv st σ := by
  subst ho
  intro p e s m args below meth c C H locs ls hl hP hD hS q ce hq hv hcl
  obtain ⟨-, -, ⟨c1, c2, c3⟩, ⟨d1, d2, d3⟩, -⟩ := C.st
  refine vx_catch (own := R_La) (name := zIA) (E := zIA) C.ow [x0] x suf (C.tb.trans hxt) (fun z hz => ?_) hx (by rw [h0]; decide) (by rw [h0]; exact C.zs _ lk_c15) (c2.use rfl) hq hv hcl ?_
  · rw [List.mem_singleton.mp hz]
    exact Or.inr ⟨by rw [h13]; decide, zNS, by rw [h13]; exact C.zs _ lk_c13, d1⟩
  · exact k q p e s m args below meth c C H locs ls hl hP hD hS
theorem zx_h3 {x0 x1 x : ExceptionTableEntry} {suf : List ExceptionTableEntry} (ho : own = R_La) (hxt : xt = x0 :: x1 :: x :: suf) (hx : covers x pc = true) (h13 : x0.catchType = 13) (h15 : x1.catchType = 15) (h0 : x.catchType = 21) (k : ∀ q : Nat, zB l G Ts own cc nL ret xt R Fin cs sl x.handlerPc lv [.ref q] σ) : zBx l G Ts own cc nL ret xt R Fin zIS cs sl pc lv st σ := by
  subst ho
  intro p e s m args below meth c C H locs ls hl hP hD hS q ce hq hv hcl
  obtain ⟨-, -, ⟨c1, c2, c3⟩, ⟨d1, d2, d3⟩, -⟩ := C.st
  refine vx_catch (own := R_La) (name := zIS) (E := zIS) C.ow [x0, x1] x suf (C.tb.trans hxt) (fun z hz => ?_) hx (by rw [h0]; decide) (by rw [h0]; exact C.zs _ lk_c21) (c3.use rfl) hq hv hcl ?_
  · rcases List.mem_cons.mp hz with e1 | e1
    · rw [e1]
      exact Or.inr ⟨by rw [h13]; decide, zNS, by rw [h13]; exact C.zs _ lk_c13, d2⟩
    · rw [List.mem_singleton.mp e1]
      exact Or.inr ⟨by rw [h15]; decide, zIA, by rw [h15]; exact C.zs _ lk_c15, d3⟩
  · exact k q p e s m args below meth c C H locs ls hl hP hD hS
/-- what a call of a method with handlers rests on -/
def zlW (own : String) (idx : Nat) (y : MethodName) (bytes : ByteArray) (maxL : Nat) (ret : Option FieldType) (hh : List (Nat × Nat × Nat × Nat)) (n : Nat) : Prop := Cond.codeWith y bytes maxL ret hh ∈ zws ∧ Cond.methodLink own idx y ∈ zws ∧ Cond.static y ∈ zws ∧ Cond.initialized y.cls ∈ zws ∧ y.cls ≠ "java/lang/invoke/MethodHandle" ∧ y.cls ≠ "java/lang/invoke/VarHandle" ∧ (parseMethodDescriptor y.desc).map (fun d => d.parameters.length) = some n
theorem zlW.cw {y : MethodName} {bytes : ByteArray} {maxL n idx mc ms : Nat} {ret' : Option FieldType} {hh : List (Nat × Nat × Nat × Nat)} {rm : Room} (h : zlW own idx y bytes maxL ret' hh n) (hT : ∀ w ∈ zws, w ∈ Ts) (hrc : rm.cells = mc) (hrs : rm.slots = ms) (hR : rm.frames + 1 ≤ R.frames ∧ 8 + (maxL + 11) + rm.locals ≤ R.locals) (s : State) (args : Array Value) (ht : ∀ w ∈ Ts, w.before args s = true) : vx_CSW R s args own idx y bytes maxL ret' hh (zwh y bytes maxL ret' hh) rm mc ms n := by
  refine vx_cwSW n ht (fun w hw => ?_) rfl hrc hrs h.2.2.2.2 hR
  have hz : w ∈ zws := by
    rcases List.mem_append.mp hw with q | q
    · simp only [List.mem_cons, List.not_mem_nil, or_false] at q
      rcases q with rfl | rfl | rfl
      · exact h.2.1
      · exact h.2.2.1
      · exact h.2.2.2.1
    · rcases List.mem_cons.mp q with e | e
      · rw [e]; exact h.1
      · exact e
  exact ⟨hT w hz, zws_good hz⟩
theorem zb_callSW {y : MethodName} {bytes : ByteArray} {maxL n index mc ms : Nat} {ret' : Option FieldType} {hh : List (Nat × Nat × Nat × Nat)} {ws : List Cond} {rm : Room} {φ : Option Value → zS → Prop} {as rest : List Value} (hM : zC l G y ws rm mc ms as σ φ) (cw : ∀ (s : State) (args : Array Value), (∀ w ∈ Ts, w.before args s = true) → vx_CSW R s args own index y bytes maxL ret' hh ws rm mc ms n)
    (hn : as.length = n) (hst : st = as.reverse ++ rest) (hr : (rest.map fun v => v.category).sum ≤ 8) (d : decode cc pc = .ok (.invokestatic index, 3)) (hf : cs + mc ≤ R.cells ∧ sl + ms ≤ R.slots) (k : ∀ (v : Option Value) (σ' : zS), φ v σ' → zB l G Ts own cc nL ret xt R Fin (cs + mc) (sl + ms) (pc + 3) lv (v.toList ++ rest) σ') : zB l G Ts own cc nL ret xt R Fin cs sl pc lv st σ := by
  subst hst
  intro p e s m args below meth c C H locs ls hl hP hD hS
  exact zb_run C hl hS (vx_runSW (As := as) (rest := rest) ⟨C.1, C.2.1, C.ml, C.ow, C.ts⟩ hM (cw s args C.ts) ⟨zI.blind, fun U hU hW => ⟨rfl, zI.pre C hP hD hS U hU hW⟩⟩ rfl hn hl.1 rfl (lv_room hr) d hf) k
end ZH
