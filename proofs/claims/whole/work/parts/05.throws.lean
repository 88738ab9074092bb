/-! METHODS THAT MAY THROW, in the words of the rows -/
def zXC (G : zG) (ψ : String → zS → Prop) : String → State → State → Prop := fun E _ t => ∃ σ : zS, ψ E σ ∧ zJ G σ t
def zCX (l : Launch) (G : zG) (y : MethodName) (ws : List Cond) (rm : Room) (mc ms : Nat) (as : List Value) (σ : zS) (φ : Option Value → zS → Prop) (ψ : String → zS → Prop) : Prop := vx_Met l y ws rm (va_Pc as (zI G σ)) (zQ G φ) (zXC G ψ) mc ms (zA G)
def zX (G : zG) (φ : Option Value → zS → Prop) (ψ : String → zS → Prop) (mc ms : Nat) : List Frame → Array Value → State → State → Prop := fun below args s => vx_MQ below (zQ G φ) (zXC G ψ) args s mc ms (zA G)
/-- an exception, an object of E, is thrown over the frame -/
def zBx (l : Launch) (G : zG) (Ts : List Cond) (own : String) (cc : ByteArray) (nL : Nat) (ret : Option FieldType) (xt : List ExceptionTableEntry) (R : Room) (Fin : List Frame → Array Value → State → State → Prop) (E : String) (cs sl : Nat) (pc : Nat) (lv : List (Nat × Value)) (st : List Value) (σ : zS) : Prop :=
  ∀ (p : Program) (e : Env) (s : State) (m : MethodId) (args : Array Value) (below : List Frame) (meth : Method) (c : Code), zCx G Ts own cc nL ret xt p s m args meth c →
    ∀ (H : Heap) (locs : List Loc) (ls : Array Slot), lv_has ls nL lv → va_P (zD G) vwCl (zW G σ) H → va_D (zA G) (zW G σ) → va_S (zA G) (zH G) H locs → ∀ (q : Addr) (ce : Cell), H[q]? = some ce → ce.vm = .none → s.vm.findClass E = some ce.cls → vx_W p l e R s m args below meth c H locs cs sl (Fin below args s) (F0 m pc ls st) q
section ZX
variable {l : Launch} {G : zG} {Ts : List Cond} {own : String} {cc : ByteArray} {nL : Nat} {ret : Option FieldType} {xt : List ExceptionTableEntry} {R : Room} {Fin : List Frame → Array Value → State → State → Prop} {cs sl : Nat} {pc : Nat} {lv lv' : List (Nat × Value)} {st : List Value} {σ : zS} {φ : Option Value → zS → Prop} {ψ : String → zS → Prop}
theorem zCX_of {y : MethodName} {as : List Value} {mc ms : Nat} (hy : plainName y.cls = true) (hw : Ts = zwy y cc nL ret) (ho : y.cls = own) (hn : (lg_sl as).length ≤ nL) (k : zB l G Ts own cc nL ret [] R (zX G φ ψ mc ms) 0 0 0 (lv_args 0 as) [] σ) : zCX l G y Ts R mc ms as σ φ ψ := by
  refine vx_ofW (cc := cc) (maxL := nL) (ret := ret) hy hw ?_
  intro p e s m args below meth c s₁ B hml hx0 hv
  obtain ⟨rfl, ⟨hP, hD, hold⟩, hK, hst⟩ := hv
  rw [lg_entry_eq]
  exact k p e s m _ below meth c ⟨B.exec, B.bytes, hml, B.returns, B.notSynchronized, atoms_spec B.pre, fun w h => by rw [hw]; exact zwy_in h, by rw [← ho]; exact findClass_of_methodNamed B.named, hK, hst, List.eq_nil_iff_forall_not_mem.mpr (fun x hx => hx0 x hx), hold⟩ s.heap [] _ (lv_entry as hn) hP hD hold
/-- a method that always returns is one that may throw -/
theorem zx_ret {mc ms : Nat} (k : zB l G Ts own cc nL ret xt R (zR G φ mc ms) cs sl pc lv st σ) : zB l G Ts own cc nL ret xt R (zX G φ ψ mc ms) cs sl pc lv st σ :=
  fun p e s m args below meth c C H locs ls hl hP hD hS => vx_ret (k p e s m args below meth c C H locs ls hl hP hD hS)
theorem zx_run {mc ms : Nat} {rest : List Value} {a : Array Value} {p : Program} {e : Env} {s : State} {m : MethodId} {args : Array Value} {below : List Frame} {meth : Method} {c : Code} {H : Heap} {locs : List Loc} {ls : Array Slot} (C : zCx G Ts own cc nL ret xt p s m args meth c) (hl : lv_has ls nL lv) (hS : va_S (zA G) (zH G) H locs)
    (run : vx_Run p l e R s m args below meth c H locs cs sl mc ms (F0 m pc ls st) rest (zQ G φ a) (zXC G ψ) (zA G)) (k : ∀ (v : Option Value) (σ' : zS), φ v σ' → zB l G Ts own cc nL ret xt R Fin (cs + mc) (sl + ms) (pc + 3) lv (v.toList ++ rest) σ') (kx : ∀ (E : String) (σ' : zS), ψ E σ' → zBx l G Ts own cc nL ret xt R Fin E (cs + mc) (sl + ms) pc lv rest σ') : W p l e R s m args below meth c H locs cs sl (Fin below args s) (F0 m pc ls st) := by
  intro T hT X
  have hlc : ∀ {L : List Loc}, (∀ q ∈ L, zA G q.base) → ∀ q ∈ locs ++ L, zA G q.base := fun hL q hq => by
    rcases List.mem_append.mp hq with h | h
    · exact hS.2.2 q h
    · exact hL q h
  rcases run T hT X with ⟨v, st₀, t, T', L, h0, X', hL, e1, e2, ⟨v', σ', hv, hφ, hP', hD', hold'⟩, stp⟩ | ⟨q, st₀, t, T', L, E, ce, h0, X', hL, e1, e2, ⟨σ', hψ, hP', hD', hold'⟩, hce, hcv, hcl, stp⟩
  · cases hv
    obtain ⟨t2, a1, b1⟩ := k v σ' hφ p e s m args below meth c C T'.heap (locs ++ L) ls hl (by rw [e1]; exact hP') hD' ⟨by rw [e1]; exact hold'.1, by rw [e1]; exact hold'.2.1, hlc hL⟩ T' rfl X'
    exact ⟨t2, stp t2 a1, b1⟩
  · obtain ⟨t2, a1, b1⟩ := kx E σ' hψ p e s m args below meth c C T'.heap (locs ++ L) ls hl (by rw [e1]; exact hP') hD' ⟨by rw [e1]; exact hold'.1, by rw [e1]; exact hold'.2.1, hlc hL⟩ q ce (by rw [e1]; exact hce) hcv hcl T' rfl X'
    exact ⟨t2, stp.trans a1, b1⟩
theorem zx_callS {y : MethodName} {bytes : ByteArray} {maxL n index mc ms : Nat} {ret' : Option FieldType} {ws : List Cond} {rm : Room} {as rest : List Value} (hM : zCX l G y ws rm mc ms as σ φ ψ) (cw : ∀ (s : State) (args : Array Value), (∀ w ∈ Ts, w.before args s = true) → CallB R s args own index y bytes maxL ret' ws rm mc ms n ∧ (Cond.static y).before args s = true)
    (hn : as.length = n) (hst : st = as.reverse ++ rest) (hr : (rest.map fun v => v.category).sum ≤ 8) (d : decode cc pc = .ok (.invokestatic index, 3)) (hf : cs + mc ≤ R.cells ∧ sl + ms ≤ R.slots) (k : ∀ (v : Option Value) (σ' : zS), φ v σ' → zB l G Ts own cc nL ret xt R Fin (cs + mc) (sl + ms) (pc + 3) lv (v.toList ++ rest) σ') (kx : ∀ (E : String) (σ' : zS), ψ E σ' → zBx l G Ts own cc nL ret xt R Fin E (cs + mc) (sl + ms) pc lv rest σ') : zB l G Ts own cc nL ret xt R Fin cs sl pc lv st σ := by
  subst hst
  intro p e s m args below meth c C H locs ls hl hP hD hS
  exact zx_run C hl hS (vx_runS (As := as) (rest := rest) ⟨C.ex, C.bt, C.ml, C.ow, C.ts⟩ hM (cw s args C.ts) ⟨zI.blind, fun U hU hW => ⟨rfl, zI.pre C hP hD hS U hU hW⟩⟩ rfl hn hl.1 rfl (lv_room hr) d hf) k kx
theorem zx_callV {y : MethodName} {bytes : ByteArray} {maxL n index mc ms q ci : Nat} {ret' : Option FieldType} {ws : List Cond} {rm : Room} {as rest : List Value} {C0 : String} {fs : List Value} {kc : vw_C} (hM : zCX l G y ws rm mc ms (.ref (zad G q) :: as) σ φ ψ) (cw : ∀ (s : State) (args : Array Value), (∀ w ∈ Ts, w.before args s = true) → CallW R s args own C0 index y bytes maxL ret' ws rm mc ms n)
    (hq : (zW G σ)[q]? = some (zad G q, .inr (ci, fs))) (hc : vwCl[ci]? = some kc) (hC0 : kc.1 = C0) (hn : as.length = n) (hst : st = as.reverse ++ .ref (zad G q) :: rest) (hr : (rest.map fun v => v.category).sum ≤ 8) (d : decode cc pc = .ok (.invokevirtual index, 3)) (hf : cs + mc ≤ R.cells ∧ sl + ms ≤ R.slots) (k : ∀ (v : Option Value) (σ' : zS), φ v σ' → zB l G Ts own cc nL ret xt R Fin (cs + mc) (sl + ms) (pc + 3) lv (v.toList ++ rest) σ') (kx : ∀ (E : String) (σ' : zS), ψ E σ' → zBx l G Ts own cc nL ret xt R Fin E (cs + mc) (sl + ms) pc lv rest σ') : zB l G Ts own cc nL ret xt R Fin cs sl pc lv st σ := by
  subst hst
  subst hC0
  intro p e s m args below meth c C H locs ls hl hP hD hS
  exact zx_run C hl hS (vx_runV (As := as) (rest := rest) ⟨C.ex, C.bt, C.ml, C.ow, C.ts⟩ hM (cw s args C.ts) ⟨zI.blind, va_recv C.K hP hc hq, fun U hU hW => ⟨rfl, zI.pre C hP hD hS U hU hW⟩⟩ rfl hn hl.1 rfl (lv_room hr) d hf) k kx
/-- it goes on out of this method -/
theorem zx_out {E : String} {mc ms : Nat} (hψ : ψ E σ) (hc : cs ≤ mc) (hs : sl ≤ ms) : zBx l G Ts own cc nL ret [] R (zX G φ ψ mc ms) E cs sl pc lv st σ :=
  fun p e s m args below meth c C H locs ls hl hP hD hS q ce hq hv hcl => vx_out (by rw [C.tb]; intro x hx; cases hx) C.lk hq hv hcl (fun t ht hA => ⟨σ, hψ, by rw [ht]; exact hP, hD, by rw [ht]; exact ⟨hS.1, hS.2.1, fun q h => by cases h⟩⟩) hS.2.2 hc hs
/-- the words of a new exception's chain -/
def zxw (own : String) (ik ic : Nat) (E : String) : Prop := Bundle.fit E = true ∧ Cond.classLink own ik E ∈ zws ∧ Cond.initialized E ∈ zws ∧ (∀ w ∈ (vx_at0 own ic E ["java/lang/RuntimeException", "java/lang/Exception"]).filter goodWord, w ∈ zws) ∧
  (∀ w ∈ (vx_at0 own ic E ["java/lang/RuntimeException", "java/lang/Exception"]).filter (fun w => !goodWord w), w ∈ ([.declares (Bundle.init0 "java/lang/RuntimeException"), .declares (Bundle.init0 "java/lang/Exception"), .declares (Bundle.init0 Bundle.tN), .castable E E] : List Cond)) ∧
  ∀ w ∈ Cond.classLink own ik E :: Cond.initialized E :: vx_at0 own ic E ["java/lang/RuntimeException", "java/lang/Exception"], vx_ot w = true
theorem zx_throw {E : String} {ik ic mc ms : Nat} (hE : zxw own ik ic E) (hcE : E = zNS ∨ E = zIA ∨ E = zIS) (htr : l.stackTraces = false) (d0 : decode cc pc = .ok (.new ik, 3)) (d3 : decode cc (pc + 3) = .ok (.dup, 1)) (d4 : decode cc (pc + 4) = .ok (.invokespecial ic, 3)) (d7 : decode cc (pc + 7) = .ok (.athrow, 1))
    (hRf : 5 < R.frames) (hRl : (st.map fun v => v.category).sum + 81 ≤ R.locals) (hRc : cs + 1 ≤ R.cells) (hRs : sl + 6 ≤ R.slots) (hc : cs + 1 ≤ mc) (hs : sl + 6 ≤ ms) (hψ : ψ E σ) : zB l G Ts own cc nL ret [] R (zX G φ ψ mc ms) cs sl pc lv st σ := by
  intro p e s m args below meth c C H locs ls hl hP hD hS T hT X
  obtain ⟨h1, h2, h3, h4, h5, h6⟩ := hE
  obtain ⟨⟨z1, z2⟩, ⟨b1, b2, b3⟩, ⟨c1, c2, c3⟩, -, -⟩ := C.st
  have hkp : ∀ a : Nat, a < (zH G).size → ¬ zA G a → s.heap[a]? = (zH G)[a]? := C.w0.2.1
  have hca : va_Nw (.castable E E) s := by
    rcases hcE with rfl | rfl | rfl
    · exact c1
    · exact c2
    · exact c3
  have hsz : s.heap.size ≤ H.size := by rw [← hT]; exact X.same.2.1
  exact vx_throw0 C.ex C.bt htr (names := ["java/lang/RuntimeException", "java/lang/Exception"]) (A := zA G) C.ow h1 (by decide +kernel) (C.zs _ h2) (C.zs _ h3)
    (vx_hat (fun w hw => C.zs w (h4 w hw)) h5 (vx_c (b1.use rfl) (vx_c (b2.use rfl) (vx_c (b3.use rfl) (vx_c (hca.use rfl) vx_n))))) h6 (z1.kept hkp) (z2.kept hkp)
    ⟨hsz, fun q q1 q2 => (hS.2.1 q (Nat.not_le.mp q2) q2).trans (hkp q (Nat.not_le.mp q2) q2).symm, hS.2.2⟩ (hl.1.trans C.ml.symm) d0 d3 d4 d7 (by rw [C.tb]; intro x hx; cases hx) hRf (by show _ + (13 * 3 + 42) ≤ _; omega) hRc hRs C.lk
    (fun t hA q1 q2 => ⟨σ, hψ, hP.kept (fun k q hk => q2 q.1 (hP k q hk).lt), hD, Nat.le_trans hS.1 q1, fun q g1 g2 => (q2 q (Nat.lt_of_lt_of_le g1 hS.1)).trans (hS.2.1 q g1 g2), fun q h => by cases h⟩) hS.2.2 hc hs T hT X
end ZX
theorem xw_NS : zxw R_Sh 57 59 zNS := ⟨by decide +kernel, by decide +kernel, by decide +kernel, by decide +kernel, by decide +kernel, by decide +kernel⟩
theorem xw_IA : zxw R_Sh 123 125 zIA := ⟨by decide +kernel, by decide +kernel, by decide +kernel, by decide +kernel, by decide +kernel, by decide +kernel⟩
theorem xw_IS : zxw R_Sh 126 128 zIS := ⟨by decide +kernel, by decide +kernel, by decide +kernel, by decide +kernel, by decide +kernel, by decide +kernel⟩
