/-! THE WORLD AS ROWS OF NUMBERS. Cell number q (0: the shelf, 1: its array of relations, 2+3i: relation i, then its tuples and counts, 29: reached, 30: the reference, 31: its widths, 32: counts, 33: made, 34: way, 35: the law's out) lies at the address zad G q; row q of the state is what it holds. -/
abbrev zS : Type := (Nat → Nat → Int32) × (Nat → Int64)
def zu (σ : zS) (k : Nat) (f : Nat → Int32) : zS := (fun q => if q = k then f else σ.1 q, σ.2)
def zul (σ : zS) (f : Nat → Int64) : zS := (σ.1, f)
abbrev zG : Type := va_G × (Nat → Nat) × Heap × ClassId × ClassId × ClassId × ClassId
def zD (G : zG) : va_G := G.1
def zad (G : zG) : Nat → Nat := G.2.1
def zH (G : zG) : Heap := G.2.2.1
def zcI (G : zG) : ClassId := G.2.2.2.1
def zcJ (G : zG) : ClassId := G.2.2.2.2.1
def zcZ (G : zG) : ClassId := G.2.2.2.2.2.1
def zcR (G : zG) : ClassId := G.2.2.2.2.2.2
def zT (G : zG) : List (ClassId × FieldType) := [(zcI G, .int), (zcJ G, .long), (zcZ G, .boolean), (zcR G, .object R_Rel)]
def zA (G : zG) : Nat → Prop := fun q => (zH G).size ≤ q
def zn (q : Nat) : Nat := if q < 29 then 300 else if q = 29 then 16 else if q = 31 then 8 else if q = 32 then 32768 else 4096
def zF (G : zG) (q : Nat) (r : Nat → Int32) (x : Nat → Int64) : va_E :=
  if q = 0 then .inr (n_Shelf, [.ref (zad G 1), .ref (zad G (r 0).toNatClampNeg), .ref (zad G 29)])
  else if q = 1 then .inl (zcR G, 8, .inr (.inr (.inr (.inr (fun j => some (zad G (r j).toNatClampNeg))))))
  else if q < 29 ∧ q % 3 = 2 then .inr (n_Rel, [.ref (zad G (q + 1)), .ref (zad G (q + 2)), .int (r 0), .int (r 1)])
  else if q = 30 then .inr (n_Model, [.int (r 0), .ref (zad G 31), .ref (zad G 32), .ref (zad G 33), .ref (zad G 34)])
  else if q = 34 then .inl (zcZ G, 256, .inl r)
  else if q = 35 then .inl (zcJ G, 1, .inr (.inl x))
  else .inl (zcI G, zn q, .inl r)
def zW (G : zG) (σ : zS) : va_W := (List.range 36).map fun q => (zad G q, zF G q (σ.1 q) σ.2)
/-- an int array; a relation -/
def zia (q : Nat) : Prop := (2 ≤ q ∧ q < 29 ∧ q % 3 ≠ 2) ∨ q = 29 ∨ q = 31 ∨ q = 32 ∨ q = 33
def zrl (q : Nat) : Prop := 2 ≤ q ∧ q < 29 ∧ q % 3 = 2
theorem zF_int {G : zG} {q : Nat} {r : Nat → Int32} {x : Nat → Int64} (h : zia q) : zF G q r x = .inl (zcI G, zn q, .inl r) := by
  unfold zia at h
  unfold zF
  rw [if_neg (by omega), if_neg (by omega), if_neg (by omega), if_neg (by omega), if_neg (by omega), if_neg (by omega)]
theorem zF_rel {G : zG} {q : Nat} {r : Nat → Int32} {x : Nat → Int64} (h : zrl q) : zF G q r x = .inr (n_Rel, [.ref (zad G (q + 1)), .ref (zad G (q + 2)), .int (r 0), .int (r 1)]) := by
  unfold zrl at h
  unfold zF
  rw [if_neg (by omega), if_neg (by omega), if_pos ⟨h.2.1, h.2.2⟩]
theorem zia.lt {q : Nat} (h : zia q) : q < 36 := by unfold zia at h; omega
theorem zrl.lt {q : Nat} (h : zrl q) : q < 36 := by unfold zrl at h; omega
theorem zrl.t {q : Nat} (h : zrl q) : zia (q + 1) := by unfold zrl at h; unfold zia; omega
theorem zrl.c {q : Nat} (h : zrl q) : zia (q + 2) := by unfold zrl at h; unfold zia; omega
theorem zrl.nt {q : Nat} (h : zrl q) : zn (q + 1) = 300 := by unfold zrl at h; unfold zn; rw [if_pos (by omega)]
theorem zrl.nc {q : Nat} (h : zrl q) : zn (q + 2) = 300 := by unfold zrl at h; unfold zn; rw [if_pos (by omega)]
theorem zW_at {G : zG} {σ : zS} {q : Nat} (h : q < 36) : (zW G σ)[q]? = some (zad G q, zF G q (σ.1 q) σ.2) := by
  unfold zW
  rw [List.getElem?_map, List.getElem?_range h]
  rfl
theorem zW_none {G : zG} {σ : zS} {q : Nat} (h : ¬ q < 36) : (zW G σ)[q]? = none := by
  apply List.getElem?_eq_none
  simp [zW]
  omega
theorem zW_set {G : zG} {σ σ' : zS} {q : Nat} {e : va_E} (h : q < 36) (he : zF G q (σ'.1 q) σ'.2 = e) (ho : ∀ k, k ≠ q → zF G k (σ'.1 k) σ'.2 = zF G k (σ.1 k) σ.2) : (zW G σ).set q (zad G q, e) = zW G σ' := by
  apply List.ext_getElem?
  intro k
  by_cases hk : k = q
  · subst hk
    rw [List.getElem?_set_self (by simp [zW]; exact h), zW_at h, he]
  · rw [List.getElem?_set_ne (Ne.symm hk)]
    by_cases h36 : k < 36
    · rw [zW_at h36, zW_at h36, ho k hk]
    · rw [zW_none h36, zW_none h36]
theorem zu_self (σ : zS) (k : Nat) (f : Nat → Int32) : (zu σ k f).1 k = f := by simp [zu]
theorem zu_ne (σ : zS) {k q : Nat} (f : Nat → Int32) (h : q ≠ k) : (zu σ k f).1 q = σ.1 q := by simp [zu, h]
theorem zW_zu {G : zG} {σ : zS} {q : Nat} {f : Nat → Int32} {e : va_E} (h : q < 36) (he : zF G q f σ.2 = e) : (zW G σ).set q (zad G q, e) = zW G (zu σ q f) :=
  zW_set h (by rw [zu_self]; exact he) (fun k hk => by rw [zu_ne σ f hk]; rfl)
def zNS : String := "java/util/NoSuchElementException"
def zIA : String := "java/lang/IllegalArgumentException"
def zIS : String := "java/lang/IllegalStateException"
/-- words that no list keeps: of the exceptions' chain, of the handlers, of a nest mate's method; and what the two statics of Throwable hold -/
def zSt (G : zG) (U : State) : Prop := (vx_Zq Bundle.tN "UNASSIGNED_STACK" Bundle.steD (zA G) U (zH G) ∧ vx_Zq Bundle.tN "SUPPRESSED_SENTINEL" Bundle.listD (zA G) U (zH G)) ∧
  (va_Nw (.declares (Bundle.init0 "java/lang/RuntimeException")) U ∧ va_Nw (.declares (Bundle.init0 "java/lang/Exception")) U ∧ va_Nw (.declares (Bundle.init0 Bundle.tN)) U) ∧
  (va_Nw (.castable zNS zNS) U ∧ va_Nw (.castable zIA zIA) U ∧ va_Nw (.castable zIS zIS) U) ∧ (va_Nc zIA zNS U ∧ va_Nc zIS zNS U ∧ va_Nc zIS zIA U) ∧ va_Nw (.methodLinkNest R_Rel 41 y_Sh_numberAt R_Sh) U
theorem zSt.moved {G : zG} {u U : State} (hW : u.WarmedH U.vm) (h : zSt G u) : zSt G U := by
  obtain ⟨⟨a1, a2⟩, ⟨b1, b2, b3⟩, ⟨c1, c2, c3⟩, ⟨d1, d2, d3⟩, e1⟩ := h
  exact ⟨⟨a1.moved hW.alike, a2.moved hW.alike⟩, ⟨va_Nw.warmD hW b1, va_Nw.warmD hW b2, va_Nw.warmD hW b3⟩, ⟨va_Nw.warmC hW c1, va_Nw.warmC hW c2, va_Nw.warmC hW c3⟩, ⟨d1.moved hW.alike, d2.moved hW.alike, d3.moved hW.alike⟩, va_Nw.warmM hW e1⟩
/-- the world holds the state, its cells apart; what was there before the law began is as it was -/
def zJ (G : zG) (σ : zS) (U : State) : Prop := va_P (zD G) vwCl (zW G σ) U.heap ∧ va_D (zA G) (zW G σ) ∧ va_S (zA G) (zH G) U.heap []
/-- .. and the tables are as they must be -/
def zI (G : zG) (σ : zS) (U : State) : Prop := zJ G σ U ∧ va_K (zD G) vwCl (zT G) U ∧ zSt G U
/-- a method's end: it returned, with an answer and a state as φ has it -/
def zQ (G : zG) (φ : Option Value → zS → Prop) : Array Value → State → Outcome → State → Prop := fun _ _ o t => ∃ (v : Option Value) (σ : zS), o = .returned v ∧ φ v σ ∧ zJ G σ t
def zC (l : Launch) (G : zG) (y : MethodName) (ws : List Cond) (rm : Room) (mc ms : Nat) (as : List Value) (σ : zS) (φ : Option Value → zS → Prop) : Prop := Met l y ws rm (va_Pc as (zI G σ)) (zQ G φ) mc ms (zA G)
theorem zI.blind {G : zG} {σ : zS} {as : List Value} : FrameBlind (va_Pc as (zI G σ)) := fun a U g mk q => by
  obtain ⟨q0, qJ, qK, qs⟩ := q
  exact ⟨q0, qJ, va_K.moved (u := U) (U := U.calling g mk a) (Vm.Alike.refl U.vm) qK, zSt.moved (u := U) (U := U.calling g mk a) (State.WarmedH.refl U) qs⟩
/-- what stands fixed during one call of a method -/
def zCx (G : zG) (Ts : List Cond) (own : String) (cc : ByteArray) (nL : Nat) (ret : Option FieldType) (xt : List ExceptionTableEntry) (p : Program) (s : State) (m : MethodId) (args : Array Value) (meth : Method) (c : Code) : Prop :=
  p.tables.exec = Jvm.exec ∧ c.code = cc ∧ c.maxLocals = nL ∧ meth.sig.returnType = ret ∧ meth.locks = false ∧ (∀ w ∈ Ts, w.before args s = true) ∧ (∀ w ∈ zws, w ∈ Ts) ∧ s.vm.findClass own = some m.cls ∧ va_K (zD G) vwCl (zT G) s ∧ zSt G s ∧ c.exceptionTable.toList = xt ∧ va_S (zA G) (zH G) s.heap []
section ZCX
variable {G : zG} {Ts : List Cond} {own : String} {cc : ByteArray} {nL : Nat} {ret : Option FieldType} {xt : List ExceptionTableEntry} {p : Program} {s : State} {m : MethodId} {args : Array Value} {meth : Method} {c : Code}
theorem zCx.ex (C : zCx G Ts own cc nL ret xt p s m args meth c) : p.tables.exec = Jvm.exec := C.1
theorem zCx.bt (C : zCx G Ts own cc nL ret xt p s m args meth c) : c.code = cc := C.2.1
theorem zCx.ml (C : zCx G Ts own cc nL ret xt p s m args meth c) : c.maxLocals = nL := C.2.2.1
theorem zCx.re (C : zCx G Ts own cc nL ret xt p s m args meth c) : meth.sig.returnType = ret := C.2.2.2.1
theorem zCx.lk (C : zCx G Ts own cc nL ret xt p s m args meth c) : meth.locks = false := C.2.2.2.2.1
theorem zCx.ts (C : zCx G Ts own cc nL ret xt p s m args meth c) : ∀ w ∈ Ts, w.before args s = true := C.2.2.2.2.2.1
theorem zCx.zs (C : zCx G Ts own cc nL ret xt p s m args meth c) : ∀ w ∈ zws, w.before args s = true := fun w h => C.ts w (C.2.2.2.2.2.2.1 w h)
theorem zCx.ow (C : zCx G Ts own cc nL ret xt p s m args meth c) : s.vm.findClass own = some m.cls := C.2.2.2.2.2.2.2.1
theorem zCx.K (C : zCx G Ts own cc nL ret xt p s m args meth c) : va_K (zD G) vwCl (zT G) s := C.2.2.2.2.2.2.2.2.1
theorem zCx.st (C : zCx G Ts own cc nL ret xt p s m args meth c) : zSt G s := C.2.2.2.2.2.2.2.2.2.1
theorem zCx.tb (C : zCx G Ts own cc nL ret xt p s m args meth c) : c.exceptionTable.toList = xt := C.2.2.2.2.2.2.2.2.2.2.1
theorem zCx.w0 (C : zCx G Ts own cc nL ret xt p s m args meth c) : va_S (zA G) (zH G) s.heap [] := C.2.2.2.2.2.2.2.2.2.2.2
end ZCX
/-- THE JUDGEMENT: from pc, with these locals, stack and state, whatever the call, the method comes to its end Fin -/
def zB (l : Launch) (G : zG) (Ts : List Cond) (own : String) (cc : ByteArray) (nL : Nat) (ret : Option FieldType) (xt : List ExceptionTableEntry) (R : Room) (Fin : List Frame → Array Value → State → State → Prop) (cs sl : Nat) (pc : Nat) (lv : List (Nat × Value)) (st : List Value) (σ : zS) : Prop :=
  ∀ (p : Program) (e : Env) (s : State) (m : MethodId) (args : Array Value) (below : List Frame) (meth : Method) (c : Code), zCx G Ts own cc nL ret xt p s m args meth c →
    ∀ (H : Heap) (locs : List Loc) (ls : Array Slot), lv_has ls nL lv → va_P (zD G) vwCl (zW G σ) H → va_D (zA G) (zW G σ) → va_S (zA G) (zH G) H locs → W p l e R s m args below meth c H locs cs sl (Fin below args s) (F0 m pc ls st)
/-- the end of a method that returns -/
def zR (G : zG) (φ : Option Value → zS → Prop) (mc ms : Nat) : List Frame → Array Value → State → State → Prop := fun below args s => MQ below (zQ G φ) args s mc ms (zA G)
def zl : List (Nat × Value) → Nat → Option Value
  | [], _ => none
  | q :: t, i => bif Nat.beq q.1 i then some q.2 else zl t i
theorem zl_mem : ∀ {lv : List (Nat × Value)} {i : Nat} {v : Value}, zl lv i = some v → (i, v) ∈ lv
  | [], _, _, h => by cases h
  | (k, x) :: t, i, v, h => by
    unfold zl at h
    cases hb : Nat.beq k i with
    | true =>
      rw [hb] at h
      have e : k = i := Nat.eq_of_beq_eq_true hb
      subst e
      cases h
      exact List.mem_cons_self
    | false =>
      rw [hb] at h
      exact List.mem_cons_of_mem _ (zl_mem h)
theorem zl_at {ls : Array Slot} {nL : Nat} {lv : List (Nat × Value)} {i : Nat} {v : Value} (h : lv_has ls nL lv) (hv : zl lv i = some v) : ls[i]? = some (.val v) := h.2.2 (i, v) (zl_mem hv)
theorem zl_idx : ∀ {lv : List (Nat × Value)} {i : Nat} {v : Value}, zl lv i = some v → ∃ k : Nat, lv[k]? = some (i, v) := fun h => List.getElem?_of_mem (zl_mem h)
/-- the locals behind a store -/
def zs1 (lv : List (Nat × Value)) (i : Nat) (v : Value) : List (Nat × Value) := (i, v) :: lv.filter (fun q => !(q.1 == i) && !(q.1 + 1 == i && q.2.category == 2))
def zs2 (lv : List (Nat × Value)) (i : Nat) (v : Value) : List (Nat × Value) := (i, v) :: lv.filter (fun q => !(q.1 == i) && (!(q.1 == i + 1) && !(q.1 + 1 == i && q.2.category == 2)))
section ZB
variable {l : Launch} {G : zG} {Ts : List Cond} {own : String} {cc : ByteArray} {nL : Nat} {ret : Option FieldType} {xt : List ExceptionTableEntry} {R : Room} {Fin : List Frame → Array Value → State → State → Prop} {cs sl : Nat} {pc : Nat} {lv lv' : List (Nat × Value)} {st : List Value} {σ : zS}
theorem zC_of {y : MethodName} {as : List Value} {φ : Option Value → zS → Prop} {mc ms : Nat} (hy : plainName y.cls = true) (hw : Ts = zwy y cc nL ret) (ho : y.cls = own) (hn : (lg_sl as).length ≤ nL) (k : zB l G Ts own cc nL ret [] R (zR G φ mc ms) 0 0 0 (lv_args 0 as) [] σ) : zC l G y Ts R mc ms as σ φ := by
  refine Met.ofW (cc := cc) (maxL := nL) (ret := ret) hy hw ?_
  intro p e s m args below meth c s₁ B hml hv
  obtain ⟨rfl, ⟨hP, hD, hold⟩, hK, hst⟩ := hv
  have hx0 : c.exceptionTable.toList = [] := by
    have h0 : c.exceptionTable.size = 0 := by simpa [Array.isEmpty] using B.noHandlers (atoms_spec (ws := Ts) B.pre _ (by rw [hw]; exact List.mem_cons_self))
    exact List.eq_nil_of_length_eq_zero (by simpa using h0)
  rw [lg_entry_eq]
  exact k p e s m _ below meth c ⟨B.exec, B.bytes, hml, B.returns, B.notSynchronized, atoms_spec B.pre, fun w h => by rw [hw]; exact zwy_in h, by rw [← ho]; exact findClass_of_methodNamed B.named, hK, hst, hx0, hold⟩ s.heap [] _ (lv_entry as hn) hP hD hold
theorem zb_sub (ks : List Nat) (h : lv_pick lv ks = lv') (k : zB l G Ts own cc nL ret xt R Fin cs sl pc lv' st σ) : zB l G Ts own cc nL ret xt R Fin cs sl pc lv st σ :=
  fun p e s m args below meth c C H locs ls hl hP hD hS => k p e s m args below meth c C H locs ls (lv_sub hl ks h) hP hD hS
theorem zb_widen {k n : Nat} (h1 : cs ≤ k) (h2 : sl ≤ n) (kk : zB l G Ts own cc nL ret xt R Fin k n pc lv st σ) : zB l G Ts own cc nL ret xt R Fin cs sl pc lv st σ :=
  fun p e s m args below meth c C H locs ls hl hP hD hS => W.widen h1 h2 (kk p e s m args below meth c C H locs ls hl hP hD hS)
theorem zb_iconst {n : Int} {v : Int32} (d : decode cc pc = .ok (.iconst n, 1)) (hv : Int32.ofInt n = v) (k : zB l G Ts own cc nL ret xt R Fin cs sl (pc + 1) lv (.int v :: st) σ) : zB l G Ts own cc nL ret xt R Fin cs sl pc lv (st) σ :=
  fun p e s m args below meth c C H locs ls hl hP hD hS => lv_iconst C.1 C.2.1 d hv (k p e s m args below meth c C H locs ls hl hP hD hS)
theorem zb_bipush {n : Int} {v : Int32} (d : decode cc pc = .ok (.bipush n, 2)) (hv : (Int8.ofInt n).toInt32 = v) (k : zB l G Ts own cc nL ret xt R Fin cs sl (pc + 2) lv (.int v :: st) σ) : zB l G Ts own cc nL ret xt R Fin cs sl pc lv (st) σ :=
  fun p e s m args below meth c C H locs ls hl hP hD hS => lv_bipush C.1 C.2.1 d hv (k p e s m args below meth c C H locs ls hl hP hD hS)
theorem zb_sipush {n : Int} {v : Int32} (d : decode cc pc = .ok (.sipush n, 3)) (hv : (Int16.ofInt n).toInt32 = v) (k : zB l G Ts own cc nL ret xt R Fin cs sl (pc + 3) lv (.int v :: st) σ) : zB l G Ts own cc nL ret xt R Fin cs sl pc lv (st) σ :=
  fun p e s m args below meth c C H locs ls hl hP hD hS => lv_sipush C.1 C.2.1 d hv (k p e s m args below meth c C H locs ls hl hP hD hS)
theorem zb_lconst {n : _root_.Fin 2} {v : Int64} (d : decode cc pc = .ok (.lconst n, 1)) (hv : Int64.ofNat (n : Nat) = v) (k : zB l G Ts own cc nL ret xt R Fin cs sl (pc + 1) lv (.long v :: st) σ) : zB l G Ts own cc nL ret xt R Fin cs sl pc lv (st) σ :=
  fun p e s m args below meth c C H locs ls hl hP hD hS => lv_lconst C.1 C.2.1 d hv (k p e s m args below meth c C H locs ls hl hP hD hS)
theorem zb_iload_n {j : _root_.Fin 4} {i : Nat} {x : Int32} (d : decode cc pc = .ok (.iload_n j, 1)) (hi : (j : Nat) = i) (hv : zl lv i = some (.int x)) (k : zB l G Ts own cc nL ret xt R Fin cs sl (pc + 1) lv (.int x :: st) σ) : zB l G Ts own cc nL ret xt R Fin cs sl pc lv (st) σ :=
  fun p e s m args below meth c C H locs ls hl hP hD hS => lv_iload_n C.1 C.2.1 d hi (zl_at hl hv) (k p e s m args below meth c C H locs ls hl hP hD hS)
theorem zb_iload {i : Nat} {x : Int32} (d : decode cc pc = .ok (.iload i, 2)) (hv : zl lv i = some (.int x)) (k : zB l G Ts own cc nL ret xt R Fin cs sl (pc + 2) lv (.int x :: st) σ) : zB l G Ts own cc nL ret xt R Fin cs sl pc lv (st) σ :=
  fun p e s m args below meth c C H locs ls hl hP hD hS => lv_iload C.1 C.2.1 d (zl_at hl hv) (k p e s m args below meth c C H locs ls hl hP hD hS)
theorem zb_istore_n {j : _root_.Fin 4} {i : Nat} {x : Int32} (d : decode cc pc = .ok (.istore_n j, 1)) (hi : (j : Nat) = i) (hn : i < nL) (hl' : zs1 lv i (.int x) = lv') (k : zB l G Ts own cc nL ret xt R Fin cs sl (pc + 1) lv' st σ) : zB l G Ts own cc nL ret xt R Fin cs sl pc lv (.int x :: st) σ :=
  fun p e s m args below meth c C H locs ls hl hP hD hS => lv_istore_n C.1 C.2.1 d hi hl hn hl' (fun ls hl => k p e s m args below meth c C H locs ls hl hP hD hS)
theorem zb_istore {i : Nat} {x : Int32} (d : decode cc pc = .ok (.istore i, 2)) (hn : i < nL) (hl' : zs1 lv i (.int x) = lv') (k : zB l G Ts own cc nL ret xt R Fin cs sl (pc + 2) lv' st σ) : zB l G Ts own cc nL ret xt R Fin cs sl pc lv (.int x :: st) σ :=
  fun p e s m args below meth c C H locs ls hl hP hD hS => lv_istore C.1 C.2.1 d hl hn hl' (fun ls hl => k p e s m args below meth c C H locs ls hl hP hD hS)
theorem zb_lload_n {j : _root_.Fin 4} {i : Nat} {x : Int64} (d : decode cc pc = .ok (.lload_n j, 1)) (hi : (j : Nat) = i) (hv : zl lv i = some (.long x)) (k : zB l G Ts own cc nL ret xt R Fin cs sl (pc + 1) lv (.long x :: st) σ) : zB l G Ts own cc nL ret xt R Fin cs sl pc lv (st) σ :=
  fun p e s m args below meth c C H locs ls hl hP hD hS => lv_lload_n C.1 C.2.1 d hi (zl_at hl hv) (k p e s m args below meth c C H locs ls hl hP hD hS)
theorem zb_lload {i : Nat} {x : Int64} (d : decode cc pc = .ok (.lload i, 2)) (hv : zl lv i = some (.long x)) (k : zB l G Ts own cc nL ret xt R Fin cs sl (pc + 2) lv (.long x :: st) σ) : zB l G Ts own cc nL ret xt R Fin cs sl pc lv (st) σ :=
  fun p e s m args below meth c C H locs ls hl hP hD hS => lv_lload C.1 C.2.1 d (zl_at hl hv) (k p e s m args below meth c C H locs ls hl hP hD hS)
theorem zb_lstore_n {j : _root_.Fin 4} {i : Nat} {x : Int64} (d : decode cc pc = .ok (.lstore_n j, 1)) (hi : (j : Nat) = i) (hn : i + 1 < nL) (hl' : zs2 lv i (.long x) = lv') (k : zB l G Ts own cc nL ret xt R Fin cs sl (pc + 1) lv' st σ) : zB l G Ts own cc nL ret xt R Fin cs sl pc lv (.long x :: st) σ :=
  fun p e s m args below meth c C H locs ls hl hP hD hS => lv_lstore_n C.1 C.2.1 d hi hl hn hl' (fun ls hl => k p e s m args below meth c C H locs ls hl hP hD hS)
theorem zb_lstore {i : Nat} {x : Int64} (d : decode cc pc = .ok (.lstore i, 2)) (hn : i + 1 < nL) (hl' : zs2 lv i (.long x) = lv') (k : zB l G Ts own cc nL ret xt R Fin cs sl (pc + 2) lv' st σ) : zB l G Ts own cc nL ret xt R Fin cs sl pc lv (.long x :: st) σ :=
  fun p e s m args below meth c C H locs ls hl hP hD hS => lv_lstore C.1 C.2.1 d hl hn hl' (fun ls hl => k p e s m args below meth c C H locs ls hl hP hD hS)
theorem zb_aload_n {j : _root_.Fin 4} {i : Nat} {x : Nat} (d : decode cc pc = .ok (.aload_n j, 1)) (hi : (j : Nat) = i) (hv : zl lv i = some (.ref x)) (k : zB l G Ts own cc nL ret xt R Fin cs sl (pc + 1) lv (.ref x :: st) σ) : zB l G Ts own cc nL ret xt R Fin cs sl pc lv (st) σ :=
  fun p e s m args below meth c C H locs ls hl hP hD hS => lv_aload_n C.1 C.2.1 d hi (zl_at hl hv) (k p e s m args below meth c C H locs ls hl hP hD hS)
theorem zb_aload {i : Nat} {x : Nat} (d : decode cc pc = .ok (.aload i, 2)) (hv : zl lv i = some (.ref x)) (k : zB l G Ts own cc nL ret xt R Fin cs sl (pc + 2) lv (.ref x :: st) σ) : zB l G Ts own cc nL ret xt R Fin cs sl pc lv (st) σ :=
  fun p e s m args below meth c C H locs ls hl hP hD hS => lv_aload C.1 C.2.1 d (zl_at hl hv) (k p e s m args below meth c C H locs ls hl hP hD hS)
theorem zb_astore_n {j : _root_.Fin 4} {i : Nat} {x : Nat} (d : decode cc pc = .ok (.astore_n j, 1)) (hi : (j : Nat) = i) (hn : i < nL) (hl' : zs1 lv i (.ref x) = lv') (k : zB l G Ts own cc nL ret xt R Fin cs sl (pc + 1) lv' st σ) : zB l G Ts own cc nL ret xt R Fin cs sl pc lv (.ref x :: st) σ :=
  fun p e s m args below meth c C H locs ls hl hP hD hS => lv_astore_n C.1 C.2.1 d hi hl hn hl' (fun ls hl => k p e s m args below meth c C H locs ls hl hP hD hS)
theorem zb_astore {i : Nat} {x : Nat} (d : decode cc pc = .ok (.astore i, 2)) (hn : i < nL) (hl' : zs1 lv i (.ref x) = lv') (k : zB l G Ts own cc nL ret xt R Fin cs sl (pc + 2) lv' st σ) : zB l G Ts own cc nL ret xt R Fin cs sl pc lv (.ref x :: st) σ :=
  fun p e s m args below meth c C H locs ls hl hP hD hS => lv_astore C.1 C.2.1 d hl hn hl' (fun ls hl => k p e s m args below meth c C H locs ls hl hP hD hS)
theorem zb_iinc {i : Nat} {n : Int} {x v : Int32} (d : decode cc pc = .ok (.iinc i n, 3)) (hx : zl lv i = some (.int x)) (hv : x + Int32.ofInt n = v) (hn : i < nL) (hl' : zs1 lv i (.int v) = lv') (k : zB l G Ts own cc nL ret xt R Fin cs sl (pc + 3) lv' st σ) : zB l G Ts own cc nL ret xt R Fin cs sl pc lv st σ := by
  intro p e s m args below meth c C H locs ls hl hP hD hS
  obtain ⟨kk, hk⟩ := zl_idx hx
  exact lv_iinc C.1 C.2.1 d hl hk hv hn hl' (fun ls hl => k p e s m args below meth c C H locs ls hl hP hD hS)
theorem zb_iadd {x y : Int32} (d : decode cc pc = .ok (.iadd, 1)) (k : zB l G Ts own cc nL ret xt R Fin cs sl (pc + 1) lv (.int (x + y) :: st) σ) : zB l G Ts own cc nL ret xt R Fin cs sl pc lv (.int y :: .int x :: st) σ :=
  fun p e s m args below meth c C H locs ls hl hP hD hS => lv_iadd C.1 C.2.1 d (k p e s m args below meth c C H locs ls hl hP hD hS)
theorem zb_isub {x y : Int32} (d : decode cc pc = .ok (.isub, 1)) (k : zB l G Ts own cc nL ret xt R Fin cs sl (pc + 1) lv (.int (x - y) :: st) σ) : zB l G Ts own cc nL ret xt R Fin cs sl pc lv (.int y :: .int x :: st) σ :=
  fun p e s m args below meth c C H locs ls hl hP hD hS => lv_isub C.1 C.2.1 d (k p e s m args below meth c C H locs ls hl hP hD hS)
theorem zb_imul {x y : Int32} (d : decode cc pc = .ok (.imul, 1)) (k : zB l G Ts own cc nL ret xt R Fin cs sl (pc + 1) lv (.int (x * y) :: st) σ) : zB l G Ts own cc nL ret xt R Fin cs sl pc lv (.int y :: .int x :: st) σ :=
  fun p e s m args below meth c C H locs ls hl hP hD hS => lv_imul C.1 C.2.1 d (k p e s m args below meth c C H locs ls hl hP hD hS)
theorem zb_iand {x y : Int32} (d : decode cc pc = .ok (.iand, 1)) (k : zB l G Ts own cc nL ret xt R Fin cs sl (pc + 1) lv (.int (x &&& y) :: st) σ) : zB l G Ts own cc nL ret xt R Fin cs sl pc lv (.int y :: .int x :: st) σ :=
  fun p e s m args below meth c C H locs ls hl hP hD hS => lv_iand C.1 C.2.1 d (k p e s m args below meth c C H locs ls hl hP hD hS)
theorem zb_ior {x y : Int32} (d : decode cc pc = .ok (.ior, 1)) (k : zB l G Ts own cc nL ret xt R Fin cs sl (pc + 1) lv (.int (x ||| y) :: st) σ) : zB l G Ts own cc nL ret xt R Fin cs sl pc lv (.int y :: .int x :: st) σ :=
  fun p e s m args below meth c C H locs ls hl hP hD hS => lv_ior C.1 C.2.1 d (k p e s m args below meth c C H locs ls hl hP hD hS)
theorem zb_ishl {x y : Int32} (d : decode cc pc = .ok (.ishl, 1)) (k : zB l G Ts own cc nL ret xt R Fin cs sl (pc + 1) lv (.int (x <<< (y &&& 31)) :: st) σ) : zB l G Ts own cc nL ret xt R Fin cs sl pc lv (.int y :: .int x :: st) σ :=
  fun p e s m args below meth c C H locs ls hl hP hD hS => lv_ishl C.1 C.2.1 d (k p e s m args below meth c C H locs ls hl hP hD hS)
theorem zb_ishr {x y : Int32} (d : decode cc pc = .ok (.ishr, 1)) (k : zB l G Ts own cc nL ret xt R Fin cs sl (pc + 1) lv (.int (x >>> (y &&& 31)) :: st) σ) : zB l G Ts own cc nL ret xt R Fin cs sl pc lv (.int y :: .int x :: st) σ :=
  fun p e s m args below meth c C H locs ls hl hP hD hS => lv_ishr C.1 C.2.1 d (k p e s m args below meth c C H locs ls hl hP hD hS)
theorem zb_idiv {x y : Int32} (d : decode cc pc = .ok (.idiv, 1)) (hne : ¬ y = 0) (k : zB l G Ts own cc nL ret xt R Fin cs sl (pc + 1) lv (.int (x / y) :: st) σ) : zB l G Ts own cc nL ret xt R Fin cs sl pc lv (.int y :: .int x :: st) σ :=
  fun p e s m args below meth c C H locs ls hl hP hD hS => lv_idiv C.1 C.2.1 d hne (k p e s m args below meth c C H locs ls hl hP hD hS)
theorem zb_irem {x y : Int32} (d : decode cc pc = .ok (.irem, 1)) (hne : ¬ y = 0) (k : zB l G Ts own cc nL ret xt R Fin cs sl (pc + 1) lv (.int (x - x / y * y) :: st) σ) : zB l G Ts own cc nL ret xt R Fin cs sl pc lv (.int y :: .int x :: st) σ :=
  fun p e s m args below meth c C H locs ls hl hP hD hS => lv_irem C.1 C.2.1 d hne (k p e s m args below meth c C H locs ls hl hP hD hS)
theorem zb_ladd {x y : Int64} (d : decode cc pc = .ok (.ladd, 1)) (k : zB l G Ts own cc nL ret xt R Fin cs sl (pc + 1) lv (.long (x + y) :: st) σ) : zB l G Ts own cc nL ret xt R Fin cs sl pc lv (.long y :: .long x :: st) σ :=
  fun p e s m args below meth c C H locs ls hl hP hD hS => lv_ladd C.1 C.2.1 d (k p e s m args below meth c C H locs ls hl hP hD hS)
theorem zb_lcmp {x y : Int64} (d : decode cc pc = .ok (.lcmp, 1)) (k : zB l G Ts own cc nL ret xt R Fin cs sl (pc + 1) lv (.int (lg_cmp x y) :: st) σ) : zB l G Ts own cc nL ret xt R Fin cs sl pc lv (.long y :: .long x :: st) σ :=
  fun p e s m args below meth c C H locs ls hl hP hD hS => W.lcmp C.1 C.2.1 d (k p e s m args below meth c C H locs ls hl hP hD hS)
theorem zb_i2l {x : Int32} {v : Int64} (d : decode cc pc = .ok (.i2l, 1)) (hv : x.toInt64 = v) (k : zB l G Ts own cc nL ret xt R Fin cs sl (pc + 1) lv (.long v :: st) σ) : zB l G Ts own cc nL ret xt R Fin cs sl pc lv (.int x :: st) σ :=
  fun p e s m args below meth c C H locs ls hl hP hD hS => lv_i2l C.1 C.2.1 d hv (k p e s m args below meth c C H locs ls hl hP hD hS)
theorem zb_dup {va : Value} (d : decode cc pc = .ok (.dup, 1)) (hva : va.category = 1) (k : zB l G Ts own cc nL ret xt R Fin cs sl (pc + 1) lv (va :: va :: st) σ) : zB l G Ts own cc nL ret xt R Fin cs sl pc lv (va :: st) σ :=
  fun p e s m args below meth c C H locs ls hl hP hD hS => lv_dup C.1 C.2.1 d hva (k p e s m args below meth c C H locs ls hl hP hD hS)
theorem zb_dup2 {va vb : Value} (d : decode cc pc = .ok (.dup2, 1)) (hva : va.category = 1) (hvb : vb.category = 1) (k : zB l G Ts own cc nL ret xt R Fin cs sl (pc + 1) lv (va :: vb :: va :: vb :: st) σ) : zB l G Ts own cc nL ret xt R Fin cs sl pc lv (va :: vb :: st) σ :=
  fun p e s m args below meth c C H locs ls hl hP hD hS => lv_dup2_11 C.1 C.2.1 d hva hvb (k p e s m args below meth c C H locs ls hl hP hD hS)
theorem zb_pop {va : Value} (d : decode cc pc = .ok (.pop, 1)) (hva : va.category = 1) (k : zB l G Ts own cc nL ret xt R Fin cs sl (pc + 1) lv (st) σ) : zB l G Ts own cc nL ret xt R Fin cs sl pc lv (va :: st) σ :=
  fun p e s m args below meth c C H locs ls hl hP hD hS => lv_pop C.1 C.2.1 d hva (k p e s m args below meth c C H locs ls hl hP hD hS)
-- branches
theorem zb_if_eq {x : Int32} {off : Int} {tgt : Nat} (d : decode cc pc = .ok (.ifCond .eq off, 3)) (ht : (pc : Int) + off = (tgt : Int)) (kt : x = 0 → zB l G Ts own cc nL ret xt R Fin cs sl tgt lv st σ) (kf : ¬ x = 0 → zB l G Ts own cc nL ret xt R Fin cs sl (pc + 3) lv st σ) : zB l G Ts own cc nL ret xt R Fin cs sl pc lv (.int x :: st) σ :=
  fun p e s m args below meth c C H locs ls hl hP hD hS => lv_if_eq C.1 C.2.1 d ht (fun h => kt h p e s m args below meth c C H locs ls hl hP hD hS) (fun h => kf h p e s m args below meth c C H locs ls hl hP hD hS)
theorem zb_icmp_eq {x y : Int32} {off : Int} {tgt : Nat} (d : decode cc pc = .ok (.if_icmp .eq off, 3)) (ht : (pc : Int) + off = (tgt : Int)) (kt : x = y → zB l G Ts own cc nL ret xt R Fin cs sl tgt lv st σ) (kf : ¬ x = y → zB l G Ts own cc nL ret xt R Fin cs sl (pc + 3) lv st σ) : zB l G Ts own cc nL ret xt R Fin cs sl pc lv (.int y :: .int x :: st) σ :=
  fun p e s m args below meth c C H locs ls hl hP hD hS => lv_icmp_eq C.1 C.2.1 d ht (fun h => kt h p e s m args below meth c C H locs ls hl hP hD hS) (fun h => kf h p e s m args below meth c C H locs ls hl hP hD hS)
theorem zb_if_ne {x : Int32} {off : Int} {tgt : Nat} (d : decode cc pc = .ok (.ifCond .ne off, 3)) (ht : (pc : Int) + off = (tgt : Int)) (kt : ¬ x = 0 → zB l G Ts own cc nL ret xt R Fin cs sl tgt lv st σ) (kf : x = 0 → zB l G Ts own cc nL ret xt R Fin cs sl (pc + 3) lv st σ) : zB l G Ts own cc nL ret xt R Fin cs sl pc lv (.int x :: st) σ :=
  fun p e s m args below meth c C H locs ls hl hP hD hS => lv_if_ne C.1 C.2.1 d ht (fun h => kt h p e s m args below meth c C H locs ls hl hP hD hS) (fun h => kf h p e s m args below meth c C H locs ls hl hP hD hS)
theorem zb_icmp_ne {x y : Int32} {off : Int} {tgt : Nat} (d : decode cc pc = .ok (.if_icmp .ne off, 3)) (ht : (pc : Int) + off = (tgt : Int)) (kt : ¬ x = y → zB l G Ts own cc nL ret xt R Fin cs sl tgt lv st σ) (kf : x = y → zB l G Ts own cc nL ret xt R Fin cs sl (pc + 3) lv st σ) : zB l G Ts own cc nL ret xt R Fin cs sl pc lv (.int y :: .int x :: st) σ :=
  fun p e s m args below meth c C H locs ls hl hP hD hS => lv_icmp_ne C.1 C.2.1 d ht (fun h => kt h p e s m args below meth c C H locs ls hl hP hD hS) (fun h => kf h p e s m args below meth c C H locs ls hl hP hD hS)
theorem zb_if_lt {x : Int32} {off : Int} {tgt : Nat} (d : decode cc pc = .ok (.ifCond .lt off, 3)) (ht : (pc : Int) + off = (tgt : Int)) (kt : x < 0 → zB l G Ts own cc nL ret xt R Fin cs sl tgt lv st σ) (kf : ¬ x < 0 → zB l G Ts own cc nL ret xt R Fin cs sl (pc + 3) lv st σ) : zB l G Ts own cc nL ret xt R Fin cs sl pc lv (.int x :: st) σ :=
  fun p e s m args below meth c C H locs ls hl hP hD hS => lv_if_lt C.1 C.2.1 d ht (fun h => kt h p e s m args below meth c C H locs ls hl hP hD hS) (fun h => kf h p e s m args below meth c C H locs ls hl hP hD hS)
theorem zb_icmp_lt {x y : Int32} {off : Int} {tgt : Nat} (d : decode cc pc = .ok (.if_icmp .lt off, 3)) (ht : (pc : Int) + off = (tgt : Int)) (kt : x < y → zB l G Ts own cc nL ret xt R Fin cs sl tgt lv st σ) (kf : ¬ x < y → zB l G Ts own cc nL ret xt R Fin cs sl (pc + 3) lv st σ) : zB l G Ts own cc nL ret xt R Fin cs sl pc lv (.int y :: .int x :: st) σ :=
  fun p e s m args below meth c C H locs ls hl hP hD hS => lv_icmp_lt C.1 C.2.1 d ht (fun h => kt h p e s m args below meth c C H locs ls hl hP hD hS) (fun h => kf h p e s m args below meth c C H locs ls hl hP hD hS)
theorem zb_if_ge {x : Int32} {off : Int} {tgt : Nat} (d : decode cc pc = .ok (.ifCond .ge off, 3)) (ht : (pc : Int) + off = (tgt : Int)) (kt : 0 ≤ x → zB l G Ts own cc nL ret xt R Fin cs sl tgt lv st σ) (kf : ¬ 0 ≤ x → zB l G Ts own cc nL ret xt R Fin cs sl (pc + 3) lv st σ) : zB l G Ts own cc nL ret xt R Fin cs sl pc lv (.int x :: st) σ :=
  fun p e s m args below meth c C H locs ls hl hP hD hS => lv_if_ge C.1 C.2.1 d ht (fun h => kt h p e s m args below meth c C H locs ls hl hP hD hS) (fun h => kf h p e s m args below meth c C H locs ls hl hP hD hS)
theorem zb_icmp_ge {x y : Int32} {off : Int} {tgt : Nat} (d : decode cc pc = .ok (.if_icmp .ge off, 3)) (ht : (pc : Int) + off = (tgt : Int)) (kt : y ≤ x → zB l G Ts own cc nL ret xt R Fin cs sl tgt lv st σ) (kf : ¬ y ≤ x → zB l G Ts own cc nL ret xt R Fin cs sl (pc + 3) lv st σ) : zB l G Ts own cc nL ret xt R Fin cs sl pc lv (.int y :: .int x :: st) σ :=
  fun p e s m args below meth c C H locs ls hl hP hD hS => lv_icmp_ge C.1 C.2.1 d ht (fun h => kt h p e s m args below meth c C H locs ls hl hP hD hS) (fun h => kf h p e s m args below meth c C H locs ls hl hP hD hS)
theorem zb_if_gt {x : Int32} {off : Int} {tgt : Nat} (d : decode cc pc = .ok (.ifCond .gt off, 3)) (ht : (pc : Int) + off = (tgt : Int)) (kt : 0 < x → zB l G Ts own cc nL ret xt R Fin cs sl tgt lv st σ) (kf : ¬ 0 < x → zB l G Ts own cc nL ret xt R Fin cs sl (pc + 3) lv st σ) : zB l G Ts own cc nL ret xt R Fin cs sl pc lv (.int x :: st) σ :=
  fun p e s m args below meth c C H locs ls hl hP hD hS => lv_if_gt C.1 C.2.1 d ht (fun h => kt h p e s m args below meth c C H locs ls hl hP hD hS) (fun h => kf h p e s m args below meth c C H locs ls hl hP hD hS)
theorem zb_icmp_gt {x y : Int32} {off : Int} {tgt : Nat} (d : decode cc pc = .ok (.if_icmp .gt off, 3)) (ht : (pc : Int) + off = (tgt : Int)) (kt : y < x → zB l G Ts own cc nL ret xt R Fin cs sl tgt lv st σ) (kf : ¬ y < x → zB l G Ts own cc nL ret xt R Fin cs sl (pc + 3) lv st σ) : zB l G Ts own cc nL ret xt R Fin cs sl pc lv (.int y :: .int x :: st) σ :=
  fun p e s m args below meth c C H locs ls hl hP hD hS => lv_icmp_gt C.1 C.2.1 d ht (fun h => kt h p e s m args below meth c C H locs ls hl hP hD hS) (fun h => kf h p e s m args below meth c C H locs ls hl hP hD hS)
theorem zb_if_le {x : Int32} {off : Int} {tgt : Nat} (d : decode cc pc = .ok (.ifCond .le off, 3)) (ht : (pc : Int) + off = (tgt : Int)) (kt : x ≤ 0 → zB l G Ts own cc nL ret xt R Fin cs sl tgt lv st σ) (kf : ¬ x ≤ 0 → zB l G Ts own cc nL ret xt R Fin cs sl (pc + 3) lv st σ) : zB l G Ts own cc nL ret xt R Fin cs sl pc lv (.int x :: st) σ :=
  fun p e s m args below meth c C H locs ls hl hP hD hS => lv_if_le C.1 C.2.1 d ht (fun h => kt h p e s m args below meth c C H locs ls hl hP hD hS) (fun h => kf h p e s m args below meth c C H locs ls hl hP hD hS)
theorem zb_icmp_le {x y : Int32} {off : Int} {tgt : Nat} (d : decode cc pc = .ok (.if_icmp .le off, 3)) (ht : (pc : Int) + off = (tgt : Int)) (kt : x ≤ y → zB l G Ts own cc nL ret xt R Fin cs sl tgt lv st σ) (kf : ¬ x ≤ y → zB l G Ts own cc nL ret xt R Fin cs sl (pc + 3) lv st σ) : zB l G Ts own cc nL ret xt R Fin cs sl pc lv (.int y :: .int x :: st) σ :=
  fun p e s m args below meth c C H locs ls hl hP hD hS => lv_icmp_le C.1 C.2.1 d ht (fun h => kt h p e s m args below meth c C H locs ls hl hP hD hS) (fun h => kf h p e s m args below meth c C H locs ls hl hP hD hS)
theorem zb_goto {off : Int} {tgt : Nat} (d : decode cc pc = .ok (.goto off, 3)) (ht : (pc : Int) + off = (tgt : Int)) (k : zB l G Ts own cc nL ret xt R Fin cs sl tgt lv st σ) : zB l G Ts own cc nL ret xt R Fin cs sl pc lv st σ :=
  fun p e s m args below meth c C H locs ls hl hP hD hS => lv_goto C.1 C.2.1 d ht (k p e s m args below meth c C H locs ls hl hP hD hS)
theorem zb_tableOut {dflt lo hi : Int} {offs : Array Int} {len : Nat} {x : Int32} {tgt : Nat} (d : decode cc pc = .ok (.tableswitch dflt lo hi offs, len)) (h : x.toInt < lo ∨ hi < x.toInt) (ht : (pc : Int) + dflt = (tgt : Int)) (k : zB l G Ts own cc nL ret xt R Fin cs sl tgt lv st σ) : zB l G Ts own cc nL ret xt R Fin cs sl pc lv (.int x :: st) σ :=
  fun p e s m args below meth c C H locs ls hl hP hD hS => lv_tableOut C.1 C.2.1 d h ht (k p e s m args below meth c C H locs ls hl hP hD hS)
theorem zb_tableIn {dflt lo hi : Int} {offs : Array Int} {len : Nat} {x : Int32} {off : Int} {tgt : Nat} (d : decode cc pc = .ok (.tableswitch dflt lo hi offs, len)) (h1 : ¬ x.toInt < lo) (h2 : ¬ hi < x.toInt) (ho : offs[(x.toInt - lo).toNat]? = some off) (ht : (pc : Int) + off = (tgt : Int)) (k : zB l G Ts own cc nL ret xt R Fin cs sl tgt lv st σ) : zB l G Ts own cc nL ret xt R Fin cs sl pc lv (.int x :: st) σ :=
  fun p e s m args below meth c C H locs ls hl hP hD hS => lv_tableIn C.1 C.2.1 d h1 h2 ho ht (k p e s m args below meth c C H locs ls hl hP hD hS)
-- arrays
theorem zb_iald {q : Nat} {j : Int32} (d : decode cc pc = .ok (.iaload, 1)) (hq : zia q) (hin : vp_in j (zn q)) (k : zB l G Ts own cc nL ret xt R Fin cs sl (pc + 1) lv (.int (σ.1 q j.toNatClampNeg) :: st) σ) : zB l G Ts own cc nL ret xt R Fin cs sl pc lv (.int j :: .ref (zad G q) :: st) σ :=
  fun p e s m args below meth c C H locs ls hl hP hD hS => va_iald C.1 C.2.1 C.K hP q 0 (by rw [zW_at hq.lt, zF_int hq]) rfl hin d (k p e s m args below meth c C H locs ls hl hP hD hS)
theorem zb_iast {q : Nat} {j x : Int32} (d : decode cc pc = .ok (.iastore, 1)) (hq : zia q) (hin : vp_in j (zn q)) (k : zB l G Ts own cc nL ret xt R Fin cs sl (pc + 1) lv st (zu σ q (upd (σ.1 q) j.toNatClampNeg x))) : zB l G Ts own cc nL ret xt R Fin cs sl pc lv (.int x :: .int j :: .ref (zad G q) :: st) σ :=
  fun p e s m args below meth c C H locs ls hl hP hD hS => va_iast C.1 C.2.1 C.K hP hD hS q 0 (by rw [zW_at hq.lt, zF_int hq]) rfl hin d (fun H1 locs1 hP hD hS => by
    rw [zW_zu hq.lt (zF_int hq)] at hP hD
    exact k p e s m args below meth c C H1 locs1 ls hl hP hD hS)
theorem zb_zald {j : Int32} (d : decode cc pc = .ok (.baload, 1)) (hin : vp_in j 256) (k : zB l G Ts own cc nL ret xt R Fin cs sl (pc + 1) lv (.int (σ.1 34 j.toNatClampNeg) :: st) σ) : zB l G Ts own cc nL ret xt R Fin cs sl pc lv (.int j :: .ref (zad G 34) :: st) σ :=
  fun p e s m args below meth c C H locs ls hl hP hD hS => va_zald C.1 C.2.1 C.K hP 34 2 (by rw [zW_at (by decide)]; rfl) rfl hin d (k p e s m args below meth c C H locs ls hl hP hD hS)
theorem zb_lald {j : Int32} (d : decode cc pc = .ok (.laload, 1)) (hin : vp_in j 1) (k : zB l G Ts own cc nL ret xt R Fin cs sl (pc + 1) lv (.long (σ.2 j.toNatClampNeg) :: st) σ) : zB l G Ts own cc nL ret xt R Fin cs sl pc lv (.int j :: .ref (zad G 35) :: st) σ :=
  fun p e s m args below meth c C H locs ls hl hP hD hS => va_lald C.1 C.2.1 C.K hP 35 1 (by rw [zW_at (by decide)]; rfl) rfl hin d (k p e s m args below meth c C H locs ls hl hP hD hS)
-- names for what stands there
theorem zb_top {x y : Int32} (h : x = y) (k : zB l G Ts own cc nL ret xt R Fin cs sl pc lv (.int y :: st) σ) : zB l G Ts own cc nL ret xt R Fin cs sl pc lv (.int x :: st) σ := by rw [h]; exact k
theorem zb_lv (h : lv = lv') (k : zB l G Ts own cc nL ret xt R Fin cs sl pc lv' st σ) : zB l G Ts own cc nL ret xt R Fin cs sl pc lv st σ := by rw [h]; exact k
theorem zb_sg {σ' : zS} (h : σ = σ') (k : zB l G Ts own cc nL ret xt R Fin cs sl pc lv st σ') : zB l G Ts own cc nL ret xt R Fin cs sl pc lv st σ := by rw [h]; exact k
theorem zb_st {st' : List Value} (h : st = st') (k : zB l G Ts own cc nL ret xt R Fin cs sl pc lv st' σ) : zB l G Ts own cc nL ret xt R Fin cs sl pc lv st σ := by rw [h]; exact k
-- fields
theorem zb_getf {q ci N index : Nat} {C0 ref : String} {T0 : u_T} {fs : List Value} {v : Value} (j : Nat) (d : decode cc pc = .ok (.getfield index, 3)) (hin : ∀ w ∈ u_ws C0 T0 N, w ∈ zws) (hlk : Cond.fieldLink own index ref (T0 j).2.1 (T0 j).2.2.1 ∈ zws) (hsame : ref = (T0 j).1) (hq : (zW G σ)[q]? = some (zad G q, .inr (ci, fs))) (hc : vwCl[ci]? = some (C0, T0, N)) (hj : j < N) (hv : fs[j]? = some v) (k : zB l G Ts own cc nL ret xt R Fin cs sl (pc + 3) lv (v :: st) σ) : zB l G Ts own cc nL ret xt R Fin cs sl pc lv (.ref (zad G q) :: st) σ :=
  fun p e s m args below meth c C H locs ls hl hP hD hS => va_get C.ex C.bt C.zs hin C.ow C.K hP q hq hc j hj (C.zs _ hlk) (fun x h => by rw [hsame]; exact h) hv d (k p e s m args below meth c C H locs ls hl hP hD hS)
theorem zb_putf {q ci N index : Nat} {C0 ref : String} {T0 : u_T} {fs : List Value} {v : Value} {ty : FieldType} {σ' : zS} (j : Nat) (ty0 : Nat → FieldType) (hty : ∀ k, k < N → parseFieldDescriptor (T0 k).2.2.1 = some (ty0 k)) (hnm : ∀ a, a < N → ∀ b, b < N → a ≠ b → (T0 a).2.1 ≠ (T0 b).2.1) (d : decode cc pc = .ok (.putfield index, 3)) (hin : ∀ w ∈ u_ws C0 T0 N, w ∈ zws) (hlk : Cond.fieldLink own index ref (T0 j).2.1 (T0 j).2.2.1 ∈ zws) (hsame : ref = (T0 j).1) (hq : (zW G σ)[q]? = some (zad G q, .inr (ci, fs))) (hc : vwCl[ci]? = some (C0, T0, N)) (hj : j < N) (hfin : (T0 j).2.2.2 = false) (hd : parseFieldDescriptor (T0 j).2.2.1 = some ty) (hn : narrow ty v = v) (hfit : fits ty v = true) (hl0 : j < fs.length)
    (hw : (zW G σ).set q (zad G q, .inr (ci, fs.set j v)) = zW G σ') (k : zB l G Ts own cc nL ret xt R Fin cs sl (pc + 3) lv st σ') : zB l G Ts own cc nL ret xt R Fin cs sl pc lv (v :: .ref (zad G q) :: st) σ :=
  fun p e s m args below meth c C H locs ls hl hP hD hS => va_put C.ex C.bt C.zs hin ty0 hty hnm C.ow C.K hP hD hS q hq hc j hj (C.zs _ hlk) (fun x h => by rw [hsame]; exact h) hfin hd hn hfit hl0 d (fun H1 locs1 hP hD hS => by
    rw [hw] at hP hD
    exact k p e s m args below meth c C H1 locs1 ls hl hP hD hS)
theorem zb_copy {q0 q1 index : Nat} {sp dp n : Int32} (hlk : Cond.methodLink own index arraycopyName ∈ zws) (hnat : Cond.native arraycopyName ∈ zws) (hstat : Cond.static arraycopyName ∈ zws) (hini : Cond.initialized "java/lang/System" ∈ zws) (h0 : zia q0) (h1 : zia q1) (hs : ¬ sp < 0) (hd : ¬ dp < 0) (hn : ¬ n < 0) (h4 : sp.toNatClampNeg + n.toNatClampNeg ≤ zn q0) (h5 : dp.toNatClampNeg + n.toNatClampNeg ≤ zn q1)
    (hfr : 1 ≤ R.frames) (hlo : (st.map fun v => v.category).sum + (nativeFrameWords "java/lang/System" "arraycopy" 5 + 11) ≤ R.locals) (d : decode cc pc = .ok (.invokestatic index, 3)) (k : zB l G Ts own cc nL ret xt R Fin cs sl (pc + 3) lv st (zu σ q1 (va_cpy (σ.1 q0) (σ.1 q1) sp.toNatClampNeg dp.toNatClampNeg n.toNatClampNeg))) : zB l G Ts own cc nL ret xt R Fin cs sl pc lv (.int n :: .int dp :: .ref (zad G q1) :: .int sp :: .ref (zad G q0) :: st) σ :=
  fun p e s m args below meth c C H locs ls hl hP hD hS => va_copyi C.ex C.bt (C.ml.trans hl.1.symm) C.ow (C.zs _ hlk) (C.zs _ hnat) (C.zs _ hstat) (C.zs _ hini) C.K hP hD hS q0 q1 0 0 (by rw [zW_at h0.lt, zF_int h0]) (by rw [zW_at h1.lt, zF_int h1]) rfl rfl rfl hs hd hn h4 h5 (fun _ _ => rfl) hfr hlo d (fun H1 locs1 hP hD hS => by
    rw [zW_zu h1.lt (zF_int h1)] at hP hD
    exact k p e s m args below meth c C H1 locs1 ls hl hP hD hS)
-- ends
theorem zb_iret {φ : Option Value → zS → Prop} {v : Int32} (d : decode cc pc = .ok (.ireturn, 1)) (hr : ret = some .int) (hφ : φ (some (.int v)) σ) : zB l G Ts own cc nL ret xt R (zR G φ cs sl) cs sl pc lv [.int v] σ :=
  fun p e s m args below meth c C H locs ls hl hP hD hS => W.iret C.1 C.2.1 (C.re.trans hr) (fun t ht hW => ⟨_, σ, rfl, hφ, by rw [ht]; exact hP, hD, by rw [ht]; exact ⟨hS.1, hS.2.1, fun q h => by cases h⟩⟩) hS.2.2 d C.lk
theorem zb_lret {φ : Option Value → zS → Prop} {v : Int64} (d : decode cc pc = .ok (.lreturn, 1)) (hr : ret = some .long) (hφ : φ (some (.long v)) σ) : zB l G Ts own cc nL ret xt R (zR G φ cs sl) cs sl pc lv [.long v] σ :=
  fun p e s m args below meth c C H locs ls hl hP hD hS => W.lret C.1 C.2.1 (C.re.trans hr) (fun t ht hW => ⟨_, σ, rfl, hφ, by rw [ht]; exact hP, hD, by rw [ht]; exact ⟨hS.1, hS.2.1, fun q h => by cases h⟩⟩) hS.2.2 d C.lk
theorem zb_vret {φ : Option Value → zS → Prop} (d : decode cc pc = .ok (.return_, 1)) (hr : ret = none) (hφ : φ (none) σ) : zB l G Ts own cc nL ret xt R (zR G φ cs sl) cs sl pc lv [] σ :=
  fun p e s m args below meth c C H locs ls hl hP hD hS => W.vret C.1 C.2.1 (C.re.trans hr) (fun t ht hW => ⟨_, σ, rfl, hφ, by rw [ht]; exact hP, hD, by rw [ht]; exact ⟨hS.1, hS.2.1, fun q h => by cases h⟩⟩) hS.2.2 d C.lk
theorem zb_zret {φ : Option Value → zS → Prop} {v : Int32} {ty : FieldType} (d : decode cc pc = .ok (.ireturn, 1)) (hr : ret = some ty) (hn : narrow ty (.int v) = .int v) (hφ : φ (some (.int v)) σ) : zB l G Ts own cc nL ret xt R (zR G φ cs sl) cs sl pc lv [.int v] σ :=
  fun p e s m args below meth c C H locs ls hl hP hD hS => W.zret C.1 C.2.1 (C.re.trans hr) hn (fun t ht hW => ⟨_, σ, rfl, hφ, by rw [ht]; exact hP, hD, by rw [ht]; exact ⟨hS.1, hS.2.1, fun q h => by cases h⟩⟩) hS.2.2 d C.lk
theorem zb_aret {φ : Option Value → zS → Prop} {v : Nat} {rt : FieldType} (d : decode cc pc = .ok (.areturn, 1)) (hr : ret = some rt) (hrt : (∃ n, rt = .object n) ∨ ∃ t, rt = .array t) (hφ : φ (some (.ref v)) σ) : zB l G Ts own cc nL ret xt R (zR G φ cs sl) cs sl pc lv [.ref v] σ :=
  fun p e s m args below meth c C H locs ls hl hP hD hS => W.aret C.1 C.2.1 (C.re.trans hr) hrt (Or.inr ⟨_, rfl⟩) (fun t ht hW => ⟨_, σ, rfl, hφ, by rw [ht]; exact hP, hD, by rw [ht]; exact ⟨hS.1, hS.2.1, fun q h => by cases h⟩⟩) hS.2.2 d C.lk
-- calls of methods that return
theorem zI.pre {p : Program} {s : State} {m : MethodId} {args : Array Value} {meth : Method} {c : Code} (C : zCx G Ts own cc nL ret xt p s m args meth c) {H : Heap} {locs : List Loc} (hP : va_P (zD G) vwCl (zW G σ) H) (hD : va_D (zA G) (zW G σ)) (hS : va_S (zA G) (zH G) H locs) (U : State) (hU : U.heap = H) (hW : s.WarmedH U.vm) : zI G σ U :=
  ⟨⟨by rw [hU]; exact hP, hD, by rw [hU]; exact ⟨hS.1, hS.2.1, fun q h => by cases h⟩⟩, va_K.moved hW.alike C.K, C.st.moved hW⟩
theorem zb_run {mc ms : Nat} {rest : List Value} {a : Array Value} {φ : Option Value → zS → Prop} {p : Program} {e : Env} {s : State} {m : MethodId} {args : Array Value} {below : List Frame} {meth : Method} {c : Code} {H : Heap} {locs : List Loc} {ls : Array Slot} (C : zCx G Ts own cc nL ret xt p s m args meth c) (hl : lv_has ls nL lv) (hS : va_S (zA G) (zH G) H locs)
    (run : va_Run p l e R s m args below meth c H locs cs sl mc ms (F0 m pc ls st) rest (zQ G φ a) (zA G)) (k : ∀ (v : Option Value) (σ' : zS), φ v σ' → zB l G Ts own cc nL ret xt R Fin (cs + mc) (sl + ms) (pc + 3) lv (v.toList ++ rest) σ') : W p l e R s m args below meth c H locs cs sl (Fin below args s) (F0 m pc ls st) := by
  intro T hT X
  obtain ⟨v, st₀, t, T', L, h0, X', hL, e1, e2, ⟨v', σ', hv, hφ, hP', hD', hold'⟩, stp⟩ := run T hT X
  cases hv
  obtain ⟨t2, a1, b1⟩ := k v σ' hφ p e s m args below meth c C T'.heap (locs ++ L) ls hl (by rw [e1]; exact hP') hD' ⟨by rw [e1]; exact hold'.1, by rw [e1]; exact hold'.2.1, fun q hq => by
      rcases List.mem_append.mp hq with h | h
      · exact hS.2.2 q h
      · exact hL q h⟩ T' rfl X'
  exact ⟨t2, stp t2 a1, b1⟩
theorem zb_callS {y : MethodName} {bytes : ByteArray} {maxL n index mc ms : Nat} {ret' : Option FieldType} {ws : List Cond} {rm : Room} {φ : Option Value → zS → Prop} {as rest : List Value} (hM : zC l G y ws rm mc ms as σ φ) (cw : ∀ (s : State) (args : Array Value), (∀ w ∈ Ts, w.before args s = true) → CallB R s args own index y bytes maxL ret' ws rm mc ms n ∧ (Cond.static y).before args s = true)
    (hn : as.length = n) (hst : st = as.reverse ++ rest) (hr : (rest.map fun v => v.category).sum ≤ 8) (d : decode cc pc = .ok (.invokestatic index, 3)) (hf : cs + mc ≤ R.cells ∧ sl + ms ≤ R.slots) (k : ∀ (v : Option Value) (σ' : zS), φ v σ' → zB l G Ts own cc nL ret xt R Fin (cs + mc) (sl + ms) (pc + 3) lv (v.toList ++ rest) σ') : zB l G Ts own cc nL ret xt R Fin cs sl pc lv st σ := by
  subst hst
  intro p e s m args below meth c C H locs ls hl hP hD hS
  exact zb_run C hl hS (va_runS (As := as) (rest := rest) ⟨C.1, C.2.1, C.ml, C.ow, C.ts⟩ hM (cw s args C.ts) ⟨zI.blind, fun U hU hW => ⟨rfl, zI.pre C hP hD hS U hU hW⟩⟩ rfl hn hl.1 rfl (lv_room hr) d hf) k
theorem zb_callV {y : MethodName} {bytes : ByteArray} {maxL n index mc ms q ci : Nat} {ret' : Option FieldType} {ws : List Cond} {rm : Room} {φ : Option Value → zS → Prop} {as rest : List Value} {C0 : String} {fs : List Value} {kc : vw_C} (hM : zC l G y ws rm mc ms (.ref (zad G q) :: as) σ φ) (cw : ∀ (s : State) (args : Array Value), (∀ w ∈ Ts, w.before args s = true) → CallW R s args own C0 index y bytes maxL ret' ws rm mc ms n)
    (hq : (zW G σ)[q]? = some (zad G q, .inr (ci, fs))) (hc : vwCl[ci]? = some kc) (hC0 : kc.1 = C0) (hn : as.length = n) (hst : st = as.reverse ++ .ref (zad G q) :: rest) (hr : (rest.map fun v => v.category).sum ≤ 8) (d : decode cc pc = .ok (.invokevirtual index, 3)) (hf : cs + mc ≤ R.cells ∧ sl + ms ≤ R.slots) (k : ∀ (v : Option Value) (σ' : zS), φ v σ' → zB l G Ts own cc nL ret xt R Fin (cs + mc) (sl + ms) (pc + 3) lv (v.toList ++ rest) σ') : zB l G Ts own cc nL ret xt R Fin cs sl pc lv st σ := by
  subst hst
  subst hC0
  intro p e s m args below meth c C H locs ls hl hP hD hS
  exact zb_run C hl hS (va_runV (As := as) (rest := rest) ⟨C.1, C.2.1, C.ml, C.ow, C.ts⟩ hM (cw s args C.ts) ⟨zI.blind, va_recv C.K hP hc hq, fun U hU hW => ⟨rfl, zI.pre C hP hD hS U hU hW⟩⟩ rfl hn hl.1 rfl (lv_room hr) d hf) k
end ZB
