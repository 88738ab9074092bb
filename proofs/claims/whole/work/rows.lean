section
-- ===== PART A: goes FIRST, ahead of the names: the tables' words, and 'selects' of the private methods out of them =====
def lw_okq (q : MethodName × Nat) : Prop := (q.1.cls ≠ "java/lang/invoke/MethodHandle" ∧ q.1.cls ≠ "java/lang/invoke/VarHandle") ∧ Cond.instantiable q.1.cls q.2 ∈ tables_1 ∧ Cond.privateMethod q.1 ∈ tables_1 ∧ Cond.instanceMethod q.1 ∈ tables_1
theorem lw_p0 : lw_okq (⟨"TupleShelf", "relationOf", "(I)LTupleShelf$Relation;"⟩, 3) := ⟨⟨by decide +kernel, by decide +kernel⟩, List.mem_of_getElem? (i := 14) (by decide +kernel), List.mem_of_getElem? (i := 66) (by decide +kernel), List.mem_of_getElem? (i := 67) (by decide +kernel)⟩
theorem lw_p1 : lw_okq (⟨"java/lang/Throwable", "fillInStackTrace", "(I)Ljava/lang/Throwable;"⟩, 6) := ⟨⟨by decide +kernel, by decide +kernel⟩, List.mem_of_getElem? (i := 111) (by decide +kernel), List.mem_of_getElem? (i := 109) (by decide +kernel), List.mem_of_getElem? (i := 110) (by decide +kernel)⟩
theorem lw_p2 : lw_okq (⟨"TupleShelf$Relation", "holdsAt", "(II)Z"⟩, 4) := ⟨⟨by decide +kernel, by decide +kernel⟩, List.mem_of_getElem? (i := 23) (by decide +kernel), List.mem_of_getElem? (i := 180) (by decide +kernel), List.mem_of_getElem? (i := 181) (by decide +kernel)⟩
theorem lw_p3 : lw_okq (⟨"TupleShelf$Relation", "raiseAt", "(II)V"⟩, 4) := ⟨⟨by decide +kernel, by decide +kernel⟩, List.mem_of_getElem? (i := 23) (by decide +kernel), List.mem_of_getElem? (i := 184) (by decide +kernel), List.mem_of_getElem? (i := 185) (by decide +kernel)⟩
theorem lw_p4 : lw_okq (⟨"TupleShelf$Relation", "removeAt", "(I)V"⟩, 4) := ⟨⟨by decide +kernel, by decide +kernel⟩, List.mem_of_getElem? (i := 23) (by decide +kernel), List.mem_of_getElem? (i := 188) (by decide +kernel), List.mem_of_getElem? (i := 189) (by decide +kernel)⟩
theorem lw_p5 : lw_okq (⟨"TupleShelf$Relation", "insertAt", "(III)V"⟩, 4) := ⟨⟨by decide +kernel, by decide +kernel⟩, List.mem_of_getElem? (i := 23) (by decide +kernel), List.mem_of_getElem? (i := 195) (by decide +kernel), List.mem_of_getElem? (i := 196) (by decide +kernel)⟩
theorem lw_p6 : lw_okq (⟨"TupleShelf", "joinOne", "(LTupleShelf$Relation;ILTupleShelf$Relation;I)Z"⟩, 3) := ⟨⟨by decide +kernel, by decide +kernel⟩, List.mem_of_getElem? (i := 14) (by decide +kernel), List.mem_of_getElem? (i := 242) (by decide +kernel), List.mem_of_getElem? (i := 243) (by decide +kernel)⟩
theorem lw_p7 : lw_okq (⟨"TupleShelf", "keepSpareAs", "(I)I"⟩, 3) := ⟨⟨by decide +kernel, by decide +kernel⟩, List.mem_of_getElem? (i := 14) (by decide +kernel), List.mem_of_getElem? (i := 250) (by decide +kernel), List.mem_of_getElem? (i := 251) (by decide +kernel)⟩
theorem lw_p8 : lw_okq (⟨"TupleShelf", "takeSteps", "(LTupleShelf$Relation;)V"⟩, 3) := ⟨⟨by decide +kernel, by decide +kernel⟩, List.mem_of_getElem? (i := 14) (by decide +kernel), List.mem_of_getElem? (i := 303) (by decide +kernel), List.mem_of_getElem? (i := 304) (by decide +kernel)⟩
theorem lw_p9 : lw_okq (⟨"TupleShelf", "followSteps", "()V"⟩, 3) := ⟨⟨by decide +kernel, by decide +kernel⟩, List.mem_of_getElem? (i := 14) (by decide +kernel), List.mem_of_getElem? (i := 307) (by decide +kernel), List.mem_of_getElem? (i := 308) (by decide +kernel)⟩
theorem lw_p10 : lw_okq (⟨"TupleShelf", "isReached", "(II)Z"⟩, 3) := ⟨⟨by decide +kernel, by decide +kernel⟩, List.mem_of_getElem? (i := 14) (by decide +kernel), List.mem_of_getElem? (i := 311) (by decide +kernel), List.mem_of_getElem? (i := 312) (by decide +kernel)⟩
theorem lw_p11 : lw_okq (⟨"TupleShelfModel", "none", "(I)Z"⟩, 5) := ⟨⟨by decide +kernel, by decide +kernel⟩, List.mem_of_getElem? (i := 360) (by decide +kernel), List.mem_of_getElem? (i := 392) (by decide +kernel), List.mem_of_getElem? (i := 393) (by decide +kernel)⟩
theorem lw_p12 : lw_okq (⟨"TupleShelfModel", "refuse", "(IZ)Z"⟩, 5) := ⟨⟨by decide +kernel, by decide +kernel⟩, List.mem_of_getElem? (i := 360) (by decide +kernel), List.mem_of_getElem? (i := 396) (by decide +kernel), List.mem_of_getElem? (i := 397) (by decide +kernel)⟩
theorem lw_p13 : lw_okq (⟨"TupleShelfModel", "in", "(I)I"⟩, 5) := ⟨⟨by decide +kernel, by decide +kernel⟩, List.mem_of_getElem? (i := 360) (by decide +kernel), List.mem_of_getElem? (i := 400) (by decide +kernel), List.mem_of_getElem? (i := 401) (by decide +kernel)⟩
theorem lw_p14 : lw_okq (⟨"TupleShelfModel", "of", "(II)I"⟩, 5) := ⟨⟨by decide +kernel, by decide +kernel⟩, List.mem_of_getElem? (i := 360) (by decide +kernel), List.mem_of_getElem? (i := 414) (by decide +kernel), List.mem_of_getElem? (i := 415) (by decide +kernel)⟩
theorem lw_p15 : lw_okq (⟨"TupleShelfModel", "begin", "()V"⟩, 5) := ⟨⟨by decide +kernel, by decide +kernel⟩, List.mem_of_getElem? (i := 360) (by decide +kernel), List.mem_of_getElem? (i := 430) (by decide +kernel), List.mem_of_getElem? (i := 431) (by decide +kernel)⟩
def lw_privs_1 : List (MethodName × Nat) := [(⟨"TupleShelf", "relationOf", "(I)LTupleShelf$Relation;"⟩, 3), (⟨"java/lang/Throwable", "fillInStackTrace", "(I)Ljava/lang/Throwable;"⟩, 6), (⟨"TupleShelf$Relation", "holdsAt", "(II)Z"⟩, 4), (⟨"TupleShelf$Relation", "raiseAt", "(II)V"⟩, 4), (⟨"TupleShelf$Relation", "removeAt", "(I)V"⟩, 4), (⟨"TupleShelf$Relation", "insertAt", "(III)V"⟩, 4), (⟨"TupleShelf", "joinOne", "(LTupleShelf$Relation;ILTupleShelf$Relation;I)Z"⟩, 3), (⟨"TupleShelf", "keepSpareAs", "(I)I"⟩, 3), (⟨"TupleShelf", "takeSteps", "(LTupleShelf$Relation;)V"⟩, 3), (⟨"TupleShelf", "followSteps", "()V"⟩, 3), (⟨"TupleShelf", "isReached", "(II)Z"⟩, 3), (⟨"TupleShelfModel", "none", "(I)Z"⟩, 5), (⟨"TupleShelfModel", "refuse", "(IZ)Z"⟩, 5), (⟨"TupleShelfModel", "in", "(I)I"⟩, 5), (⟨"TupleShelfModel", "of", "(II)I"⟩, 5), (⟨"TupleShelfModel", "begin", "()V"⟩, 5)]
theorem lw_r1 : ∀ q ∈ lw_privs_1, lw_okq q := List.forall_mem_cons.mpr ⟨lw_p0, List.forall_mem_cons.mpr ⟨lw_p1, List.forall_mem_cons.mpr ⟨lw_p2, List.forall_mem_cons.mpr ⟨lw_p3, List.forall_mem_cons.mpr ⟨lw_p4, List.forall_mem_cons.mpr ⟨lw_p5, List.forall_mem_cons.mpr ⟨lw_p6, List.forall_mem_cons.mpr ⟨lw_p7, List.forall_mem_cons.mpr ⟨lw_p8, List.forall_mem_cons.mpr ⟨lw_p9, List.forall_mem_cons.mpr ⟨lw_p10, List.forall_mem_cons.mpr ⟨lw_p11, List.forall_mem_cons.mpr ⟨lw_p12, List.forall_mem_cons.mpr ⟨lw_p13, List.forall_mem_cons.mpr ⟨lw_p14, List.forall_mem_cons.mpr ⟨lw_p15, fun _ h => absurd h List.not_mem_nil⟩⟩⟩⟩⟩⟩⟩⟩⟩⟩⟩⟩⟩⟩⟩⟩
theorem lw_p16 : lw_okq (⟨"TupleShelfModel", "keep", "(III)I"⟩, 5) := ⟨⟨by decide +kernel, by decide +kernel⟩, List.mem_of_getElem? (i := 360) (by decide +kernel), List.mem_of_getElem? (i := 437) (by decide +kernel), List.mem_of_getElem? (i := 438) (by decide +kernel)⟩
def lw_privs_2 : List (MethodName × Nat) := [(⟨"TupleShelfModel", "keep", "(III)I"⟩, 5)]
theorem lw_r2 : ∀ q ∈ lw_privs_2, lw_okq q := List.forall_mem_cons.mpr ⟨lw_p16, fun _ h => absurd h List.not_mem_nil⟩
def lw_privs : List (MethodName × Nat) := lw_privs_1 ++ (lw_privs_2)
def lw_tbl : List Cond := k2_sels lw_privs ++ tables_1
theorem lw_privs_ok : ∀ q ∈ lw_privs, lw_okq q := by
  show ∀ q ∈ lw_privs_1 ++ (lw_privs_2), lw_okq q
  exact List.forall_mem_append.mpr ⟨lw_r1, lw_r2⟩
end
section
theorem goodIn_r {big : List Cond} (ws : List Cond) (ps : List Nat) (hp : ws = ps.filterMap (fun i => big[i]?)) (h : ws.all goodWord = true) : GoodIn big ws := by
  intro w hw
  have h1 := List.all_eq_true.mp h w hw
  rw [hp] at hw
  obtain ⟨i, -, hi⟩ := List.mem_filterMap.mp hw
  have hm : w ∈ big := by first | exact List.mem_of_getElem? hi | exact List.getElem?_mem hi
  exact ⟨hm, good_of_word h1⟩
theorem goodIn_app {big a b : List Cond} (ha : GoodIn big a) (hb : GoodIn big b) : GoodIn big (a ++ b) := fun w h => (List.mem_append.mp h).elim (ha w) (hb w)
theorem goodIn_ca {big a b : List Cond} {c : Cond} (ha : GoodIn big (c :: a)) (hb : GoodIn big b) : GoodIn big (c :: (a ++ b)) := fun w h => (List.mem_cons.mp h).elim (fun e => ha w (List.mem_cons.mpr (Or.inl e))) (fun h => (List.mem_append.mp h).elim (fun h => ha w (List.mem_cons.mpr (Or.inr h))) (hb w))
theorem goodIn_sub {big ws : List Cond} (hm : ∀ w ∈ ws, w ∈ big) (h : ws.all goodWord = true) : GoodIn big ws := fun w hw => ⟨hm w hw, good_of_word (List.all_eq_true.mp h w hw)⟩

section VXA
def vx_T (XC : String → State → State → Prop) (st : State) (q : Addr) (t : State) (mc ms : Nat) (free : Addr → Prop) : Prop :=
  ∃ (E : String) (ce : Cell) (L : List Loc), XC E st t ∧ t.heap[q]? = some ce ∧ ce.vm = .none ∧ st.vm.findClass E = some ce.cls ∧ st.WarmedH t.vm ∧ st.sameButNew ({ t with vm := st.vm } : State) L mc ms ∧ ∀ z ∈ L, free z.base
def vx_Q (Qc : Array Value → State → Outcome → State → Prop) (XC : String → State → State → Prop) (mc ms : Nat) (free : Addr → Prop) : Array Value → State → Outcome → State → Prop := fun a st o t =>
  (Qc a st o t ∧ ∃ L, FrameEnd st o t L mc ms ∧ ∀ q ∈ L, free q.base) ∨ ∃ q, o = .threw q ∧ vx_T XC st q t mc ms free
def vx_Met (l : Launch) (y : MethodName) (ws : List Cond) (rm : Room) (Pc : Array Value → State → Prop) (Qc : Array Value → State → Outcome → State → Prop) (XC : String → State → State → Prop) (mc ms : Nat) (free : Addr → Prop) : Prop :=
  MetFree l y (headSpec ws rm) Pc (fun _ _ _ _ _ => True) (vx_Q Qc XC mc ms free)
def vx_Post (XC : String → State → State → Prop) (mc ms : Nat) (free : Addr → Prop) : Pt → Array Value → Addr → Pt → Prop := fun A a q B =>
  ∃ (g : JFrame) (mk : MethodId) (t : State) (L : List Loc) (E : String) (ce : Cell), B.U.heap = t.heap ∧ B.U.vm = t.vm ∧ XC E (A.U.calling g mk a) t ∧ t.heap[q]? = some ce ∧ ce.vm = .none ∧ A.U.vm.findClass E = some ce.cls ∧ B.locs = A.locs ++ L ∧ (∀ z ∈ L, free z.base) ∧ B.cells = A.cells + mc ∧ B.slots = A.slots + ms
def vx_Back (l : Launch) (R : Room) (p : Program) (e : Env) (below : List Frame) (s : State) (sargs : Array Value) (y : MethodName) (len W9 : Nat)
    (Pre : Pt → Array Value → Prop) (Post : Pt → Array Value → Option Value → Pt → Prop) (PostX : Pt → Array Value → Addr → Pt → Prop) : Prop :=
  ∀ (m : MethodId) (meth : Method) (c : Code) (A : Pt) (g : JFrame) (ig : Instr) (mk : MethodId) (a : Array Value),
    Stand p l e R s m sargs below meth c A.U A.locs A.cells A.slots → g.method = m → g.locals.size = c.maxLocals → decode c.code g.pc = .ok (ig, len) →
    2 * g.monitorRoom + (g.stack.map fun v => v.category).sum ≤ W9 → A.U.methodNamed? y = some mk → Pre A a →
    (∃ (v : Option Value) (B : Pt), Stand p l e R s m sargs below meth c B.U B.locs B.cells B.slots ∧ Post A a v B ∧
      Steps p.tables e below (doInvoke e (A.U.setTop g) [] mk a).1 (B.U.setTop { g with pc := g.pc + len, stack := v.toList ++ g.stack })) ∨
    (∃ (q : Addr) (B : Pt), Stand p l e R s m sargs below meth c B.U B.locs B.cells B.slots ∧ PostX A a q B ∧
      Steps p.tables e below (doInvoke e (A.U.setTop g) [] mk a).1 ((B.U.setTop g).pushFrame (.throwing q)))
section Payer
variable {l : Launch} {R : Room} {p : Program} {e : Env} {below : List Frame} {s : State} {sargs : Array Value} {y : MethodName} {len W9 : Nat}
theorem vx_back {ws : List Cond} {rm : Room} {Pc : Array Value → State → Prop} {Qc : Array Value → State → Outcome → State → Prop} {XC : String → State → State → Prop} {mc ms : Nat} {free : Addr → Prop} {bytes : ByteArray} {maxL : Nat} {ret : Option FieldType}
    (hM : vx_Met l y ws rm Pc Qc XC mc ms free) (hblind : FrameBlind Pc) (hrc : rm.cells = mc) (hrs : rm.slots = ms)
    (hframes : rm.frames + 1 ≤ R.frames) (hlocals : W9 + (maxL + 11) + rm.locals ≤ R.locals)
    (hws : ∀ w ∈ ws, ∀ a' U, s.WarmedH U.vm → w.before a' U = true) (hcode : Cond.code y bytes maxL ret ∈ ws) (hinit : ∀ a' U, s.WarmedH U.vm → (Cond.initialized y.cls).before a' U = true) :
    vx_Back l R p e below s sargs y len W9 (PreOf R mc ms Pc) (PostOf Qc mc ms free) (vx_Post XC mc ms free) := by
  intro m meth c A g ig mk a X hg hsize hdg hW hn hp
  have h1 : (headSpec ws rm).pre.before a A.U = true := atoms_intro fun w hw => hws w hw _ _ X.warmed
  have h2 : (Cond.code y bytes maxL ret).before a A.U = true := hws _ hcode _ _ X.warmed
  have h3 : (Cond.initialized y.cls).before a A.U = true := hinit _ _ X.warmed
  have h4 : A.cells + (headSpec ws rm).room.cells ≤ R.cells := by rw [show (headSpec ws rm).room.cells = mc from hrc]; exact hp.1
  have h5 : A.slots + (headSpec ws rm).room.slots ≤ R.slots := by rw [show (headSpec ws rm).room.slots = ms from hrs]; exact hp.2.1
  have hPc : Pc a (A.U.calling g mk a) := hblind _ _ _ _ hp.2.2
  obtain ⟨U, Ls, c0, s0⟩ := A
  dsimp only [Pt.U, Pt.locs, Pt.cells, Pt.slots] at h1 h2 h3 h4 h5 X hn hPc ⊢
  obtain ⟨methY, cY, hmY, hcY, -, hlY, -, -, -, -⟩ := Cond.code_spec hn h2
  obtain ⟨kY, hkY, -⟩ := className_of_methodNamed hn
  have hinitY : kY.init = .initialized := Cond.initialized_spec (findClass_of_methodNamed hn) hkY h3
  have h : At U g.method c below := by rw [hg]; exact X.here
  have hlocals9 : W9 + (maxL + 11) + (headSpec ws rm).room.locals ≤ R.locals := hlocals
  have happ : (headSpec ws rm).appliesLoose y e.platform (U.calling g mk a) = true :=
    Spec.appliesLoose_calling (g := g) h hdg hn hkY hinitY
      (X.room_calling (g := g) (R' := (headSpec ws rm).room) hsize hmY hcY hframes (by rw [hlY]; omega) h4 h5) h1
  obtain ⟨mid, hmid⟩ := h.above
  have hfr : (U.setTop g).frames = (.java g :: mid) ++ below := by rw [State.frames_setTop' g h.top, hmid]; rfl
  obtain ⟨o, s₂, hsteps, -, hend, hq⟩ := Steps.callFree hM p X.admits X.cas X.clock (acts := []) hfr happ hPc trivial
  have hq' : vx_Q Qc XC mc ms free a (U.calling g mk a) o s₂ := hq
  rw [State.frames_setTop' g h.top] at hend
  obtain ⟨g₀, hg0⟩ := Option.isSome_iff_exists.mp h.top
  obtain ⟨r, hr⟩ := State.topJava?_eq_some.mp hg0
  have hr' : (({ U with heap := s₂.heap, slotsUsed := s₂.slotsUsed } : State).setVm s₂.vm).frames = .java g₀ :: r := hr
  rcases hq' with ⟨hqc, L, hfe, hL⟩ | ⟨q, rfl, E, ce, L, hx, hce, hcv, hcl, hW₂, hsm, hL⟩
  · obtain ⟨⟨v, rfl⟩, hW₂, e2, q2, q3, q4, q5, q6⟩ := id hfe
    have e3 : s₂ = ({ (U.calling g mk a).setFrames s₂.frames with heap := s₂.heap, slotsUsed := s₂.slotsUsed } : State).setVm s₂.vm := by
      have : s₂ = ({ s₂ with vm := (U.calling g mk a).vm } : State).setVm s₂.vm := rfl
      rw [e2] at this
      exact this
    obtain ⟨c₂, i₂, len₂, hc₂, hd₂, hf₂⟩ := hend
    have hW' : U.WarmedH s₂.vm := hW₂
    have hcc : c₂ = c := by
      have h1 : s₂.code? g.method = U.code? g.method := by
        rw [State.code?_eq, State.code?_eq, hW'.alike.method?]
      exact Option.some.inj (hc₂.symm.trans (h1.trans h.code))
    subst hcc
    have hlen : len₂ = len := by rw [hdg] at hd₂; cases hd₂; rfl
    subst hlen
    have hs₂ : s₂ = (({ U with heap := s₂.heap, slotsUsed := s₂.slotsUsed } : State).setVm s₂.vm).setTop { g with pc := g.pc + len₂, stack := v.toList ++ g.stack } := by
      refine e3.trans ?_
      rw [hf₂, State.calling_eq h.top, State.setFrames_setFrames, State.setTop_of_frames _ hr', hr]
      rfl
    have hsame : U.sameButNew ({ U with heap := s₂.heap, slotsUsed := s₂.slotsUsed } : State) L mc ms := by
      refine ⟨?_, q2, q3, q4, q5, q6⟩
      obtain ⟨t, ht, -⟩ := State.frames_cons hr
      show ({ U with heap := s₂.heap, slotsUsed := s₂.slotsUsed } : State) = { U.setFrames U.frames with heap := s₂.heap, slotsUsed := s₂.slotsUsed }
      rw [State.setFrames_self ht]
    subst hg
    refine Or.inl ⟨v, ⟨(({ U with heap := s₂.heap, slotsUsed := s₂.slotsUsed } : State).setVm s₂.vm), Ls ++ L, c0 + mc, s0 + ms⟩,
      ⟨X.admits, X.cas, X.clock, X.frames, X.room, X.hears, X.method, X.code, (X.here.setHeapUsed s₂.heap s₂.slotsUsed).setVm hW'.alike, X.tail, State.WarmedH.trans X.warmed hW', X.limits, X.bytes, X.same.trans (hsame.setVm s.vm)⟩,
      ⟨g, mk, s₂, L, rfl, rfl, hqc, rfl, hL, rfl, rfl⟩, ?_⟩
    show Steps p.tables e below _ ((({ U with heap := s₂.heap, slotsUsed := s₂.slotsUsed } : State).setVm s₂.vm).setTop { g with pc := g.pc + len₂, stack := v.toList ++ g.stack })
    rw [← hs₂]
    exact hsteps
  · obtain ⟨e2, q2, q3, q4, q5, q6⟩ := id hsm
    have e3 : s₂ = ({ (U.calling g mk a).setFrames s₂.frames with heap := s₂.heap, slotsUsed := s₂.slotsUsed } : State).setVm s₂.vm := by
      have : s₂ = ({ s₂ with vm := (U.calling g mk a).vm } : State).setVm s₂.vm := rfl
      rw [e2] at this
      exact this
    have hf₂ : s₂.frames = .throwing q :: .java g :: U.frames.tail := hend
    have hW' : U.WarmedH s₂.vm := hW₂
    have hs₂ : s₂ = ((({ U with heap := s₂.heap, slotsUsed := s₂.slotsUsed } : State).setVm s₂.vm).setTop g).pushFrame (.throwing q) := by
      refine e3.trans ?_
      rw [hf₂, State.calling_eq h.top, State.setFrames_setFrames, State.pushFrame, State.frames_setTop _ hr', State.setTop_of_frames _ hr', State.setFrames_setFrames, hr]
      rfl
    have hsame : U.sameButNew ({ U with heap := s₂.heap, slotsUsed := s₂.slotsUsed } : State) L mc ms := by
      refine ⟨?_, q2, q3, q4, q5, q6⟩
      obtain ⟨t, ht, -⟩ := State.frames_cons hr
      show ({ U with heap := s₂.heap, slotsUsed := s₂.slotsUsed } : State) = { U.setFrames U.frames with heap := s₂.heap, slotsUsed := s₂.slotsUsed }
      rw [State.setFrames_self ht]
    subst hg
    refine Or.inr ⟨q, ⟨(({ U with heap := s₂.heap, slotsUsed := s₂.slotsUsed } : State).setVm s₂.vm), Ls ++ L, c0 + mc, s0 + ms⟩,
      ⟨X.admits, X.cas, X.clock, X.frames, X.room, X.hears, X.method, X.code, (X.here.setHeapUsed s₂.heap s₂.slotsUsed).setVm hW'.alike, X.tail, State.WarmedH.trans X.warmed hW', X.limits, X.bytes, X.same.trans (hsame.setVm s.vm)⟩,
      ⟨g, mk, s₂, L, E, ce, rfl, rfl, hx, hce, hcv, hcl, rfl, hL, rfl, rfl⟩, ?_⟩
    show Steps p.tables e below _ (((({ U with heap := s₂.heap, slotsUsed := s₂.slotsUsed } : State).setVm s₂.vm).setTop g).pushFrame (.throwing q))
    rw [← hs₂]
    exact hsteps
end Payer
section Calls
variable {p : Program} {l : Launch} {e : Env} {R : Room} {s : State} {m : MethodId} {args : Array Value} {below : List Frame} {meth : Method} {c : Code} {T : State} {locs : List Loc} {cells slots : Nat}
theorem vx_callV (X : Stand p l e R s m args below meth c T locs cells slots) (hexec : p.tables.exec = Jvm.exec) {own C : String} {index : Nat} {y : MethodName} {bytes : ByteArray} {maxL : Nat} {ret : Option FieldType}
    (hown : s.vm.findClass own = some m.cls) (hlink : (Cond.methodLink own index y).before args s = true) (hinst : (Cond.instanceMethod y).before args s = true) (hsel : (Cond.selects C y y).before args s = true)
    (hcode : (Cond.code y bytes maxL ret).before args s = true) (hy : y.cls ≠ "java/lang/invoke/MethodHandle" ∧ y.cls ≠ "java/lang/invoke/VarHandle")
    {W9 : Nat} {Pre : Pt → Array Value → Prop} {Post : Pt → Array Value → Option Value → Pt → Prop} {PostX : Pt → Array Value → Addr → Pt → Prop} (hK : vx_Back l R p e below s args y 3 W9 Pre Post PostX)
    {b : Addr} {cellB : Cell} (hcell : T.heap[b]? = some cellB) (hobj : cellB.vm.isStatics = false) (hcls : s.vm.findClass C = some cellB.cls)
    {g : JFrame} (hg : g.method = m) (hsize : g.locals.size = c.maxLocals) {argsL rest : List Value} (hlen : ∀ sig, parseMethodDescriptor y.desc = some sig → argsL.length = sig.parameters.length)
    (hstack : g.stack = argsL.reverse ++ .ref b :: rest) (hW : 2 * g.monitorRoom + (rest.map fun v => v.category).sum ≤ W9) (hdg : decode c.code g.pc = .ok (.invokevirtual index, 3))
    (hpre : ∀ vm₁, s.WarmedH vm₁ → Pre ⟨T.setVm vm₁, locs, cells, slots⟩ (Value.ref b :: argsL).toArray) :
    (∃ (v : Option Value) (vm₁ : Vm) (B : Pt), s.WarmedH vm₁ ∧ Stand p l e R s m args below meth c B.U B.locs B.cells B.slots ∧ Post ⟨T.setVm vm₁, locs, cells, slots⟩ (Value.ref b :: argsL).toArray v B ∧
      ∀ target, Steps p.tables e below (B.U.setTop { g with pc := g.pc + 3, stack := v.toList ++ rest }) target → Steps p.tables e below (T.setTop g) target) ∨
    (∃ (q : Addr) (vm₁ : Vm) (B : Pt), s.WarmedH vm₁ ∧ Stand p l e R s m args below meth c B.U B.locs B.cells B.slots ∧ PostX ⟨T.setVm vm₁, locs, cells, slots⟩ (Value.ref b :: argsL).toArray q B ∧
      Steps p.tables e below (T.setTop g) ((B.U.setTop { g with stack := rest }).pushFrame (.throwing q))) := by
  obtain ⟨mk, methM, hnamed, hmethM, hstM, habM⟩ := Cond.instanceMethod_spec hinst
  obtain ⟨methM', cM, hmethM', -, -, -, -, -, -, hsigM⟩ := Cond.code_spec hnamed hcode
  cases hmethM.symm.trans hmethM'
  obtain ⟨c2, r2, m2, q1, q2, q3, q4, kP, hkP, hkPi⟩ := Cond.selects_spec hsel
  cases hcls.symm.trans q1
  cases (State.methodFound?_of_named hnamed hy).symm.trans q2
  cases hnamed.symm.trans q3
  have hselP : selectMethod e.platform s.vm cellB.cls mk = .method mk := by rw [Launch.admits_selectMethod X.admits]; exact q4
  obtain ⟨vm₁, X₁, hstep₁⟩ := X.invokevirtual hexec hown hlink hnamed hmethM hstM hkP hkPi hy (a := b) (cell := cellB) hcell
    (fun z h => by rw [h] at hobj; cases hobj) hselP hmethM habM hkP hkPi (g := g) hg (argsL := argsL) (rest := rest) (hlen _ hsigM) hstack hdg
  rcases hK m meth c ⟨T.setVm vm₁, locs, cells, slots⟩ { g with stack := rest } (.invokevirtual index) mk (Value.ref b :: argsL).toArray X₁ hg hsize hdg hW (X₁.named hnamed) (hpre vm₁ X₁.warmed) with ⟨v, B, X', hpost, hsteps⟩ | ⟨q, B, X', hpost, hsteps⟩
  · exact Or.inl ⟨v, vm₁, B, X₁.warmed, X', hpost, fun target h => hstep₁ _ fun acts => by rw [doInvoke_state]; exact hsteps.trans h⟩
  · exact Or.inr ⟨q, vm₁, B, X₁.warmed, X', hpost, hstep₁ _ fun acts => by rw [doInvoke_state]; exact hsteps⟩
theorem vx_callS (X : Stand p l e R s m args below meth c T locs cells slots) (hexec : p.tables.exec = Jvm.exec) {own : String} {index : Nat} {y : MethodName} {bytes : ByteArray} {maxL : Nat} {ret : Option FieldType}
    (hown : s.vm.findClass own = some m.cls) (hlink : (Cond.methodLink own index y).before args s = true) (hstat : (Cond.static y).before args s = true) (hinit : (Cond.initialized y.cls).before args s = true)
    (hcode : (Cond.code y bytes maxL ret).before args s = true) (hy : y.cls ≠ "java/lang/invoke/MethodHandle" ∧ y.cls ≠ "java/lang/invoke/VarHandle")
    {W9 : Nat} {Pre : Pt → Array Value → Prop} {Post : Pt → Array Value → Option Value → Pt → Prop} {PostX : Pt → Array Value → Addr → Pt → Prop} (hK : vx_Back l R p e below s args y 3 W9 Pre Post PostX)
    {g : JFrame} (hg : g.method = m) (hsize : g.locals.size = c.maxLocals) {argsL rest : List Value} (hlen : ∀ sig, parseMethodDescriptor y.desc = some sig → argsL.length = sig.parameters.length)
    (hstack : g.stack = argsL.reverse ++ rest) (hW : 2 * g.monitorRoom + (rest.map fun v => v.category).sum ≤ W9) (hdg : decode c.code g.pc = .ok (.invokestatic index, 3))
    (hpre : ∀ vm₁, s.WarmedH vm₁ → Pre ⟨T.setVm vm₁, locs, cells, slots⟩ argsL.toArray) :
    (∃ (v : Option Value) (vm₁ : Vm) (B : Pt), s.WarmedH vm₁ ∧ Stand p l e R s m args below meth c B.U B.locs B.cells B.slots ∧ Post ⟨T.setVm vm₁, locs, cells, slots⟩ argsL.toArray v B ∧
      ∀ target, Steps p.tables e below (B.U.setTop { g with pc := g.pc + 3, stack := v.toList ++ rest }) target → Steps p.tables e below (T.setTop g) target) ∨
    (∃ (q : Addr) (vm₁ : Vm) (B : Pt), s.WarmedH vm₁ ∧ Stand p l e R s m args below meth c B.U B.locs B.cells B.slots ∧ PostX ⟨T.setVm vm₁, locs, cells, slots⟩ argsL.toArray q B ∧
      Steps p.tables e below (T.setTop g) ((B.U.setTop { g with stack := rest }).pushFrame (.throwing q))) := by
  obtain ⟨mk, hnamed⟩ := Cond.code_named hcode
  obtain ⟨methM, cM, hmethM, -, -, -, -, -, -, hsigM⟩ := Cond.code_spec hnamed hcode
  have hstatic : methM.isStatic = true := Cond.static_spec hnamed hmethM hstat
  obtain ⟨kP, hkP, -⟩ := className_of_methodNamed hnamed
  have hinitP : kP.init = .initialized := Cond.initialized_spec (findClass_of_methodNamed hnamed) hkP hinit
  obtain ⟨vm₁, X₁, hstep₁⟩ := X.invokestatic hexec hown hlink hnamed hmethM hstatic hkP hinitP hy (g := g) hg (argsL := argsL) (rest := rest) (hlen _ hsigM) hstack hdg
  rcases hK m meth c ⟨T.setVm vm₁, locs, cells, slots⟩ { g with stack := rest } (.invokestatic index) mk argsL.toArray X₁ hg hsize hdg hW (X₁.named hnamed) (hpre vm₁ X₁.warmed) with ⟨v, B, X', hpost, hsteps⟩ | ⟨q, B, X', hpost, hsteps⟩
  · exact Or.inl ⟨v, vm₁, B, X₁.warmed, X', hpost, fun target h => hstep₁ _ fun acts => by rw [doInvoke_state]; exact hsteps.trans h⟩
  · exact Or.inr ⟨q, vm₁, B, X₁.warmed, X', hpost, hstep₁ _ fun acts => by rw [doInvoke_state]; exact hsteps⟩
end Calls
theorem vx_cls {s : State} {T : State} {vm₁ : Vm} {E : String} {k : ClassId} (hW : s.WarmedH vm₁) (h : (T.setVm vm₁).vm.findClass E = some k) : s.vm.findClass E = some k := by
  have h1 : vm₁.findClass E = some k := h
  rw [hW.alike.findClass] at h1
  exact h1
def vx_W (p : Program) (l : Launch) (e : Env) (R : Room) (s : State) (m : MethodId) (args : Array Value) (below : List Frame) (meth : Method) (c : Code) (H : Heap) (locs : List Loc) (cells slots : Nat) (Q : State → Prop) (g : JFrame) (q : Addr) : Prop :=
  ∀ T : State, T.heap = H → Stand p l e R s m args below meth c T locs cells slots → ∃ t, Steps p.tables e below ((T.setTop g).pushFrame (.throwing q)) t ∧ Q t
def vx_Run (p : Program) (l : Launch) (e : Env) (R : Room) (s : State) (m : MethodId) (args : Array Value) (below : List Frame) (meth : Method) (c : Code) (H : Heap) (locs : List Loc) (cells slots mc ms : Nat) (g : JFrame) (rest : List Value) (Qa : State → Outcome → State → Prop) (XC : String → State → State → Prop) (free : Addr → Prop) : Prop :=
  ∀ T : State, T.heap = H → Stand p l e R s m args below meth c T locs cells slots →
    (∃ (v : Option Value) (st₀ t T' : State) (L : List Loc), st₀.heap = H ∧ Stand p l e R s m args below meth c T' (locs ++ L) (cells + mc) (slots + ms) ∧ (∀ q ∈ L, free q.base) ∧ T'.heap = t.heap ∧ T'.vm = t.vm ∧ Qa st₀ (.returned v) t ∧
      Goes p e below T g T' { g with pc := g.pc + 3, stack := v.toList ++ rest }) ∨
    (∃ (q : Addr) (st₀ t T' : State) (L : List Loc) (E : String) (ce : Cell), st₀.heap = H ∧ Stand p l e R s m args below meth c T' (locs ++ L) (cells + mc) (slots + ms) ∧ (∀ z ∈ L, free z.base) ∧ T'.heap = t.heap ∧ T'.vm = t.vm ∧ XC E st₀ t ∧ t.heap[q]? = some ce ∧ ce.vm = .none ∧ s.vm.findClass E = some ce.cls ∧
      Steps p.tables e below (T.setTop g) ((T'.setTop { g with stack := rest }).pushFrame (.throwing q)))
def vx_X {S : Type} (px : S → Prop) (B : String → S → State → Prop) (A : Nat → Prop) : String → State → State → Prop := fun E st t => ∃ u : S, px u ∧ B E u t ∧ va_F A st t
section Runs
variable {p : Program} {l : Launch} {e : Env} {R : Room} {s : State} {m : MethodId} {args : Array Value} {below : List Frame} {meth : Method} {c : Code} {H : Heap} {locs : List Loc} {cells slots : Nat}
variable {y : MethodName} {bytes cc : ByteArray} {maxL nL mc ms n index : Nat} {ret : Option FieldType} {ws : List Cond} {rm : Room} {Pc : Array Value → State → Prop} {Qc : Array Value → State → Outcome → State → Prop} {XC : String → State → State → Prop} {free : Addr → Prop} {Ts : List Cond} {own C : String} {b : Addr} {As rest : List Value} {g : JFrame}
theorem vx_callBack (cb : CallB R s args own index y bytes maxL ret ws rm mc ms n) (hM : vx_Met l y ws rm Pc Qc XC mc ms free) (hbl : FrameBlind Pc) : vx_Back l R p e below s args y 3 8 (PreOf R mc ms Pc) (PostOf Qc mc ms free) (vx_Post XC mc ms free) := by
  obtain ⟨hrc, hrs, hfr, hlo, hws, hcw, -, hini, -⟩ := cb
  exact vx_back (bytes := bytes) (maxL := maxL) (ret := ret) hM hbl hrc hrs hfr hlo hws hcw (fun a' U hW => word_at hW (Or.inl (by first | rfl | simp [Cond.onTables, Cond.keeps, Cond.steady])) hini)
theorem vx_runV (S : CallFix p m c cc nL s args Ts own) (hM : vx_Met l y ws rm Pc Qc XC mc ms free) (cw : CallW R s args own C index y bytes maxL ret ws rm mc ms n) (hp : PreV s H C b Pc As)
    (hg : g.method = m) (hn : As.length = n) (hsize : g.locals.size = nL) (hstack : g.stack = As.reverse ++ .ref b :: rest) (hW : 2 * g.monitorRoom + (rest.map fun v => v.category).sum ≤ 8) (hdg : decode cc g.pc = .ok (.invokevirtual index, 3)) (hf : cells + mc ≤ R.cells ∧ slots + ms ≤ R.slots) :
    vx_Run p l e R s m args below meth c H locs cells slots mc ms g rest (Qc (Value.ref b :: As).toArray) XC free := by
  have hK : vx_Back l R p e below s args y 3 8 (PreOf R mc ms Pc) (PostOf Qc mc ms free) (vx_Post XC mc ms free) := vx_callBack cw.1 hM hp.1
  obtain ⟨⟨-, -, -, -, -, -, hcode, -, hy, hlen, hl⟩, hin, hse⟩ := cw
  obtain ⟨hx, hb, hml, ho, -⟩ := S
  obtain ⟨-, ⟨cellB, hcB, hoB, hclB⟩, hPc⟩ := hp
  intro T hT X
  rcases vx_callV X hx (C := C) (bytes := bytes) (maxL := maxL) (ret := ret) ho hl hin hse hcode hy hK (by rw [hT]; exact hcB) hoB hclB hg (hsize.trans hml.symm) (argsL := As) (rest := rest) (fun sig h => hn.trans (hlen sig h)) hstack hW (by rw [hb]; exact hdg)
    (fun vm₁ hW₁ => ⟨hf.1, hf.2, hPc (T.setVm vm₁) hT hW₁⟩) with ⟨v, vm₁, ⟨U', l2, c2, s2⟩, hW₁, X', ⟨g', mk, t, L, e1, e2, hq, h1, hL, h2, h3⟩, st⟩ | ⟨q, vm₁, ⟨U', l2, c2, s2⟩, hW₁, X', ⟨g', mk, t, L, E, ce, e1, e2, hq, hce, hcv, hcl, h1, hL, h2, h3⟩, st⟩
  · dsimp only [Pt.U, Pt.locs, Pt.cells, Pt.slots] at X' e1 e2 h1 h2 h3 st
    subst h1; subst h2; subst h3
    exact Or.inl ⟨v, (T.setVm vm₁).calling g' mk (Value.ref b :: As).toArray, t, U', L, hT, X', hL, e1, e2, hq, st⟩
  · dsimp only [Pt.U, Pt.locs, Pt.cells, Pt.slots] at X' e1 e2 h1 h2 h3 st hcl
    subst h1; subst h2; subst h3
    exact Or.inr ⟨q, (T.setVm vm₁).calling g' mk (Value.ref b :: As).toArray, t, U', L, E, ce, hT, X', hL, e1, e2, hq, hce, hcv, vx_cls hW₁ hcl, st⟩
theorem vx_runS (S : CallFix p m c cc nL s args Ts own) (hM : vx_Met l y ws rm Pc Qc XC mc ms free) (cw : CallB R s args own index y bytes maxL ret ws rm mc ms n ∧ (Cond.static y).before args s = true) (hp : PreS s H Pc As)
    (hg : g.method = m) (hn : As.length = n) (hsize : g.locals.size = nL) (hstack : g.stack = As.reverse ++ rest) (hW : 2 * g.monitorRoom + (rest.map fun v => v.category).sum ≤ 8) (hdg : decode cc g.pc = .ok (.invokestatic index, 3)) (hf : cells + mc ≤ R.cells ∧ slots + ms ≤ R.slots) :
    vx_Run p l e R s m args below meth c H locs cells slots mc ms g rest (Qc As.toArray) XC free := by
  have hK : vx_Back l R p e below s args y 3 8 (PreOf R mc ms Pc) (PostOf Qc mc ms free) (vx_Post XC mc ms free) := vx_callBack cw.1 hM hp.1
  obtain ⟨⟨-, -, -, -, -, -, hcode, hini, hy, hlen, hl⟩, hstt⟩ := cw
  obtain ⟨hx, hb, hml, ho, -⟩ := S
  intro T hT X
  rcases vx_callS X hx (bytes := bytes) (maxL := maxL) (ret := ret) ho hl hstt hini hcode hy hK hg (hsize.trans hml.symm) (argsL := As) (rest := rest) (fun sig h => hn.trans (hlen sig h)) hstack hW (by rw [hb]; exact hdg)
    (fun vm₁ hW₁ => ⟨hf.1, hf.2, hp.2 (T.setVm vm₁) hT hW₁⟩) with ⟨v, vm₁, ⟨U', l2, c2, s2⟩, hW₁, X', ⟨g', mk, t, L, e1, e2, hq, h1, hL, h2, h3⟩, st⟩ | ⟨q, vm₁, ⟨U', l2, c2, s2⟩, hW₁, X', ⟨g', mk, t, L, E, ce, e1, e2, hq, hce, hcv, hcl, h1, hL, h2, h3⟩, st⟩
  · dsimp only [Pt.U, Pt.locs, Pt.cells, Pt.slots] at X' e1 e2 h1 h2 h3 st
    subst h1; subst h2; subst h3
    exact Or.inl ⟨v, (T.setVm vm₁).calling g' mk As.toArray, t, U', L, hT, X', hL, e1, e2, hq, st⟩
  · dsimp only [Pt.U, Pt.locs, Pt.cells, Pt.slots] at X' e1 e2 h1 h2 h3 st hcl
    subst h1; subst h2; subst h3
    exact Or.inr ⟨q, (T.setVm vm₁).calling g' mk As.toArray, t, U', L, E, ce, hT, X', hL, e1, e2, hq, hce, hcv, vx_cls hW₁ hcl, st⟩
end Runs
section Rows
variable {p : Program} {l : Launch} {e : Env} {R : Room} {s : State} {m : MethodId} {args : Array Value} {below : List Frame} {meth : Method} {c : Code} {H : Heap} {locs : List Loc} {cells slots : Nat} {Q : State → Prop}
variable {mc ms : Nat} {free : Addr → Prop} {A0 A1 : Nat → Prop} {H0 : Heap} {a : Array Value} {pc : Nat} {ls : Array Slot} {st0 rest : List Value}
theorem vx_keep {st₀ t T' : State} {L : List Loc} (h0 : st₀.heap = H) (e1 : T'.heap = t.heap) (hS : va_S A0 H0 H locs) (hA : ∀ q, q < H.size → A1 q → A0 q) (hf : ∀ q, free q → A0 q) (hL : ∀ q ∈ L, free q.base) (hF : va_F A1 st₀ t) :
    H.size ≤ T'.heap.size ∧ (∀ q : Nat, q < H.size → ¬ A1 q → T'.heap[q]? = H[q]?) ∧ va_S A0 H0 T'.heap (locs ++ L) := by
  obtain ⟨hz, hk⟩ := hF
  rw [h0] at hz hk
  exact ⟨by rw [e1]; exact hz, fun q h1 h2 => by rw [e1]; exact hk q h1 h2,
    ⟨Nat.le_trans hS.1 (by rw [e1]; exact hz), fun q h1 h2 => by rw [e1, hk q (Nat.lt_of_lt_of_le h1 hS.1) (fun z => h2 (hA q (Nat.lt_of_lt_of_le h1 hS.1) z))]; exact hS.2.1 q h1 h2, fun q hq => by
      rcases List.mem_append.mp hq with h | h
      · exact hS.2.2 q h
      · exact hf _ (hL q h)⟩⟩
theorem vx_calli {S SX : Type} {post : Int32 → S → Prop} {px : SX → Prop} {B : S → State → Prop} {BX : String → SX → State → Prop} {AX : Nat → Prop} (hr : vx_Run p l e R s m args below meth c H locs cells slots mc ms (F0 m pc ls st0) rest (va_Qi post B A1 a) (vx_X px BX AX) free) (hS : va_S A0 H0 H locs) (hA : ∀ q, q < H.size → A1 q → A0 q) (hf : ∀ q, free q → A0 q) (hAX : ∀ q, q < H.size → AX q → A0 q)
    (kx : ∀ (E : String) (ce : Cell) (q9 : Addr) (u : SX) (t : State) (H1 : Heap) (locs1 : List Loc), t.heap = H1 → s.vm.Alike t.vm → px u → BX E u t → H.size ≤ H1.size → (∀ q : Nat, q < H.size → ¬ AX q → H1[q]? = H[q]?) → va_S A0 H0 H1 locs1 → H1[q9]? = some ce → ce.vm = .none → s.vm.findClass E = some ce.cls → vx_W p l e R s m args below meth c H1 locs1 (cells + mc) (slots + ms) Q (F0 m pc ls rest) q9)
    (kk : ∀ (r : Int32) (u : S) (t : State) (H1 : Heap) (locs1 : List Loc), t.heap = H1 → s.vm.Alike t.vm → post r u → B u t → H.size ≤ H1.size → (∀ q : Nat, q < H.size → ¬ A1 q → H1[q]? = H[q]?) → va_S A0 H0 H1 locs1 → W p l e R s m args below meth c H1 locs1 (cells + mc) (slots + ms) Q (F0 m (pc + 3) ls (.int r :: rest))) : W p l e R s m args below meth c H locs cells slots Q (F0 m pc ls st0) := by
  intro T hT X
  rcases hr T hT X with ⟨v, st₀, t, T', L, h0, X', hL, e1, e2, ⟨⟨r, u, hv, hp, hb⟩, hF⟩, st⟩ | ⟨q, st₀, t, T', L, E, ce, h0, X', hL, e1, e2, ⟨u, hp, hb, hF⟩, hce, hcv, hcl, st⟩
  · cases hv
    obtain ⟨k1, k2, k3⟩ := vx_keep h0 e1 hS hA hf hL hF
    obtain ⟨t2, a1, b1⟩ := kk r u t T'.heap (locs ++ L) e1.symm (by rw [← e2]; exact X'.warmed.alike) hp hb k1 k2 k3 T' rfl X'
    exact ⟨t2, st t2 a1, b1⟩
  · obtain ⟨k1, k2, k3⟩ := vx_keep h0 e1 hS hAX hf hL hF
    obtain ⟨t2, a1, b1⟩ := kx E ce q u t T'.heap (locs ++ L) e1.symm (by rw [← e2]; exact X'.warmed.alike) hp hb k1 k2 k3 (by rw [e1]; exact hce) hcv hcl T' rfl X'
    exact ⟨t2, st.trans a1, b1⟩
theorem vx_calll {S SX : Type} {post : Int64 → S → Prop} {px : SX → Prop} {B : S → State → Prop} {BX : String → SX → State → Prop} {AX : Nat → Prop} (hr : vx_Run p l e R s m args below meth c H locs cells slots mc ms (F0 m pc ls st0) rest (va_Ql post B A1 a) (vx_X px BX AX) free) (hS : va_S A0 H0 H locs) (hA : ∀ q, q < H.size → A1 q → A0 q) (hf : ∀ q, free q → A0 q) (hAX : ∀ q, q < H.size → AX q → A0 q)
    (kx : ∀ (E : String) (ce : Cell) (q9 : Addr) (u : SX) (t : State) (H1 : Heap) (locs1 : List Loc), t.heap = H1 → s.vm.Alike t.vm → px u → BX E u t → H.size ≤ H1.size → (∀ q : Nat, q < H.size → ¬ AX q → H1[q]? = H[q]?) → va_S A0 H0 H1 locs1 → H1[q9]? = some ce → ce.vm = .none → s.vm.findClass E = some ce.cls → vx_W p l e R s m args below meth c H1 locs1 (cells + mc) (slots + ms) Q (F0 m pc ls rest) q9)
    (kk : ∀ (r : Int64) (u : S) (t : State) (H1 : Heap) (locs1 : List Loc), t.heap = H1 → s.vm.Alike t.vm → post r u → B u t → H.size ≤ H1.size → (∀ q : Nat, q < H.size → ¬ A1 q → H1[q]? = H[q]?) → va_S A0 H0 H1 locs1 → W p l e R s m args below meth c H1 locs1 (cells + mc) (slots + ms) Q (F0 m (pc + 3) ls (.long r :: rest))) : W p l e R s m args below meth c H locs cells slots Q (F0 m pc ls st0) := by
  intro T hT X
  rcases hr T hT X with ⟨v, st₀, t, T', L, h0, X', hL, e1, e2, ⟨⟨r, u, hv, hp, hb⟩, hF⟩, st⟩ | ⟨q, st₀, t, T', L, E, ce, h0, X', hL, e1, e2, ⟨u, hp, hb, hF⟩, hce, hcv, hcl, st⟩
  · cases hv
    obtain ⟨k1, k2, k3⟩ := vx_keep h0 e1 hS hA hf hL hF
    obtain ⟨t2, a1, b1⟩ := kk r u t T'.heap (locs ++ L) e1.symm (by rw [← e2]; exact X'.warmed.alike) hp hb k1 k2 k3 T' rfl X'
    exact ⟨t2, st t2 a1, b1⟩
  · obtain ⟨k1, k2, k3⟩ := vx_keep h0 e1 hS hAX hf hL hF
    obtain ⟨t2, a1, b1⟩ := kx E ce q u t T'.heap (locs ++ L) e1.symm (by rw [← e2]; exact X'.warmed.alike) hp hb k1 k2 k3 (by rw [e1]; exact hce) hcv hcl T' rfl X'
    exact ⟨t2, st.trans a1, b1⟩
theorem vx_callf {S SX : Type} {post : UInt32 → S → Prop} {px : SX → Prop} {B : S → State → Prop} {BX : String → SX → State → Prop} {AX : Nat → Prop} (hr : vx_Run p l e R s m args below meth c H locs cells slots mc ms (F0 m pc ls st0) rest (va_Qf post B A1 a) (vx_X px BX AX) free) (hS : va_S A0 H0 H locs) (hA : ∀ q, q < H.size → A1 q → A0 q) (hf : ∀ q, free q → A0 q) (hAX : ∀ q, q < H.size → AX q → A0 q)
    (kx : ∀ (E : String) (ce : Cell) (q9 : Addr) (u : SX) (t : State) (H1 : Heap) (locs1 : List Loc), t.heap = H1 → s.vm.Alike t.vm → px u → BX E u t → H.size ≤ H1.size → (∀ q : Nat, q < H.size → ¬ AX q → H1[q]? = H[q]?) → va_S A0 H0 H1 locs1 → H1[q9]? = some ce → ce.vm = .none → s.vm.findClass E = some ce.cls → vx_W p l e R s m args below meth c H1 locs1 (cells + mc) (slots + ms) Q (F0 m pc ls rest) q9)
    (kk : ∀ (r : UInt32) (u : S) (t : State) (H1 : Heap) (locs1 : List Loc), t.heap = H1 → s.vm.Alike t.vm → post r u → B u t → H.size ≤ H1.size → (∀ q : Nat, q < H.size → ¬ A1 q → H1[q]? = H[q]?) → va_S A0 H0 H1 locs1 → W p l e R s m args below meth c H1 locs1 (cells + mc) (slots + ms) Q (F0 m (pc + 3) ls (.float r :: rest))) : W p l e R s m args below meth c H locs cells slots Q (F0 m pc ls st0) := by
  intro T hT X
  rcases hr T hT X with ⟨v, st₀, t, T', L, h0, X', hL, e1, e2, ⟨⟨r, u, hv, hp, hb⟩, hF⟩, st⟩ | ⟨q, st₀, t, T', L, E, ce, h0, X', hL, e1, e2, ⟨u, hp, hb, hF⟩, hce, hcv, hcl, st⟩
  · cases hv
    obtain ⟨k1, k2, k3⟩ := vx_keep h0 e1 hS hA hf hL hF
    obtain ⟨t2, a1, b1⟩ := kk r u t T'.heap (locs ++ L) e1.symm (by rw [← e2]; exact X'.warmed.alike) hp hb k1 k2 k3 T' rfl X'
    exact ⟨t2, st t2 a1, b1⟩
  · obtain ⟨k1, k2, k3⟩ := vx_keep h0 e1 hS hAX hf hL hF
    obtain ⟨t2, a1, b1⟩ := kx E ce q u t T'.heap (locs ++ L) e1.symm (by rw [← e2]; exact X'.warmed.alike) hp hb k1 k2 k3 (by rw [e1]; exact hce) hcv hcl T' rfl X'
    exact ⟨t2, st.trans a1, b1⟩
theorem vx_calld {S SX : Type} {post : UInt64 → S → Prop} {px : SX → Prop} {B : S → State → Prop} {BX : String → SX → State → Prop} {AX : Nat → Prop} (hr : vx_Run p l e R s m args below meth c H locs cells slots mc ms (F0 m pc ls st0) rest (va_Qd post B A1 a) (vx_X px BX AX) free) (hS : va_S A0 H0 H locs) (hA : ∀ q, q < H.size → A1 q → A0 q) (hf : ∀ q, free q → A0 q) (hAX : ∀ q, q < H.size → AX q → A0 q)
    (kx : ∀ (E : String) (ce : Cell) (q9 : Addr) (u : SX) (t : State) (H1 : Heap) (locs1 : List Loc), t.heap = H1 → s.vm.Alike t.vm → px u → BX E u t → H.size ≤ H1.size → (∀ q : Nat, q < H.size → ¬ AX q → H1[q]? = H[q]?) → va_S A0 H0 H1 locs1 → H1[q9]? = some ce → ce.vm = .none → s.vm.findClass E = some ce.cls → vx_W p l e R s m args below meth c H1 locs1 (cells + mc) (slots + ms) Q (F0 m pc ls rest) q9)
    (kk : ∀ (r : UInt64) (u : S) (t : State) (H1 : Heap) (locs1 : List Loc), t.heap = H1 → s.vm.Alike t.vm → post r u → B u t → H.size ≤ H1.size → (∀ q : Nat, q < H.size → ¬ A1 q → H1[q]? = H[q]?) → va_S A0 H0 H1 locs1 → W p l e R s m args below meth c H1 locs1 (cells + mc) (slots + ms) Q (F0 m (pc + 3) ls (.double r :: rest))) : W p l e R s m args below meth c H locs cells slots Q (F0 m pc ls st0) := by
  intro T hT X
  rcases hr T hT X with ⟨v, st₀, t, T', L, h0, X', hL, e1, e2, ⟨⟨r, u, hv, hp, hb⟩, hF⟩, st⟩ | ⟨q, st₀, t, T', L, E, ce, h0, X', hL, e1, e2, ⟨u, hp, hb, hF⟩, hce, hcv, hcl, st⟩
  · cases hv
    obtain ⟨k1, k2, k3⟩ := vx_keep h0 e1 hS hA hf hL hF
    obtain ⟨t2, a1, b1⟩ := kk r u t T'.heap (locs ++ L) e1.symm (by rw [← e2]; exact X'.warmed.alike) hp hb k1 k2 k3 T' rfl X'
    exact ⟨t2, st t2 a1, b1⟩
  · obtain ⟨k1, k2, k3⟩ := vx_keep h0 e1 hS hAX hf hL hF
    obtain ⟨t2, a1, b1⟩ := kx E ce q u t T'.heap (locs ++ L) e1.symm (by rw [← e2]; exact X'.warmed.alike) hp hb k1 k2 k3 (by rw [e1]; exact hce) hcv hcl T' rfl X'
    exact ⟨t2, st.trans a1, b1⟩
theorem vx_callv {S SX : Type} {post : S → Prop} {px : SX → Prop} {B : S → State → Prop} {BX : String → SX → State → Prop} {AX : Nat → Prop} (hr : vx_Run p l e R s m args below meth c H locs cells slots mc ms (F0 m pc ls st0) rest (va_Qv post B A1 a) (vx_X px BX AX) free) (hS : va_S A0 H0 H locs) (hA : ∀ q, q < H.size → A1 q → A0 q) (hf : ∀ q, free q → A0 q) (hAX : ∀ q, q < H.size → AX q → A0 q)
    (kx : ∀ (E : String) (ce : Cell) (q9 : Addr) (u : SX) (t : State) (H1 : Heap) (locs1 : List Loc), t.heap = H1 → s.vm.Alike t.vm → px u → BX E u t → H.size ≤ H1.size → (∀ q : Nat, q < H.size → ¬ AX q → H1[q]? = H[q]?) → va_S A0 H0 H1 locs1 → H1[q9]? = some ce → ce.vm = .none → s.vm.findClass E = some ce.cls → vx_W p l e R s m args below meth c H1 locs1 (cells + mc) (slots + ms) Q (F0 m pc ls rest) q9)
    (kk : ∀ (u : S) (t : State) (H1 : Heap) (locs1 : List Loc), t.heap = H1 → s.vm.Alike t.vm → post u → B u t → H.size ≤ H1.size → (∀ q : Nat, q < H.size → ¬ A1 q → H1[q]? = H[q]?) → va_S A0 H0 H1 locs1 → W p l e R s m args below meth c H1 locs1 (cells + mc) (slots + ms) Q (F0 m (pc + 3) ls (rest))) : W p l e R s m args below meth c H locs cells slots Q (F0 m pc ls st0) := by
  intro T hT X
  rcases hr T hT X with ⟨v, st₀, t, T', L, h0, X', hL, e1, e2, ⟨⟨u, hv, hp, hb⟩, hF⟩, st⟩ | ⟨q, st₀, t, T', L, E, ce, h0, X', hL, e1, e2, ⟨u, hp, hb, hF⟩, hce, hcv, hcl, st⟩
  · cases hv
    obtain ⟨k1, k2, k3⟩ := vx_keep h0 e1 hS hA hf hL hF
    obtain ⟨t2, a1, b1⟩ := kk u t T'.heap (locs ++ L) e1.symm (by rw [← e2]; exact X'.warmed.alike) hp hb k1 k2 k3 T' rfl X'
    exact ⟨t2, st t2 a1, b1⟩
  · obtain ⟨k1, k2, k3⟩ := vx_keep h0 e1 hS hAX hf hL hF
    obtain ⟨t2, a1, b1⟩ := kx E ce q u t T'.heap (locs ++ L) e1.symm (by rw [← e2]; exact X'.warmed.alike) hp hb k1 k2 k3 (by rw [e1]; exact hce) hcv hcl T' rfl X'
    exact ⟨t2, st.trans a1, b1⟩
theorem vx_catch {own name : String} {E : String} {ce : Cell} {q : Addr} (hown : s.vm.findClass own = some m.cls) (pre : List ExceptionTableEntry) (x : ExceptionTableEntry) (suf : List ExceptionTableEntry) (hsplit : c.exceptionTable.toList = pre ++ x :: suf)
    (hpass : ∀ z ∈ pre, covers z pc = false ∨ (z.catchType ≠ 0 ∧ ∃ nm : String, (Cond.classLink own z.catchType nm).before args s = true ∧ va_Nc E nm s)) (hx : covers x pc = true) (h0 : x.catchType ≠ 0)
    (hlink : (Cond.classLink own x.catchType name).before args s = true) (hcast : (Cond.castable E name).before args s = true) (hcell : H[q]? = some ce) (hv : ce.vm = .none) (hcl : s.vm.findClass E = some ce.cls)
    (kk : W p l e R s m args below meth c H locs cells slots Q (F0 m x.handlerPc ls [.ref q])) : vx_W p l e R s m args below meth c H locs cells slots Q (F0 m pc ls rest) q := by
  intro T hT X
  have hpl : e.platform.magicAccessors = ({} : Platform).magicAccessors := by rw [X.admits.platform]
  obtain ⟨c3, c4, hc3, hc4, hasg⟩ := Cond.castable_spec hcast
  cases Option.some.inj (hc3.symm.trans hcl)
  obtain ⟨c5, hc5, hcl5⟩ := Cond.classLink_spec hown hlink e.platform hpl
  cases Option.some.inj (hc4.symm.trans hc5)
  obtain ⟨vm', X', st⟩ := X.thenCaughtThrough q (g := F0 m pc ls rest) rfl (Steps.refl _) (by rw [hT]; exact hcell) (by rw [hv]; rfl) (by obtain ⟨k9, h9, -⟩ := Vm.findClass_spec hcl; exact ⟨k9, h9⟩) pre x suf hsplit
    (fun z hz => by
      rcases hpass z hz with h | ⟨hz0, nm, hl1, hn1⟩
      · exact Or.inl h
      · obtain ⟨c6, hc6, hcl6⟩ := Cond.classLink_spec hown hl1 e.platform hpl
        obtain ⟨a8, b8, h1, h2, h3⟩ := hn1
        cases Option.some.inj (h1.symm.trans hcl)
        cases Option.some.inj (h2.symm.trans hc6)
        exact Or.inr ⟨hz0, _, hcl6, h3⟩) hx (Or.inr ⟨h0, c4, hcl5, hasg⟩)
  obtain ⟨t, a1, b1⟩ := kk (T.setVm vm') hT X'
  exact ⟨t, st.trans a1, b1⟩
end Rows
section Ends
variable {p : Program} {l : Launch} {e : Env} {R : Room} {s : State} {m : MethodId} {args : Array Value} {below : List Frame} {meth : Method} {c : Code} {H : Heap} {locs : List Loc} {cells slots : Nat} {Q : State → Prop}
variable {mc ms : Nat} {free : Addr → Prop} {A0 A1 : Nat → Prop} {H0 : Heap} {a : Array Value} {ls : Array Slot} {st0 rest : List Value}
variable {Qc : Array Value → State → Outcome → State → Prop} {XC : String → State → State → Prop}
def vx_MQ (below : List Frame) (Qc : Array Value → State → Outcome → State → Prop) (XC : String → State → State → Prop) (a : Array Value) (s : State) (mc ms : Nat) (free : Addr → Prop) : State → Prop := fun t =>
  ∃ o, t.status = .running ∧ Ended t below o ∧ vx_Q Qc XC mc ms free a s o t
theorem vx_ret {g : JFrame} {mc ms : Nat} (k : W p l e R s m args below meth c H locs cells slots (MQ below Qc args s mc ms free) g) : W p l e R s m args below meth c H locs cells slots (vx_MQ below Qc XC args s mc ms free) g := by
  intro T hT X
  obtain ⟨t, a1, o, b1, b2, b3, b4⟩ := k T hT X
  exact ⟨t, a1, o, b1, b2, Or.inl ⟨b3, b4⟩⟩
theorem vx_widen {g : JFrame} {q : Addr} {k n : Nat} (h1 : cells ≤ k) (h2 : slots ≤ n) (kk : vx_W p l e R s m args below meth c H locs k n Q g q) : vx_W p l e R s m args below meth c H locs cells slots Q g q := fun T hT X => kk T hT (stand_widen X h1 h2)
theorem vx_out {pc : Nat} {E : String} {ce : Cell} {q : Addr} {mc ms : Nat} (hout : ∀ x ∈ c.exceptionTable.toList, covers x pc = false) (hlocks : meth.locks = false) (hcell : H[q]? = some ce) (hv : ce.vm = .none) (hcl : s.vm.findClass E = some ce.cls)
    (hx : ∀ t : State, t.heap = H → s.vm.Alike t.vm → XC E s t) (hf : ∀ z ∈ locs, free z.base) (hc : cells ≤ mc) (hs : slots ≤ ms) :
    vx_W p l e R s m args below meth c H locs cells slots (vx_MQ below Qc XC args s mc ms free) (F0 m pc ls rest) q := by
  intro T hT X
  obtain ⟨st1, hrun, hend, hW, hsm⟩ := X.leaveThrown q (g := F0 m pc ls rest) rfl rfl rfl hout hlocks
  have hcell9 : (T.setFrames (.throwing q :: below)).heap[q]? = some ce := by
    show T.heap[q]? = some ce
    rw [hT]; exact hcell
  exact ⟨_, st1, .threw q, hrun, hend, Or.inr ⟨q, rfl, E, ce, locs, hx _ hT hW.alike, hcell9, hv, hcl, hW, hsm.mono hc hs, hf⟩⟩
theorem vx_frame {U : State} {k n : Nat} (h : s.sameButNew ({ U with vm := s.vm } : State) locs k n) : s.heap.size ≤ U.heap.size ∧ ∀ q : Nat, q < s.heap.size → (∀ z ∈ locs, z.base ≠ q) → U.heap[q]? = s.heap[q]? := by
  obtain ⟨-, h2, -, -, -, h6⟩ := h
  refine ⟨h2, fun q hq hz => ?_⟩
  obtain ⟨c9, e1, e2, e3, e4⟩ := h6 q _ (Array.getElem?_eq_getElem hq)
  have hs : c9.slots = (s.heap[q]).slots := Array.ext_getElem? fun i => e4 i fun hm => hz _ hm rfl
  have h9 : c9 = s.heap[q] := by
    rw [hs] at e2
    exact e2
  have e5 : U.heap[q]? = some c9 := e1
  rw [e5, h9, Array.getElem?_eq_getElem hq]
def vx_no (w : Cond) : Bool := decide (w ≠ .isRef (.static Bundle.tN "UNASSIGNED_STACK" Bundle.steD)) && decide (w ≠ .isRef (.static Bundle.tN "SUPPRESSED_SENTINEL" Bundle.listD)) && decide (w ≠ .laysStatic Bundle.tN "UNASSIGNED_STACK" Bundle.steD) && decide (w ≠ .laysStatic Bundle.tN "SUPPRESSED_SENTINEL" Bundle.listD)
def vx_at0 (own : String) (ic : Nat) (X : String) (names : List String) : List Cond := (Bundle.ownAtoms0 own ic X names).filter vx_no
def vx_atS (own : String) (ic : Nat) (X : String) (names : List String) : List Cond := (Bundle.ownAtoms own ic X names).filter vx_no
def vx_ot (w : Cond) : Bool := w.onTables || goodWord w
theorem vx_ot_at {args a' : Array Value} {s U : State} {w : Cond} (hW : s.WarmedH U.vm) (hvm : s.vm = U.vm) (hg : vx_ot w = true) (h : w.before args s = true) : w.before a' U = true := by
  simp only [vx_ot, Bool.or_eq_true] at hg
  rcases hg with hg | hg
  · exact va_tabs hg hvm h
  · exact word_at hW (good_of_word hg) h
theorem vx_hat {args : Array Value} {s : State} {L B : List Cond} (h1 : ∀ w ∈ L.filter goodWord, w.before args s = true) (h2 : ∀ w ∈ L.filter (fun w => !goodWord w), w ∈ B) (h3 : ∀ w ∈ B, w.before args s = true) : ∀ w ∈ L, w.before args s = true := by
  intro w hw
  by_cases g : goodWord w = true
  · exact h1 w (List.mem_filter.mpr ⟨hw, g⟩)
  · refine h3 w (h2 w (List.mem_filter.mpr ⟨hw, ?_⟩))
    show (!goodWord w) = true
    cases hgw : goodWord w
    · rfl
    · exact absurd hgw g
theorem vx_c {args : Array Value} {s : State} {w : Cond} {B : List Cond} (h : w.before args s = true) (t : ∀ w ∈ B, w.before args s = true) : ∀ w' ∈ w :: B, w'.before args s = true := fun w' h' => (List.mem_cons.mp h').elim (fun e => by rw [e]; exact h) (t w')
theorem vx_n {args : Array Value} {s : State} : ∀ w ∈ ([] : List Cond), w.before args s = true := fun _ h => nomatch h
theorem vx_own {args : Array Value} {s : State} {L : List Cond} (h1 : ∀ w ∈ L.filter vx_no, w.before args s = true)
    (hU : (Cond.isRef (.static Bundle.tN "UNASSIGNED_STACK" Bundle.steD)).before args s = true) (hN : (Cond.isRef (.static Bundle.tN "SUPPRESSED_SENTINEL" Bundle.listD)).before args s = true)
    (lU : (Cond.laysStatic Bundle.tN "UNASSIGNED_STACK" Bundle.steD).before args s = true) (lN : (Cond.laysStatic Bundle.tN "SUPPRESSED_SENTINEL" Bundle.listD).before args s = true) : ∀ w ∈ L, w.before args s = true := by
  intro w hw
  by_cases e1 : w = .isRef (.static Bundle.tN "UNASSIGNED_STACK" Bundle.steD)
  · rw [e1]; exact hU
  · by_cases e2 : w = .isRef (.static Bundle.tN "SUPPRESSED_SENTINEL" Bundle.listD)
    · rw [e2]; exact hN
    · by_cases e3 : w = .laysStatic Bundle.tN "UNASSIGNED_STACK" Bundle.steD
      · rw [e3]; exact lU
      · by_cases e4 : w = .laysStatic Bundle.tN "SUPPRESSED_SENTINEL" Bundle.listD
        · rw [e4]; exact lN
        · exact h1 w (List.mem_filter.mpr ⟨hw, by unfold vx_no; rw [decide_eq_true e1, decide_eq_true e2, decide_eq_true e3, decide_eq_true e4]; rfl⟩)
def vx_L (C n d : String) (A : Nat → Prop) (U : State) (H : Heap) : Prop := ∃ (c : ClassId) (k : Class) (i : Nat) (f : Field) (a : Nat) (cell : Cell), U.vm.findClass C = some c ∧ U.fieldFound? C n d = some (c, k, i, f) ∧ f.isStatic = true ∧ k.statics = some a ∧ H[a]? = some cell ∧ cell.vm.isStatics = true ∧ cell.cls = c ∧ f.slot < cell.slots.size ∧ k.staticTypes[f.slot]? = some f.type ∧ ¬ A a
theorem vx_L.moved {C n d : String} {A : Nat → Prop} {u U : State} {H : Heap} (hvm : u.vm.Alike U.vm) (h : vx_L C n d A u H) : vx_L C n d A U H := by
  obtain ⟨c, k, i, f, a, cell, h1, h2, h3, h4, h5, h6, h7, h8, h9, h10⟩ := h
  obtain ⟨k', hi', he⟩ := State.fieldFound?_setVm hvm h2
  exact ⟨c, k', i, f, a, cell, by rw [hvm.findClass]; exact h1, hi', h3, by rw [he]; exact h4, h5, h6, h7, h8, by rw [he]; exact h9, h10⟩
theorem vx_L.kept {C n d : String} {A : Nat → Prop} {U : State} {H H1 : Heap} (h : vx_L C n d A U H) (hq : ∀ a : Nat, a < H.size → ¬ A a → H1[a]? = H[a]?) : vx_L C n d A U H1 := by
  obtain ⟨c, k, i, f, a, cell, h1, h2, h3, h4, h5, h6, h7, h8, h9, h10⟩ := h
  exact ⟨c, k, i, f, a, cell, h1, h2, h3, h4, by rw [hq a (Array.getElem?_eq_some_iff.mp h5).1 h10]; exact h5, h6, h7, h8, h9, h10⟩
theorem vx_L.narrow {C n d : String} {A B : Nat → Prop} {U : State} {H : Heap} (h : vx_L C n d A U H) (hAB : ∀ q, B q → A q) : vx_L C n d B U H := by
  obtain ⟨c, k, i, f, a, cell, h1, h2, h3, h4, h5, h6, h7, h8, h9, h10⟩ := h
  exact ⟨c, k, i, f, a, cell, h1, h2, h3, h4, h5, h6, h7, h8, h9, fun z => h10 (hAB _ z)⟩
theorem vx_L.word {C n d : String} {A : Nat → Prop} {s : State} {args : Array Value} (h : vx_L C n d A s s.heap) : (Cond.laysStatic C n d).before args s = true := by
  obtain ⟨c, k, i, f, a, cell, h1, h2, h3, h4, h5, h6, h7, h8, h9, -⟩ := h
  show (Cond.laysStatic C n d).holds args s none s [] = true
  exact Cond.laysStatic_of h1 h2 h3 h4 h5 h6 h7 h8 h9
def vx_Zq (C n d : String) (A : Nat → Prop) (U : State) (H : Heap) : Prop := va_Zq C n d A U H ∧ vx_L C n d A U H
theorem vx_Zq.moved {C n d : String} {A : Nat → Prop} {u U : State} {H : Heap} (hvm : u.vm.Alike U.vm) (h : vx_Zq C n d A u H) : vx_Zq C n d A U H := ⟨va_Zq.moved hvm h.1, vx_L.moved hvm h.2⟩
theorem vx_Zq.kept {C n d : String} {A : Nat → Prop} {U : State} {H H1 : Heap} (h : vx_Zq C n d A U H) (hq : ∀ a : Nat, a < H.size → ¬ A a → H1[a]? = H[a]?) : vx_Zq C n d A U H1 := ⟨va_Zq.kept h.1 hq, vx_L.kept h.2 hq⟩
theorem vx_Zq.narrow {C n d : String} {A B : Nat → Prop} {U : State} {H : Heap} (h : vx_Zq C n d A U H) (hAB : ∀ q, B q → A q) : vx_Zq C n d B U H := ⟨va_Zq.narrow h.1 hAB, vx_L.narrow h.2 hAB⟩
theorem vx_Zqof {args : Array Value} {s : State} {C n d : String} {A : Nat → Prop} (hl : (Cond.laysStatic C n d).before args s = true) (hini : (Cond.initialized C).before args s = true) (h : (Cond.isRef (.static C n d)).before args s = true) (hA : ∀ a : Nat, a < s.heap.size → ¬ A a) : vx_Zq C n d A s s.heap := by
  refine ⟨va_Zqof hl hini h hA, ?_⟩
  obtain ⟨c, k, i, f, a, cell, h1, h2, h3, h4, h5, h6, h7, h8, h9⟩ := Cond.laysStatic_spec hl
  exact ⟨c, k, i, f, a, cell, h1, h2, h3, h4, h5, h6, h7, h8, h9, hA a (Array.getElem?_eq_some_iff.mp h5).1⟩
theorem vx_isRef {C n d : String} {v : Value} {A : Nat → Prop} {s : State} {args : Array Value} (h : va_Z C n d v A s s.heap) (hv : v.isRef = true) : (Cond.isRef (.static C n d)).before args s = true := by
  obtain ⟨cf, kf, fi, f, a, cell, h1, h2, h3, h4, h5, h6, h7, -⟩ := h
  have he : (Term.static C n d).eval args s none [] s = some v := by
    simp [Term.eval, State.fieldNamed?, h1, h2, h4, h5, h6, h7]
  simp only [Cond.before, Cond.holds, Cond.value, he]
  cases v <;> simp_all [Value.isRef]
theorem vx_isRefq {C n d : String} {A : Nat → Prop} {s : State} {args : Array Value} (h : va_Zq C n d A s s.heap) : (Cond.isRef (.static C n d)).before args s = true := by
  rcases h with h | ⟨t, h⟩
  · exact vx_isRef h rfl
  · exact vx_isRef h rfl
theorem vx_rebase {T : State} (X : Stand p l e R s m args below meth c T locs cells slots) {R' : Room} (hf : R'.frames ≤ R.frames) (hl : R'.locals ≤ R.locals) (hc : cells + R'.cells ≤ R.cells) (hs : slots + R'.slots ≤ R.slots) :
    Stand p l e R' ((T.setVm s.vm).setFrames (.invoking m args :: below)) m args below meth c T [] 0 0 := by
  have htop : (T.setVm s.vm).topJava?.isSome := X.here.top
  have hF : ((T.setVm s.vm).setFrames (.invoking m args :: below)).frames = .invoking m args :: below := State.frames_setFrames _ (State.cur_lt_of_top htop)
  obtain ⟨g₀, hg0⟩ := Option.isSome_iff_exists.mp htop
  obtain ⟨r, hr⟩ := State.topJava?_eq_some.mp hg0
  have hl9 : e.platform.stackLimits (T.setVm s.vm).me = e.platform.stackLimits s.me := X.limits
  have hb9 : (T.setVm s.vm).me.stackBytes = s.me.stackBytes := X.bytes
  refine ⟨X.admits, X.cas, X.clock, hF, ?_, X.hears, X.method, X.code, X.here, X.tail, X.warmed, ?_, ?_, ?_⟩
  · have h := X.room
    have hU : ((T.setVm s.vm).setFrames (.invoking m args :: below)).localsInUse = s.localsInUse := by
      rw [State.localsInUse_invoking hF (meth := meth) (c := c) X.method X.code, State.localsInUse_invoking X.frames X.method X.code]
    simp only [State.hasRoom, Bool.and_eq_true, decide_eq_true_eq] at h ⊢
    obtain ⟨⟨⟨⟨h1, h2, h3, h4, h5, h6⟩, h7⟩, h8⟩, h9⟩ := h
    rw [X.frames, List.length_cons] at h2 h3
    have q1 := X.heapSize
    have q2 := X.used
    simp only [hF, hU, List.length_cons, State.stackLimits_setFrames, State.stackBytes_setFrames, hl9, hb9]
    refine ⟨⟨⟨⟨by omega, by omega, by omega, by omega, by omega, h6⟩, ?_⟩, ?_⟩, X.book⟩
    · show T.heap.size + R'.cells ≤ e.platform.maxCells
      omega
    · show T.slotsUsed + R'.slots ≤ e.platform.maxSlots
      omega
  · rw [State.stackLimits_setFrames]; rfl
  · rw [State.stackBytes_setFrames]; rfl
  · refine ⟨?_, Nat.le_refl _, Nat.le_refl _, ?_, ?_, fun a c9 h9 => ⟨c9, h9, rfl, rfl, fun _ _ => rfl⟩⟩
    · obtain ⟨t, ht, -⟩ := State.frames_cons hr
      show T.setVm s.vm = { ((T.setVm s.vm).setFrames (.invoking m args :: below)).setFrames (T.setVm s.vm).frames with heap := T.heap, slotsUsed := T.slotsUsed }
      rw [State.setFrames_setFrames, State.setFrames_self ht]
      rfl
    · show T.slotsUsed = T.slotsUsed + ((T.heap.toList.drop T.heap.size).map (·.slots.size)).sum
      rw [List.drop_eq_nil_of_le (Nat.le_of_eq Array.length_toList)]
      rfl
    · show ((T.heap.toList.drop T.heap.size).map (·.slots.size)).sum ≤ 0
      rw [List.drop_eq_nil_of_le (Nat.le_of_eq Array.length_toList)]
      exact Nat.le_refl _
theorem vx_throw0 {cc : ByteArray} {pc : Nat} (hexec : p.tables.exec = Jvm.exec) (hb : c.code = cc) (hl : l.stackTraces = false) {own cls : String} {names : List String} {ik ic mc ms : Nat} {A : Nat → Prop}
    (hown : s.vm.findClass own = some m.cls) (hcls : Bundle.fit cls = true) (hnames : ∀ n ∈ names, Bundle.fit n = true)
    (hk : (Cond.classLink own ik cls).before args s = true) (hini : (Cond.initialized cls).before args s = true) (hat : ∀ w ∈ vx_at0 own ic cls names, w.before args s = true)
    (hgood : ∀ w ∈ Cond.classLink own ik cls :: Cond.initialized cls :: vx_at0 own ic cls names, vx_ot w = true)
    (hU : vx_Zq Bundle.tN "UNASSIGNED_STACK" Bundle.steD A s s.heap) (hN : vx_Zq Bundle.tN "SUPPRESSED_SENTINEL" Bundle.listD A s s.heap) (hS : va_S A s.heap H locs) (hsize : ls.size = c.maxLocals)
    (d0 : decode cc pc = .ok (.new ik, 3)) (d3 : decode cc (pc + 3) = .ok (.dup, 1)) (d4 : decode cc (pc + 4) = .ok (.invokespecial ic, 3)) (d7 : decode cc (pc + 7) = .ok (.athrow, 1))
    (hout : ∀ x ∈ c.exceptionTable.toList, covers x (pc + 7) = false)
    (hRframes : names.length + 3 < R.frames) (hRlocals : (rest.map fun v => v.category).sum + (13 * (names.length + 1) + 42) ≤ R.locals) (hRcells : cells + 1 ≤ R.cells) (hRslots : slots + 6 ≤ R.slots) (hlocks : meth.locks = false)
    (hx : ∀ t : State, s.vm.Alike t.vm → H.size ≤ t.heap.size → (∀ q : Nat, q < H.size → t.heap[q]? = H[q]?) → XC cls s t)
    (hf : ∀ z ∈ locs, free z.base) (hc : cells + 1 ≤ mc) (hs : slots + 6 ≤ ms) :
    W p l e R s m args below meth c H locs cells slots (vx_MQ below Qc XC args s mc ms free) (F0 m pc ls rest) := by
  intro T hT X
  have htr : e.platform.stackTraces = false := (show e.platform.stackTraces = l.stackTraces by rw [X.admits.platform]).trans hl
  have Y := vx_rebase X (R' := { frames := R.frames, locals := R.locals, cells := 1, slots := 6 }) (Nat.le_refl _) (Nat.le_refl _) hRcells hRslots
  obtain ⟨s', hA⟩ : ∃ z, z = (T.setVm s.vm).setFrames (.invoking m args :: below) := ⟨_, rfl⟩
  rw [← hA] at Y
  have hvm : s'.vm = s.vm := by rw [hA]; rfl
  have hhp : s'.heap = H := by rw [hA]; exact hT
  have hW0 : s.WarmedH s'.vm := by rw [hvm]; exact State.WarmedH.refl s
  have hat' : ∀ w ∈ vx_at0 own ic cls names, w.before args s' = true := fun w hw => vx_ot_at hW0 hvm.symm (hgood w (List.mem_cons_of_mem _ (List.mem_cons_of_mem _ hw))) (hat w hw)
  have hk' : (Cond.classLink own ik cls).before args s' = true := vx_ot_at hW0 hvm.symm (hgood _ List.mem_cons_self) hk
  have hini' : (Cond.initialized cls).before args s' = true := vx_ot_at hW0 hvm.symm (hgood _ (List.mem_cons_of_mem _ List.mem_cons_self)) hini
  have hU' : vx_Zq Bundle.tN "UNASSIGNED_STACK" Bundle.steD A s' s'.heap := by rw [hhp]; exact vx_Zq.moved hW0.alike (hU.kept hS.2.1)
  have hN' : vx_Zq Bundle.tN "SUPPRESSED_SENTINEL" Bundle.listD A s' s'.heap := by rw [hhp]; exact vx_Zq.moved hW0.alike (hN.kept hS.2.1)
  have h : ∀ w ∈ Bundle.ownAtoms0 own ic cls names, w.before args s' = true := vx_own hat' (vx_isRefq hU'.1) (vx_isRefq hN'.1) hU'.2.word hN'.2.word
  have hown' : s'.vm.findClass own = some m.cls := by rw [hvm]; exact hown
  have hins : (Cond.instantiable cls 6).before args s' = true := h _ (by simp [Bundle.ownAtoms0])
  obtain ⟨vm₁, cX, kX, hfX, hkX, -, -, X₁, st1⟩ := Y.newCold hexec (own := own) (C := cls) (index := ik) (n := 6) hown' hk' hins hini'
    (g := F0 m pc ls rest) rfl (by rw [hb]; exact d0) (Nat.le_refl _) (Nat.le_refl _)
  generalize hT1 : (T.setVm vm₁).pushCell { cls := cX, slots := kX.instanceTypes.map defaultValue, vm := .none } = T1 at X₁ st1
  have hcat : (Value.ref T.heap.size).category = 1 := rfl
  have hcellA : T1.heap[T.heap.size]? = some (freshCell cX kX) := by rw [← hT1]; exact State.heap_pushCell_size _ _
  have d3' : decode c.code (pc + 3) = .ok (.dup, 1) := by rw [hb]; exact d3
  obtain ⟨U, hsteps, hrun, hend, hW, hsame, ce, hce, hO⟩ := X₁.ctorThrow0 hexec htr (own := own) (cls := cls) (names := names) (ic := ic) hown' hcls hnames h (fun x hx => nomatch hx) hfX hkX hcellA (by rw [hhp, hT]; exact Nat.le_refl _)
    (g := { method := m, pc := pc + 4, locals := ls, stack := .ref T.heap.size :: .ref T.heap.size :: rest, locked := none }) rfl hsize rfl rfl (rest := rest) rfl
    (by rw [hb]; exact d4) (by rw [hb]; exact d7) hout hRframes (by simp only [List.map_cons, List.sum_cons, hcat]; omega) hlocks
  obtain ⟨f1, f2⟩ := vx_frame hsame
  rw [hhp] at f1 f2
  have hWs : s.WarmedH U.vm := State.WarmedH.trans hW0 hW
  have hcl : s.vm.findClass cls = some ce.cls := by
    have h9 := hO.cls
    rw [hvm] at h9
    exact h9
  have hall : s.sameButNew ({ U with vm := s.vm } : State) locs mc ms := by
    subst hA
    obtain ⟨e1, e2⟩ := hsame
    rw [State.setFrames_setFrames] at e1
    have h2 : (T.setVm s.vm).sameButNew ({ U with vm := s.vm } : State) [] (0 + 1) (0 + 6) := ⟨e1, e2⟩
    have h3 := X.same.trans h2
    rw [List.append_nil] at h3
    exact h3.mono hc hs
  refine ⟨U, ?_, .threw T.heap.size, hrun, hend, Or.inr ⟨T.heap.size, rfl, cls, ce, locs, hx U hWs.alike f1 (fun q hq => f2 q hq (fun z hz => nomatch hz)), hce, hO.vm, hcl, hWs, hall, hf⟩⟩
  refine st1 _ ?_
  show Steps p.tables e below (T1.setTop { method := m, pc := pc + 3, locals := ls, stack := .ref T.heap.size :: rest, locked := none }) _
  jvm_step X₁.here [X₁.here.top, hexec, d3', Value.category]
  exact hsteps
theorem vx_throwS {cc : ByteArray} {pc : Nat} (hexec : p.tables.exec = Jvm.exec) (hb : c.code = cc) (hl : l.stackTraces = false) {own cls text : String} {names : List String} {ik is ic mc ms sa : Nat} {A : Nat → Prop}
    (hown : s.vm.findClass own = some m.cls) (hcls : Bundle.fit cls = true) (hnames : ∀ n ∈ names, Bundle.fit n = true)
    (hk : (Cond.classLink own ik cls).before args s = true) (hini : (Cond.initialized cls).before args s = true) (hstr : vk_R own is text sa s) (hat : ∀ w ∈ vx_atS own ic cls names, w.before args s = true)
    (hgood : ∀ w ∈ Cond.classLink own ik cls :: Cond.initialized cls :: vx_atS own ic cls names, vx_ot w = true)
    (hU : vx_Zq Bundle.tN "UNASSIGNED_STACK" Bundle.steD A s s.heap) (hN : vx_Zq Bundle.tN "SUPPRESSED_SENTINEL" Bundle.listD A s s.heap) (hS : va_S A s.heap H locs) (hsize : ls.size = c.maxLocals)
    (d0 : decode cc pc = .ok (.new ik, 3)) (d3 : decode cc (pc + 3) = .ok (.dup, 1)) (d4 : decode cc (pc + 4) = .ok (.ldc is, 2)) (d6 : decode cc (pc + 6) = .ok (.invokespecial ic, 3)) (d9 : decode cc (pc + 9) = .ok (.athrow, 1))
    (hout : ∀ x ∈ c.exceptionTable.toList, covers x (pc + 9) = false)
    (hRframes : names.length + 3 < R.frames) (hRlocals : (rest.map fun v => v.category).sum + (13 * (names.length + 1) + 43) ≤ R.locals) (hRcells : cells + 1 ≤ R.cells) (hRslots : slots + 6 ≤ R.slots) (hlocks : meth.locks = false)
    (hx : ∀ t : State, s.vm.Alike t.vm → H.size ≤ t.heap.size → (∀ q : Nat, q < H.size → t.heap[q]? = H[q]?) → XC cls s t)
    (hf : ∀ z ∈ locs, free z.base) (hc : cells + 1 ≤ mc) (hs : slots + 6 ≤ ms) :
    W p l e R s m args below meth c H locs cells slots (vx_MQ below Qc XC args s mc ms free) (F0 m pc ls rest) := by
  intro T hT X
  have htr : e.platform.stackTraces = false := (show e.platform.stackTraces = l.stackTraces by rw [X.admits.platform]).trans hl
  have Y := vx_rebase X (R' := { frames := R.frames, locals := R.locals, cells := 1, slots := 6 }) (Nat.le_refl _) (Nat.le_refl _) hRcells hRslots
  obtain ⟨s', hA⟩ : ∃ z, z = (T.setVm s.vm).setFrames (.invoking m args :: below) := ⟨_, rfl⟩
  rw [← hA] at Y
  have hvm : s'.vm = s.vm := by rw [hA]; rfl
  have hhp : s'.heap = H := by rw [hA]; exact hT
  have hW0 : s.WarmedH s'.vm := by rw [hvm]; exact State.WarmedH.refl s
  have hat' : ∀ w ∈ vx_atS own ic cls names, w.before args s' = true := fun w hw => vx_ot_at hW0 hvm.symm (hgood w (List.mem_cons_of_mem _ (List.mem_cons_of_mem _ hw))) (hat w hw)
  have hk' : (Cond.classLink own ik cls).before args s' = true := vx_ot_at hW0 hvm.symm (hgood _ List.mem_cons_self) hk
  have hini' : (Cond.initialized cls).before args s' = true := vx_ot_at hW0 hvm.symm (hgood _ (List.mem_cons_of_mem _ List.mem_cons_self)) hini
  have hU' : vx_Zq Bundle.tN "UNASSIGNED_STACK" Bundle.steD A s' s'.heap := by rw [hhp]; exact vx_Zq.moved hW0.alike (hU.kept hS.2.1)
  have hN' : vx_Zq Bundle.tN "SUPPRESSED_SENTINEL" Bundle.listD A s' s'.heap := by rw [hhp]; exact vx_Zq.moved hW0.alike (hN.kept hS.2.1)
  have h : ∀ w ∈ Bundle.ownAtoms own ic cls names, w.before args s' = true := vx_own hat' (vx_isRefq hU'.1) (vx_isRefq hN'.1) hU'.2.word hN'.2.word
  have hown' : s'.vm.findClass own = some m.cls := by rw [hvm]; exact hown
  have hins : (Cond.instantiable cls 6).before args s' = true := h _ (by simp [Bundle.ownAtoms])
  obtain ⟨vm₁, cX, kX, hfX, hkX, -, -, X₁, st1⟩ := Y.newCold hexec (own := own) (C := cls) (index := ik) (n := 6) hown' hk' hins hini'
    (g := F0 m pc ls rest) rfl (by rw [hb]; exact d0) (Nat.le_refl _) (Nat.le_refl _)
  generalize hT1 : (T.setVm vm₁).pushCell { cls := cX, slots := kX.instanceTypes.map defaultValue, vm := .none } = T1 at X₁ st1
  have hcat : (Value.ref T.heap.size).category = 1 := rfl
  have hcellA : T1.heap[T.heap.size]? = some (freshCell cX kX) := by rw [← hT1]; exact State.heap_pushCell_size _ _
  have d3' : decode c.code (pc + 3) = .ok (.dup, 1) := by rw [hb]; exact d3
  have d4' : decode c.code (pc + 4) = .ok (.ldc is, 2) := by rw [hb]; exact d4
  have hstr' : vk_R own is text sa s' := vk_R.warm hW0 hstr
  obtain ⟨U, hsteps, hrun, hend, hW, hsame, ce, hce, hO⟩ := X₁.ctorThrowS hexec htr (own := own) (cls := cls) (names := names) (ic := ic) hown' hcls hnames h (fun x hx => nomatch hx) hfX hkX hcellA (by rw [hhp, hT]; exact Nat.le_refl _) (msg := .ref sa) rfl
    (g := { method := m, pc := pc + 6, locals := ls, stack := .ref sa :: .ref T.heap.size :: .ref T.heap.size :: rest, locked := none }) rfl hsize rfl rfl (rest := rest) rfl
    (by rw [hb]; exact d6) (by rw [hb]; exact d9) hout hRframes (by simp only [List.map_cons, List.sum_cons, hcat]; omega) hlocks
  obtain ⟨f1, f2⟩ := vx_frame hsame
  rw [hhp] at f1 f2
  have hWs : s.WarmedH U.vm := State.WarmedH.trans hW0 hW
  have hcl : s.vm.findClass cls = some ce.cls := by
    have h9 := hO.cls
    rw [hvm] at h9
    exact h9
  have hall : s.sameButNew ({ U with vm := s.vm } : State) locs mc ms := by
    subst hA
    obtain ⟨e1, e2⟩ := hsame
    rw [State.setFrames_setFrames] at e1
    have h2 : (T.setVm s.vm).sameButNew ({ U with vm := s.vm } : State) [] (0 + 1) (0 + 6) := ⟨e1, e2⟩
    have h3 := X.same.trans h2
    rw [List.append_nil] at h3
    exact h3.mono hc hs
  refine ⟨U, ?_, .threw T.heap.size, hrun, hend, Or.inr ⟨T.heap.size, rfl, cls, ce, locs, hx U hWs.alike f1 (fun q hq => f2 q hq (fun z hz => nomatch hz)), hce, hO.vm, hcl, hWs, hall, hf⟩⟩
  refine st1 _ ?_
  show Steps p.tables e below (T1.setTop { method := m, pc := pc + 3, locals := ls, stack := .ref T.heap.size :: rest, locked := none }) _
  jvm_step X₁.here [X₁.here.top, hexec, d3', Value.category]
  exact X₁.ldcString hexec (own := own) (text := text) (index := is) (a := sa) hown' hstr'.1 hstr'.2
    (g := { method := m, pc := pc + 4, locals := ls, stack := .ref T.heap.size :: .ref T.heap.size :: rest, locked := none }) rfl d4' _ hsteps
theorem vx_throwSW {cc : ByteArray} {pc : Nat} (hexec : p.tables.exec = Jvm.exec) (hb : c.code = cc) (hl : l.stackTraces = false) {own cls text : String} {names : List String} {ik is ic mc ms sa : Nat} {A : Nat → Prop}
    (hown : s.vm.findClass own = some m.cls) (hcls : Bundle.fit cls = true) (hnames : ∀ n ∈ names, Bundle.fit n = true)
    (hk : (Cond.classLink own ik cls).before args s = true) (hini : (Cond.initialized cls).before args s = true) (hstr : vk_R own is text sa s) (hat : ∀ w ∈ vx_atS own ic cls names, w.before args s = true)
    (hgood : ∀ w ∈ Cond.classLink own ik cls :: Cond.initialized cls :: vx_atS own ic cls names, vx_ot w = true)
    (hU : vx_Zq Bundle.tN "UNASSIGNED_STACK" Bundle.steD A s s.heap) (hN : vx_Zq Bundle.tN "SUPPRESSED_SENTINEL" Bundle.listD A s s.heap) (hS : va_S A s.heap H locs) (hsize : ls.size = c.maxLocals)
    (d0 : decode cc pc = .ok (.new ik, 3)) (d3 : decode cc (pc + 3) = .ok (.dup, 1)) (d4 : decode cc (pc + 4) = .ok (.ldc_w is, 3)) (d7 : decode cc (pc + 7) = .ok (.invokespecial ic, 3)) (d10 : decode cc (pc + 10) = .ok (.athrow, 1))
    (hout : ∀ x ∈ c.exceptionTable.toList, covers x (pc + 10) = false)
    (hRframes : names.length + 3 < R.frames) (hRlocals : (rest.map fun v => v.category).sum + (13 * (names.length + 1) + 43) ≤ R.locals) (hRcells : cells + 1 ≤ R.cells) (hRslots : slots + 6 ≤ R.slots) (hlocks : meth.locks = false)
    (hx : ∀ t : State, s.vm.Alike t.vm → H.size ≤ t.heap.size → (∀ q : Nat, q < H.size → t.heap[q]? = H[q]?) → XC cls s t)
    (hf : ∀ z ∈ locs, free z.base) (hc : cells + 1 ≤ mc) (hs : slots + 6 ≤ ms) :
    W p l e R s m args below meth c H locs cells slots (vx_MQ below Qc XC args s mc ms free) (F0 m pc ls rest) := by
  intro T hT X
  have htr : e.platform.stackTraces = false := (show e.platform.stackTraces = l.stackTraces by rw [X.admits.platform]).trans hl
  have Y := vx_rebase X (R' := { frames := R.frames, locals := R.locals, cells := 1, slots := 6 }) (Nat.le_refl _) (Nat.le_refl _) hRcells hRslots
  obtain ⟨s', hA⟩ : ∃ z, z = (T.setVm s.vm).setFrames (.invoking m args :: below) := ⟨_, rfl⟩
  rw [← hA] at Y
  have hvm : s'.vm = s.vm := by rw [hA]; rfl
  have hhp : s'.heap = H := by rw [hA]; exact hT
  have hW0 : s.WarmedH s'.vm := by rw [hvm]; exact State.WarmedH.refl s
  have hat' : ∀ w ∈ vx_atS own ic cls names, w.before args s' = true := fun w hw => vx_ot_at hW0 hvm.symm (hgood w (List.mem_cons_of_mem _ (List.mem_cons_of_mem _ hw))) (hat w hw)
  have hk' : (Cond.classLink own ik cls).before args s' = true := vx_ot_at hW0 hvm.symm (hgood _ List.mem_cons_self) hk
  have hini' : (Cond.initialized cls).before args s' = true := vx_ot_at hW0 hvm.symm (hgood _ (List.mem_cons_of_mem _ List.mem_cons_self)) hini
  have hU' : vx_Zq Bundle.tN "UNASSIGNED_STACK" Bundle.steD A s' s'.heap := by rw [hhp]; exact vx_Zq.moved hW0.alike (hU.kept hS.2.1)
  have hN' : vx_Zq Bundle.tN "SUPPRESSED_SENTINEL" Bundle.listD A s' s'.heap := by rw [hhp]; exact vx_Zq.moved hW0.alike (hN.kept hS.2.1)
  have h : ∀ w ∈ Bundle.ownAtoms own ic cls names, w.before args s' = true := vx_own hat' (vx_isRefq hU'.1) (vx_isRefq hN'.1) hU'.2.word hN'.2.word
  have hown' : s'.vm.findClass own = some m.cls := by rw [hvm]; exact hown
  have hins : (Cond.instantiable cls 6).before args s' = true := h _ (by simp [Bundle.ownAtoms])
  obtain ⟨vm₁, cX, kX, hfX, hkX, -, -, X₁, st1⟩ := Y.newCold hexec (own := own) (C := cls) (index := ik) (n := 6) hown' hk' hins hini'
    (g := F0 m pc ls rest) rfl (by rw [hb]; exact d0) (Nat.le_refl _) (Nat.le_refl _)
  generalize hT1 : (T.setVm vm₁).pushCell { cls := cX, slots := kX.instanceTypes.map defaultValue, vm := .none } = T1 at X₁ st1
  have hcat : (Value.ref T.heap.size).category = 1 := rfl
  have hcellA : T1.heap[T.heap.size]? = some (freshCell cX kX) := by rw [← hT1]; exact State.heap_pushCell_size _ _
  have d3' : decode c.code (pc + 3) = .ok (.dup, 1) := by rw [hb]; exact d3
  have d4' : decode c.code (pc + 4) = .ok (.ldc_w is, 3) := by rw [hb]; exact d4
  have hstr' : vk_R own is text sa s' := vk_R.warm hW0 hstr
  obtain ⟨U, hsteps, hrun, hend, hW, hsame, ce, hce, hO⟩ := X₁.ctorThrowS hexec htr (own := own) (cls := cls) (names := names) (ic := ic) hown' hcls hnames h (fun x hx => nomatch hx) hfX hkX hcellA (by rw [hhp, hT]; exact Nat.le_refl _) (msg := .ref sa) rfl
    (g := { method := m, pc := pc + 7, locals := ls, stack := .ref sa :: .ref T.heap.size :: .ref T.heap.size :: rest, locked := none }) rfl hsize rfl rfl (rest := rest) rfl
    (by rw [hb]; exact d7) (by rw [hb]; exact d10) hout hRframes (by simp only [List.map_cons, List.sum_cons, hcat]; omega) hlocks
  obtain ⟨f1, f2⟩ := vx_frame hsame
  rw [hhp] at f1 f2
  have hWs : s.WarmedH U.vm := State.WarmedH.trans hW0 hW
  have hcl : s.vm.findClass cls = some ce.cls := by
    have h9 := hO.cls
    rw [hvm] at h9
    exact h9
  have hall : s.sameButNew ({ U with vm := s.vm } : State) locs mc ms := by
    subst hA
    obtain ⟨e1, e2⟩ := hsame
    rw [State.setFrames_setFrames] at e1
    have h2 : (T.setVm s.vm).sameButNew ({ U with vm := s.vm } : State) [] (0 + 1) (0 + 6) := ⟨e1, e2⟩
    have h3 := X.same.trans h2
    rw [List.append_nil] at h3
    exact h3.mono hc hs
  refine ⟨U, ?_, .threw T.heap.size, hrun, hend, Or.inr ⟨T.heap.size, rfl, cls, ce, locs, hx U hWs.alike f1 (fun q hq => f2 q hq (fun z hz => nomatch hz)), hce, hO.vm, hcl, hWs, hall, hf⟩⟩
  refine st1 _ ?_
  show Steps p.tables e below (T1.setTop { method := m, pc := pc + 3, locals := ls, stack := .ref T.heap.size :: rest, locked := none }) _
  jvm_step X₁.here [X₁.here.top, hexec, d3', Value.category]
  exact X₁.ldcStringW hexec (own := own) (text := text) (index := is) (a := sa) hown' hstr'.1 hstr'.2
    (g := { method := m, pc := pc + 4, locals := ls, stack := .ref T.heap.size :: .ref T.heap.size :: rest, locked := none }) rfl d4' _ hsteps
end Ends
section Bodies
variable {l : Launch}
theorem vx_ofW {y : MethodName} {ws ws' : List Cond} {rm : Room} {Pc : Array Value → State → Prop} {Qc : Array Value → State → Outcome → State → Prop} {XC : String → State → State → Prop} {mc ms : Nat} {free : Addr → Prop} {cc : ByteArray} {maxL : Nat} {ret : Option FieldType}
    (hy : plainName y.cls = true) (hw : ws = Cond.code y cc maxL ret :: ws')
    (body : ∀ p e s m args below meth c s₁, BodyLoose p l y (headSpec ws rm) cc maxL ret e s m args below meth c s₁ → c.maxLocals = maxL → (∀ x ∈ c.exceptionTable.toList, False) → Pc args s →
      W p l e (headSpec ws rm).room s m args below meth c s.heap [] 0 0 (vx_MQ below Qc XC args s mc ms free) (entryFrame m args maxL)) : vx_Met l y ws rm Pc Qc XC mc ms free := by
  refine MetFree.of_bodyS (code := cc) (maxLocals := maxL) (ret := ret) hy ?_ ?_
  · intro args s m h hn
    obtain ⟨meth, c, h1, h2, h3, h4, h5, h6, -, -⟩ := Cond.code_spec hn (atoms_spec (ws := ws) h _ (by rw [hw]; exact List.mem_cons_self))
    exact ⟨meth, c, h1, h2, h3, h4, h5, h6⟩
  · intro p e s m args below meth c s₁ B hml hP _
    have hh0 : s₁.heap = s.heap := by rw [B.state]; rfl
    have ht : ∀ x ∈ c.exceptionTable.toList, False := by
      obtain ⟨meth9, c9, h1, h2, -, -, -, -, h7, -⟩ := Cond.code_spec B.named (atoms_spec (ws := ws) B.pre _ (by rw [hw]; exact List.mem_cons_self))
      cases Option.some.inj (h1.symm.trans B.method)
      cases Option.some.inj (h2.symm.trans (Stand.of_body B).code)
      intro x hx
      rw [Array.isEmpty_iff.mp h7] at hx
      cases hx
    obtain ⟨t, a1, o, b1, b2, b3⟩ := body p e s m args below meth c s₁ B hml ht hP s₁ hh0 (Stand.of_body B)
    exact ⟨t, o, a1, b1, b2, b3⟩
theorem vx_table {p : Program} {x y : MethodName} {S : Spec} {cc bytes : ByteArray} {maxL maxL' : Nat} {ret ret' : Option FieldType} {e : Env} {s s₁ : State} {m : MethodId} {args : Array Value} {below : List Frame} {meth : Method} {c : Code} {hh : List (Nat × Nat × Nat × Nat)}
    (B : BodyLoose p l y S cc maxL ret e s m args below meth c s₁) (h : (Cond.codeWith y bytes maxL' ret' hh).before args s = true) : c.exceptionTable.toList = tableOf hh := by
  obtain ⟨m9, meth9, c9, hn9, h1, h2, -, -, h6, -⟩ := Cond.codeWith_spec h
  cases Option.some.inj (hn9.symm.trans B.named)
  cases Option.some.inj (h1.symm.trans B.method)
  cases Option.some.inj (h2.symm.trans (Stand.of_body B).code)
  rw [← h6, table_eq]
end Bodies
end VXA
section VXS
variable {p : Program} {l : Launch} {e : Env} {R : Room} {s : State} {m : MethodId} {args : Array Value} {below : List Frame} {meth : Method} {c : Code} {T : State} {H : Heap} {locs : List Loc} {cells slots : Nat}
abbrev vx_CSW (R : Room) (s : State) (args : Array Value) (own : String) (index : Nat) (y : MethodName) (bytes : ByteArray) (maxL : Nat) (ret : Option FieldType) (hh : List (Nat × Nat × Nat × Nat)) (ws : List Cond) (rm : Room) (mc ms n : Nat) : Prop :=
  (rm.cells = mc ∧ rm.slots = ms ∧ rm.frames + 1 ≤ R.frames ∧ 8 + (maxL + 11) + rm.locals ≤ R.locals ∧ (∀ w ∈ ws, ∀ (a' : Array Value) (U : State), s.WarmedH U.vm → w.before a' U = true) ∧ Cond.codeWith y bytes maxL ret hh ∈ ws) ∧
  (Cond.codeWith y bytes maxL ret hh).before args s = true ∧ (Cond.initialized y.cls).before args s = true ∧ (y.cls ≠ "java/lang/invoke/MethodHandle" ∧ y.cls ≠ "java/lang/invoke/VarHandle") ∧
  (∀ sig, parseMethodDescriptor y.desc = some sig → n = sig.parameters.length) ∧ (Cond.methodLink own index y).before args s = true ∧ (Cond.static y).before args s = true
theorem vx_cwSW {own : String} {index maxL mc ms : Nat} {y : MethodName} {bytes : ByteArray} {ret : Option FieldType} {hh : List (Nat × Nat × Nat × Nat)} {Ts ws ws' : List Cond} {rm : Room} (n : Nat) (ht : ∀ w ∈ Ts, w.before args s = true) (hT : GoodIn Ts (va_wsS own index y ws)) (hw : ws = Cond.codeWith y bytes maxL ret hh :: ws') (hrc : rm.cells = mc) (hrs : rm.slots = ms)
    (hd : y.cls ≠ "java/lang/invoke/MethodHandle" ∧ y.cls ≠ "java/lang/invoke/VarHandle" ∧ (parseMethodDescriptor y.desc).map (fun d => d.parameters.length) = some n) (hR : rm.frames + 1 ≤ R.frames ∧ 8 + (maxL + 11) + rm.locals ≤ R.locals) :
    vx_CSW R s args own index y bytes maxL ret hh ws rm mc ms n := by
  have ok : ∀ w ∈ va_wsS own index y ws, w.before args s = true := fun w h => ht w (hT w h).1
  have hG : GoodIn Ts ws := fun w h => hT w (by unfold va_wsS; exact List.mem_append_right _ h)
  have hc : Cond.codeWith y bytes maxL ret hh ∈ ws := by rw [hw]; exact List.mem_cons_self
  refine ⟨⟨hrc, hrs, hR.1, hR.2, pay_in ht hG, hc⟩, ht _ (hG _ hc).1, ok _ (by simp [va_wsS]), ⟨hd.1, hd.2.1⟩, fun sig h => ?_, ok _ (by simp [va_wsS]), ok _ (by simp [va_wsS])⟩
  have h2 := hd.2.2
  rw [h] at h2
  exact (Option.some.inj h2).symm
theorem vx_callSW (X : Stand p l e R s m args below meth c T locs cells slots) (hexec : p.tables.exec = Jvm.exec) {own : String} {index : Nat} {y : MethodName} {bytes : ByteArray} {maxL : Nat} {ret : Option FieldType} {hh : List (Nat × Nat × Nat × Nat)}
    (hown : s.vm.findClass own = some m.cls) (hlink : (Cond.methodLink own index y).before args s = true) (hstat : (Cond.static y).before args s = true) (hinit : (Cond.initialized y.cls).before args s = true)
    (hcode : (Cond.codeWith y bytes maxL ret hh).before args s = true) (hy : y.cls ≠ "java/lang/invoke/MethodHandle" ∧ y.cls ≠ "java/lang/invoke/VarHandle")
    {W9 : Nat} {Pre : Pt → Array Value → Prop} {Post : Pt → Array Value → Option Value → Pt → Prop} (hK : Back l R p e below s args y 3 W9 Pre Post)
    {g : JFrame} (hg : g.method = m) (hsize : g.locals.size = c.maxLocals) {argsL rest : List Value} (hlen : ∀ sig, parseMethodDescriptor y.desc = some sig → argsL.length = sig.parameters.length)
    (hstack : g.stack = argsL.reverse ++ rest) (hW : 2 * g.monitorRoom + (rest.map fun v => v.category).sum ≤ W9) (hdg : decode c.code g.pc = .ok (.invokestatic index, 3))
    (hpre : ∀ vm₁, s.WarmedH vm₁ → Pre ⟨T.setVm vm₁, locs, cells, slots⟩ argsL.toArray) :
    ∃ (v : Option Value) (vm₁ : Vm) (B : Pt), s.WarmedH vm₁ ∧ Stand p l e R s m args below meth c B.U B.locs B.cells B.slots ∧ Post ⟨T.setVm vm₁, locs, cells, slots⟩ argsL.toArray v B ∧
      ∀ target, Steps p.tables e below (B.U.setTop { g with pc := g.pc + 3, stack := v.toList ++ rest }) target → Steps p.tables e below (T.setTop g) target := by
  obtain ⟨mk, methM, cM, hnamed, hmethM, -, -, -, -, -, -, hsigM⟩ := Cond.codeWith_spec hcode
  have hstatic : methM.isStatic = true := Cond.static_spec hnamed hmethM hstat
  obtain ⟨kP, hkP, -⟩ := className_of_methodNamed hnamed
  have hinitP : kP.init = .initialized := Cond.initialized_spec (findClass_of_methodNamed hnamed) hkP hinit
  obtain ⟨vm₁, X₁, hstep₁⟩ := X.invokestatic hexec hown hlink hnamed hmethM hstatic hkP hinitP hy (g := g) hg (argsL := argsL) (rest := rest) (hlen _ hsigM) hstack hdg
  obtain ⟨v, B, X', hpost, hsteps⟩ := hK m meth c ⟨T.setVm vm₁, locs, cells, slots⟩ { g with stack := rest } (.invokestatic index) mk argsL.toArray X₁ hg hsize hdg hW (X₁.named hnamed) (hpre vm₁ X₁.warmed)
  exact ⟨v, vm₁, B, X₁.warmed, X', hpost, fun target h => hstep₁ _ fun acts => by rw [doInvoke_state]; exact hsteps.trans h⟩
theorem vx_runSW {y : MethodName} {bytes cc : ByteArray} {maxL nL mc ms n index : Nat} {ret : Option FieldType} {hh : List (Nat × Nat × Nat × Nat)} {ws : List Cond} {rm : Room} {Pc : Array Value → State → Prop} {Qc : Array Value → State → Outcome → State → Prop} {free : Addr → Prop} {Ts : List Cond} {own : String} {As rest : List Value} {g : JFrame}
    (S : CallFix p m c cc nL s args Ts own) (hM : Met l y ws rm Pc Qc mc ms free) (cw : vx_CSW R s args own index y bytes maxL ret hh ws rm mc ms n) (hp : PreS s H Pc As)
    (hg : g.method = m) (hn : As.length = n) (hsize : g.locals.size = nL) (hstack : g.stack = As.reverse ++ rest) (hW : 2 * g.monitorRoom + (rest.map fun v => v.category).sum ≤ 8) (hdg : decode cc g.pc = .ok (.invokestatic index, 3)) (hf : cells + mc ≤ R.cells ∧ slots + ms ≤ R.slots) :
    va_Run p l e R s m args below meth c H locs cells slots mc ms g rest (Qc As.toArray) (free) := by
  obtain ⟨⟨hrc, hrs, hfr, hlo, hws, hcw⟩, hcode, hini, hy, hlen, hl, hstt⟩ := cw
  have hK : Back l R p e below s args y 3 8 (PreOf R mc ms Pc) (PostOf Qc mc ms free) := va_backW (hh := hh) (bytes := bytes) (maxL := maxL) (ret := ret) hM hp.1 hrc hrs hfr hlo hws hcw (fun a' U hW => word_at hW (Or.inl (by first | rfl | simp [Cond.onTables, Cond.keeps, Cond.steady])) hini)
  obtain ⟨hx, hb, hml, ho, -⟩ := S
  intro T hT X
  obtain ⟨v, vm₁, ⟨U', l2, c2, s2⟩, hW₁, X', ⟨g', mk, t, L, e1, e2, hq, h1, hL, h2, h3⟩, st⟩ := vx_callSW X hx (hh := hh) (bytes := bytes) (maxL := maxL) (ret := ret) ho hl hstt hini hcode hy hK hg (hsize.trans hml.symm) (argsL := As) (rest := rest) (fun sig h => hn.trans (hlen sig h)) hstack hW (by rw [hb]; exact hdg)
    (fun vm₁ hW₁ => ⟨hf.1, hf.2, hp.2 (T.setVm vm₁) hT hW₁⟩)
  dsimp only [Pt.U, Pt.locs, Pt.cells, Pt.slots] at X' e1 e2 h1 h2 h3 st
  subst h1; subst h2; subst h3
  exact ⟨v, (T.setVm vm₁).calling g' mk As.toArray, t, U', L, hT, X', hL, e1, e2, hq, st⟩
theorem vx_outP {p : Program} {l : Launch} {e : Env} {R : Room} {s : State} {m : MethodId} {args : Array Value} {below : List Frame} {meth : Method} {c : Code} {H : Heap} {locs : List Loc} {cells slots : Nat} {free : Addr → Prop} {ls : Array Slot} {rest : List Value} {Qc : Array Value → State → Outcome → State → Prop} {XC : String → State → State → Prop}
    {pc : Nat} {own E : String} {ce : Cell} {q : Addr} {mc ms : Nat} (hown : s.vm.findClass own = some m.cls) (hlocks : meth.locks = false)
    (hpass : ∀ z ∈ c.exceptionTable.toList, covers z pc = false ∨ (z.catchType ≠ 0 ∧ ∃ nm : String, (Cond.classLink own z.catchType nm).before args s = true ∧ va_Nc E nm s)) (hcell : H[q]? = some ce) (hv : ce.vm = .none) (hcl : s.vm.findClass E = some ce.cls)
    (hx : ∀ t : State, t.heap = H → s.vm.Alike t.vm → XC E s t) (hf : ∀ z ∈ locs, free z.base) (hc : cells ≤ mc) (hs : slots ≤ ms) :
    vx_W p l e R s m args below meth c H locs cells slots (vx_MQ below Qc XC args s mc ms free) (F0 m pc ls rest) q := by
  intro T hT X
  have hpl : e.platform.magicAccessors = ({} : Platform).magicAccessors := by rw [X.admits.platform]
  obtain ⟨vm', hW', X', st⟩ := X.outThrough hlocks q (g := F0 m pc ls rest) rfl rfl rfl (cell := ce) (by rw [hT]; exact hcell) (by rw [hv]; rfl)
    (by obtain ⟨k9, h9, -⟩ := Vm.findClass_spec hcl; exact ⟨k9, h9⟩) (fun z hz => by
      rcases hpass z hz with h | ⟨hz0, nm, hl1, hn1⟩
      · exact Or.inl h
      · obtain ⟨c6, hc6, hcl6⟩ := Cond.classLink_spec hown hl1 e.platform hpl
        obtain ⟨a8, b8, h1, h2, h3⟩ := hn1
        cases Option.some.inj (h1.symm.trans hcl)
        cases Option.some.inj (h2.symm.trans hc6)
        exact Or.inr ⟨hz0, _, hcl6, h3⟩)
  obtain ⟨g₀, hfr⟩ := X'.frames_eq
  have hcell9 : ((T.setVm vm').setFrames (.throwing q :: below)).heap[q]? = some ce := by
    show T.heap[q]? = some ce
    rw [hT]; exact hcell
  have hend : Ended ((T.setVm vm').setFrames (.throwing q :: below)) below (.threw q) := State.frames_setFrames _ (State.cur_lt_of_frames hfr)
  refine ⟨(T.setVm vm').setFrames (.throwing q :: below), ?_, .threw q, X'.here.running, hend, Or.inr ⟨q, rfl, E, ce, locs, hx _ hT (X'.ends _).1.alike, hcell9, hv, hcl, (X'.ends _).1, (X'.ends _).2.mono hc hs, hf⟩⟩
  rw [X.pushThrowing_eq]
  exact st
theorem vx_lt {D : va_G} {cl : List vw_C} {ws : va_W} {H1 : Heap} (h : va_P D cl ws H1) {k : Nat} {q : Nat × va_E} (hk : ws[k]? = some q) : q.1 < H1.size := (h k q hk).lt
end VXS
section VXH
section
variable {l : Launch} {R : Room} {p : Program} {e : Env} {below : List Frame} {s : State} {sargs : Array Value} {y : MethodName} {len W9 : Nat}
theorem vx_backW {ws : List Cond} {rm : Room} {Pc : Array Value → State → Prop} {Qc : Array Value → State → Outcome → State → Prop} {XC : String → State → State → Prop} {mc ms : Nat} {free : Addr → Prop} {bytes : ByteArray} {maxL : Nat} {ret : Option FieldType} {hh : List (Nat × Nat × Nat × Nat)}
    (hM : vx_Met l y ws rm Pc Qc XC mc ms free) (hblind : FrameBlind Pc) (hrc : rm.cells = mc) (hrs : rm.slots = ms)
    (hframes : rm.frames + 1 ≤ R.frames) (hlocals : W9 + (maxL + 11) + rm.locals ≤ R.locals)
    (hws : ∀ w ∈ ws, ∀ a' U, s.WarmedH U.vm → w.before a' U = true) (hcode : Cond.codeWith y bytes maxL ret hh ∈ ws) (hinit : ∀ a' U, s.WarmedH U.vm → (Cond.initialized y.cls).before a' U = true) :
    vx_Back l R p e below s sargs y len W9 (PreOf R mc ms Pc) (PostOf Qc mc ms free) (vx_Post XC mc ms free) := by
  intro m meth c A g ig mk a X hg hsize hdg hW hn hp
  have h1 : (headSpec ws rm).pre.before a A.U = true := atoms_intro fun w hw => hws w hw _ _ X.warmed
  have h2 : (Cond.codeWith y bytes maxL ret hh).before a A.U = true := hws _ hcode _ _ X.warmed
  have h3 : (Cond.initialized y.cls).before a A.U = true := hinit _ _ X.warmed
  have h4 : A.cells + (headSpec ws rm).room.cells ≤ R.cells := by rw [show (headSpec ws rm).room.cells = mc from hrc]; exact hp.1
  have h5 : A.slots + (headSpec ws rm).room.slots ≤ R.slots := by rw [show (headSpec ws rm).room.slots = ms from hrs]; exact hp.2.1
  have hPc : Pc a (A.U.calling g mk a) := hblind _ _ _ _ hp.2.2
  obtain ⟨U, Ls, c0, s0⟩ := A
  dsimp only [Pt.U, Pt.locs, Pt.cells, Pt.slots] at h1 h2 h3 h4 h5 X hn hPc ⊢
  obtain ⟨m9, methY, cY, hn9, hmY, hcY, -, hlY, -⟩ := Cond.codeWith_spec h2
  cases Option.some.inj (hn9.symm.trans hn)
  obtain ⟨kY, hkY, -⟩ := className_of_methodNamed hn
  have hinitY : kY.init = .initialized := Cond.initialized_spec (findClass_of_methodNamed hn) hkY h3
  have h : At U g.method c below := by rw [hg]; exact X.here
  have hlocals9 : W9 + (maxL + 11) + (headSpec ws rm).room.locals ≤ R.locals := hlocals
  have happ : (headSpec ws rm).appliesLoose y e.platform (U.calling g mk a) = true :=
    Spec.appliesLoose_calling (g := g) h hdg hn hkY hinitY
      (X.room_calling (g := g) (R' := (headSpec ws rm).room) hsize hmY hcY hframes (by rw [hlY]; omega) h4 h5) h1
  obtain ⟨mid, hmid⟩ := h.above
  have hfr : (U.setTop g).frames = (.java g :: mid) ++ below := by rw [State.frames_setTop' g h.top, hmid]; rfl
  obtain ⟨o, s₂, hsteps, -, hend, hq⟩ := Steps.callFree hM p X.admits X.cas X.clock (acts := []) hfr happ hPc trivial
  have hq' : vx_Q Qc XC mc ms free a (U.calling g mk a) o s₂ := hq
  rw [State.frames_setTop' g h.top] at hend
  obtain ⟨g₀, hg0⟩ := Option.isSome_iff_exists.mp h.top
  obtain ⟨r, hr⟩ := State.topJava?_eq_some.mp hg0
  have hr' : (({ U with heap := s₂.heap, slotsUsed := s₂.slotsUsed } : State).setVm s₂.vm).frames = .java g₀ :: r := hr
  rcases hq' with ⟨hqc, L, hfe, hL⟩ | ⟨q, rfl, E, ce, L, hx, hce, hcv, hcl, hW₂, hsm, hL⟩
  · obtain ⟨⟨v, rfl⟩, hW₂, e2, q2, q3, q4, q5, q6⟩ := id hfe
    have e3 : s₂ = ({ (U.calling g mk a).setFrames s₂.frames with heap := s₂.heap, slotsUsed := s₂.slotsUsed } : State).setVm s₂.vm := by
      have : s₂ = ({ s₂ with vm := (U.calling g mk a).vm } : State).setVm s₂.vm := rfl
      rw [e2] at this
      exact this
    obtain ⟨c₂, i₂, len₂, hc₂, hd₂, hf₂⟩ := hend
    have hW' : U.WarmedH s₂.vm := hW₂
    have hcc : c₂ = c := by
      have h1 : s₂.code? g.method = U.code? g.method := by
        rw [State.code?_eq, State.code?_eq, hW'.alike.method?]
      exact Option.some.inj (hc₂.symm.trans (h1.trans h.code))
    subst hcc
    have hlen : len₂ = len := by rw [hdg] at hd₂; cases hd₂; rfl
    subst hlen
    have hs₂ : s₂ = (({ U with heap := s₂.heap, slotsUsed := s₂.slotsUsed } : State).setVm s₂.vm).setTop { g with pc := g.pc + len₂, stack := v.toList ++ g.stack } := by
      refine e3.trans ?_
      rw [hf₂, State.calling_eq h.top, State.setFrames_setFrames, State.setTop_of_frames _ hr', hr]
      rfl
    have hsame : U.sameButNew ({ U with heap := s₂.heap, slotsUsed := s₂.slotsUsed } : State) L mc ms := by
      refine ⟨?_, q2, q3, q4, q5, q6⟩
      obtain ⟨t, ht, -⟩ := State.frames_cons hr
      show ({ U with heap := s₂.heap, slotsUsed := s₂.slotsUsed } : State) = { U.setFrames U.frames with heap := s₂.heap, slotsUsed := s₂.slotsUsed }
      rw [State.setFrames_self ht]
    subst hg
    refine Or.inl ⟨v, ⟨(({ U with heap := s₂.heap, slotsUsed := s₂.slotsUsed } : State).setVm s₂.vm), Ls ++ L, c0 + mc, s0 + ms⟩,
      ⟨X.admits, X.cas, X.clock, X.frames, X.room, X.hears, X.method, X.code, (X.here.setHeapUsed s₂.heap s₂.slotsUsed).setVm hW'.alike, X.tail, State.WarmedH.trans X.warmed hW', X.limits, X.bytes, X.same.trans (hsame.setVm s.vm)⟩,
      ⟨g, mk, s₂, L, rfl, rfl, hqc, rfl, hL, rfl, rfl⟩, ?_⟩
    show Steps p.tables e below _ ((({ U with heap := s₂.heap, slotsUsed := s₂.slotsUsed } : State).setVm s₂.vm).setTop { g with pc := g.pc + len₂, stack := v.toList ++ g.stack })
    rw [← hs₂]
    exact hsteps
  · obtain ⟨e2, q2, q3, q4, q5, q6⟩ := id hsm
    have e3 : s₂ = ({ (U.calling g mk a).setFrames s₂.frames with heap := s₂.heap, slotsUsed := s₂.slotsUsed } : State).setVm s₂.vm := by
      have : s₂ = ({ s₂ with vm := (U.calling g mk a).vm } : State).setVm s₂.vm := rfl
      rw [e2] at this
      exact this
    have hf₂ : s₂.frames = .throwing q :: .java g :: U.frames.tail := hend
    have hW' : U.WarmedH s₂.vm := hW₂
    have hs₂ : s₂ = ((({ U with heap := s₂.heap, slotsUsed := s₂.slotsUsed } : State).setVm s₂.vm).setTop g).pushFrame (.throwing q) := by
      refine e3.trans ?_
      rw [hf₂, State.calling_eq h.top, State.setFrames_setFrames, State.pushFrame, State.frames_setTop _ hr', State.setTop_of_frames _ hr', State.setFrames_setFrames, hr]
      rfl
    have hsame : U.sameButNew ({ U with heap := s₂.heap, slotsUsed := s₂.slotsUsed } : State) L mc ms := by
      refine ⟨?_, q2, q3, q4, q5, q6⟩
      obtain ⟨t, ht, -⟩ := State.frames_cons hr
      show ({ U with heap := s₂.heap, slotsUsed := s₂.slotsUsed } : State) = { U.setFrames U.frames with heap := s₂.heap, slotsUsed := s₂.slotsUsed }
      rw [State.setFrames_self ht]
    subst hg
    refine Or.inr ⟨q, ⟨(({ U with heap := s₂.heap, slotsUsed := s₂.slotsUsed } : State).setVm s₂.vm), Ls ++ L, c0 + mc, s0 + ms⟩,
      ⟨X.admits, X.cas, X.clock, X.frames, X.room, X.hears, X.method, X.code, (X.here.setHeapUsed s₂.heap s₂.slotsUsed).setVm hW'.alike, X.tail, State.WarmedH.trans X.warmed hW', X.limits, X.bytes, X.same.trans (hsame.setVm s.vm)⟩,
      ⟨g, mk, s₂, L, E, ce, rfl, rfl, hx, hce, hcv, hcl, rfl, hL, rfl, rfl⟩, ?_⟩
    show Steps p.tables e below _ (((({ U with heap := s₂.heap, slotsUsed := s₂.slotsUsed } : State).setVm s₂.vm).setTop g).pushFrame (.throwing q))
    rw [← hs₂]
    exact hsteps
end
variable {p : Program} {l : Launch} {e : Env} {R : Room} {s : State} {m : MethodId} {args : Array Value} {below : List Frame} {meth : Method} {c : Code} {T : State} {H : Heap} {locs : List Loc} {cells slots : Nat}
theorem vx_callVX (X : Stand p l e R s m args below meth c T locs cells slots) (hexec : p.tables.exec = Jvm.exec) {own C : String} {index : Nat} {y : MethodName} {bytes : ByteArray} {maxL : Nat} {ret : Option FieldType} {hh : List (Nat × Nat × Nat × Nat)}
    (hown : s.vm.findClass own = some m.cls) (hlink : (Cond.methodLink own index y).before args s = true) (hinst : (Cond.instanceMethod y).before args s = true) (hsel : (Cond.selects C y y).before args s = true)
    (hcode : (Cond.codeWith y bytes maxL ret hh).before args s = true) (hy : y.cls ≠ "java/lang/invoke/MethodHandle" ∧ y.cls ≠ "java/lang/invoke/VarHandle")
    {W9 : Nat} {Pre : Pt → Array Value → Prop} {Post : Pt → Array Value → Option Value → Pt → Prop} {PostX : Pt → Array Value → Addr → Pt → Prop} (hK : vx_Back l R p e below s args y 3 W9 Pre Post PostX)
    {b : Addr} {cellB : Cell} (hcell : T.heap[b]? = some cellB) (hobj : cellB.vm.isStatics = false) (hcls : s.vm.findClass C = some cellB.cls)
    {g : JFrame} (hg : g.method = m) (hsize : g.locals.size = c.maxLocals) {argsL rest : List Value} (hlen : ∀ sig, parseMethodDescriptor y.desc = some sig → argsL.length = sig.parameters.length)
    (hstack : g.stack = argsL.reverse ++ .ref b :: rest) (hW : 2 * g.monitorRoom + (rest.map fun v => v.category).sum ≤ W9) (hdg : decode c.code g.pc = .ok (.invokevirtual index, 3))
    (hpre : ∀ vm₁, s.WarmedH vm₁ → Pre ⟨T.setVm vm₁, locs, cells, slots⟩ (Value.ref b :: argsL).toArray) :
    (∃ (v : Option Value) (vm₁ : Vm) (B : Pt), s.WarmedH vm₁ ∧ Stand p l e R s m args below meth c B.U B.locs B.cells B.slots ∧ Post ⟨T.setVm vm₁, locs, cells, slots⟩ (Value.ref b :: argsL).toArray v B ∧
      ∀ target, Steps p.tables e below (B.U.setTop { g with pc := g.pc + 3, stack := v.toList ++ rest }) target → Steps p.tables e below (T.setTop g) target) ∨
    (∃ (q : Addr) (vm₁ : Vm) (B : Pt), s.WarmedH vm₁ ∧ Stand p l e R s m args below meth c B.U B.locs B.cells B.slots ∧ PostX ⟨T.setVm vm₁, locs, cells, slots⟩ (Value.ref b :: argsL).toArray q B ∧
      Steps p.tables e below (T.setTop g) ((B.U.setTop { g with stack := rest }).pushFrame (.throwing q))) := by
  obtain ⟨mk, methM, hnamed, hmethM, hstM, habM⟩ := Cond.instanceMethod_spec hinst
  obtain ⟨m8, methM', cM, hn8, hmethM', -, -, -, -, -, -, hsigM⟩ := Cond.codeWith_spec hcode
  cases Option.some.inj (hn8.symm.trans hnamed)
  cases hmethM.symm.trans hmethM'
  obtain ⟨c2, r2, m2, q1, q2, q3, q4, kP, hkP, hkPi⟩ := Cond.selects_spec hsel
  cases hcls.symm.trans q1
  cases (State.methodFound?_of_named hnamed hy).symm.trans q2
  cases hnamed.symm.trans q3
  have hselP : selectMethod e.platform s.vm cellB.cls mk = .method mk := by rw [Launch.admits_selectMethod X.admits]; exact q4
  obtain ⟨vm₁, X₁, hstep₁⟩ := X.invokevirtual hexec hown hlink hnamed hmethM hstM hkP hkPi hy (a := b) (cell := cellB) hcell
    (fun z h => by rw [h] at hobj; cases hobj) hselP hmethM habM hkP hkPi (g := g) hg (argsL := argsL) (rest := rest) (hlen _ hsigM) hstack hdg
  rcases hK m meth c ⟨T.setVm vm₁, locs, cells, slots⟩ { g with stack := rest } (.invokevirtual index) mk (Value.ref b :: argsL).toArray X₁ hg hsize hdg hW (X₁.named hnamed) (hpre vm₁ X₁.warmed) with ⟨v, B, X', hpost, hsteps⟩ | ⟨q, B, X', hpost, hsteps⟩
  · exact Or.inl ⟨v, vm₁, B, X₁.warmed, X', hpost, fun target h => hstep₁ _ fun acts => by rw [doInvoke_state]; exact hsteps.trans h⟩
  · exact Or.inr ⟨q, vm₁, B, X₁.warmed, X', hpost, hstep₁ _ fun acts => by rw [doInvoke_state]; exact hsteps⟩
theorem vx_callSX (X : Stand p l e R s m args below meth c T locs cells slots) (hexec : p.tables.exec = Jvm.exec) {own : String} {index : Nat} {y : MethodName} {bytes : ByteArray} {maxL : Nat} {ret : Option FieldType} {hh : List (Nat × Nat × Nat × Nat)}
    (hown : s.vm.findClass own = some m.cls) (hlink : (Cond.methodLink own index y).before args s = true) (hstat : (Cond.static y).before args s = true) (hinit : (Cond.initialized y.cls).before args s = true)
    (hcode : (Cond.codeWith y bytes maxL ret hh).before args s = true) (hy : y.cls ≠ "java/lang/invoke/MethodHandle" ∧ y.cls ≠ "java/lang/invoke/VarHandle")
    {W9 : Nat} {Pre : Pt → Array Value → Prop} {Post : Pt → Array Value → Option Value → Pt → Prop} {PostX : Pt → Array Value → Addr → Pt → Prop} (hK : vx_Back l R p e below s args y 3 W9 Pre Post PostX)
    {g : JFrame} (hg : g.method = m) (hsize : g.locals.size = c.maxLocals) {argsL rest : List Value} (hlen : ∀ sig, parseMethodDescriptor y.desc = some sig → argsL.length = sig.parameters.length)
    (hstack : g.stack = argsL.reverse ++ rest) (hW : 2 * g.monitorRoom + (rest.map fun v => v.category).sum ≤ W9) (hdg : decode c.code g.pc = .ok (.invokestatic index, 3))
    (hpre : ∀ vm₁, s.WarmedH vm₁ → Pre ⟨T.setVm vm₁, locs, cells, slots⟩ argsL.toArray) :
    (∃ (v : Option Value) (vm₁ : Vm) (B : Pt), s.WarmedH vm₁ ∧ Stand p l e R s m args below meth c B.U B.locs B.cells B.slots ∧ Post ⟨T.setVm vm₁, locs, cells, slots⟩ argsL.toArray v B ∧
      ∀ target, Steps p.tables e below (B.U.setTop { g with pc := g.pc + 3, stack := v.toList ++ rest }) target → Steps p.tables e below (T.setTop g) target) ∨
    (∃ (q : Addr) (vm₁ : Vm) (B : Pt), s.WarmedH vm₁ ∧ Stand p l e R s m args below meth c B.U B.locs B.cells B.slots ∧ PostX ⟨T.setVm vm₁, locs, cells, slots⟩ argsL.toArray q B ∧
      Steps p.tables e below (T.setTop g) ((B.U.setTop { g with stack := rest }).pushFrame (.throwing q))) := by
  obtain ⟨mk, methM, cM, hnamed, hmethM, -, -, -, -, -, -, hsigM⟩ := Cond.codeWith_spec hcode
  have hstatic : methM.isStatic = true := Cond.static_spec hnamed hmethM hstat
  obtain ⟨kP, hkP, -⟩ := className_of_methodNamed hnamed
  have hinitP : kP.init = .initialized := Cond.initialized_spec (findClass_of_methodNamed hnamed) hkP hinit
  obtain ⟨vm₁, X₁, hstep₁⟩ := X.invokestatic hexec hown hlink hnamed hmethM hstatic hkP hinitP hy (g := g) hg (argsL := argsL) (rest := rest) (hlen _ hsigM) hstack hdg
  rcases hK m meth c ⟨T.setVm vm₁, locs, cells, slots⟩ { g with stack := rest } (.invokestatic index) mk argsL.toArray X₁ hg hsize hdg hW (X₁.named hnamed) (hpre vm₁ X₁.warmed) with ⟨v, B, X', hpost, hsteps⟩ | ⟨q, B, X', hpost, hsteps⟩
  · exact Or.inl ⟨v, vm₁, B, X₁.warmed, X', hpost, fun target h => hstep₁ _ fun acts => by rw [doInvoke_state]; exact hsteps.trans h⟩
  · exact Or.inr ⟨q, vm₁, B, X₁.warmed, X', hpost, hstep₁ _ fun acts => by rw [doInvoke_state]; exact hsteps⟩
theorem vx_callVW (X : Stand p l e R s m args below meth c T locs cells slots) (hexec : p.tables.exec = Jvm.exec) {own C : String} {index : Nat} {y : MethodName} {bytes : ByteArray} {maxL : Nat} {ret : Option FieldType} {hh : List (Nat × Nat × Nat × Nat)}
    (hown : s.vm.findClass own = some m.cls) (hlink : (Cond.methodLink own index y).before args s = true) (hinst : (Cond.instanceMethod y).before args s = true) (hsel : (Cond.selects C y y).before args s = true)
    (hcode : (Cond.codeWith y bytes maxL ret hh).before args s = true) (hy : y.cls ≠ "java/lang/invoke/MethodHandle" ∧ y.cls ≠ "java/lang/invoke/VarHandle")
    {W9 : Nat} {Pre : Pt → Array Value → Prop} {Post : Pt → Array Value → Option Value → Pt → Prop} (hK : Back l R p e below s args y 3 W9 Pre Post)
    {b : Addr} {cellB : Cell} (hcell : T.heap[b]? = some cellB) (hobj : cellB.vm.isStatics = false) (hcls : s.vm.findClass C = some cellB.cls)
    {g : JFrame} (hg : g.method = m) (hsize : g.locals.size = c.maxLocals) {argsL rest : List Value} (hlen : ∀ sig, parseMethodDescriptor y.desc = some sig → argsL.length = sig.parameters.length)
    (hstack : g.stack = argsL.reverse ++ .ref b :: rest) (hW : 2 * g.monitorRoom + (rest.map fun v => v.category).sum ≤ W9) (hdg : decode c.code g.pc = .ok (.invokevirtual index, 3))
    (hpre : ∀ vm₁, s.WarmedH vm₁ → Pre ⟨T.setVm vm₁, locs, cells, slots⟩ (Value.ref b :: argsL).toArray) :
    ∃ (v : Option Value) (vm₁ : Vm) (B : Pt), s.WarmedH vm₁ ∧ Stand p l e R s m args below meth c B.U B.locs B.cells B.slots ∧ Post ⟨T.setVm vm₁, locs, cells, slots⟩ (Value.ref b :: argsL).toArray v B ∧
      ∀ target, Steps p.tables e below (B.U.setTop { g with pc := g.pc + 3, stack := v.toList ++ rest }) target → Steps p.tables e below (T.setTop g) target := by
  obtain ⟨mk, methM, hnamed, hmethM, hstM, habM⟩ := Cond.instanceMethod_spec hinst
  obtain ⟨m8, methM', cM, hn8, hmethM', -, -, -, -, -, -, hsigM⟩ := Cond.codeWith_spec hcode
  cases Option.some.inj (hn8.symm.trans hnamed)
  cases hmethM.symm.trans hmethM'
  obtain ⟨c2, r2, m2, q1, q2, q3, q4, kP, hkP, hkPi⟩ := Cond.selects_spec hsel
  cases hcls.symm.trans q1
  cases (State.methodFound?_of_named hnamed hy).symm.trans q2
  cases hnamed.symm.trans q3
  have hselP : selectMethod e.platform s.vm cellB.cls mk = .method mk := by rw [Launch.admits_selectMethod X.admits]; exact q4
  obtain ⟨vm₁, X₁, hstep₁⟩ := X.invokevirtual hexec hown hlink hnamed hmethM hstM hkP hkPi hy (a := b) (cell := cellB) hcell
    (fun z h => by rw [h] at hobj; cases hobj) hselP hmethM habM hkP hkPi (g := g) hg (argsL := argsL) (rest := rest) (hlen _ hsigM) hstack hdg
  obtain ⟨v, B, X', hpost, hsteps⟩ := hK m meth c ⟨T.setVm vm₁, locs, cells, slots⟩ { g with stack := rest } (.invokevirtual index) mk (Value.ref b :: argsL).toArray X₁ hg hsize hdg hW (X₁.named hnamed) (hpre vm₁ X₁.warmed)
  exact ⟨v, vm₁, B, X₁.warmed, X', hpost, fun target h => hstep₁ _ fun acts => by rw [doInvoke_state]; exact hsteps.trans h⟩
abbrev vx_CVW (R : Room) (s : State) (args : Array Value) (own C : String) (index : Nat) (y : MethodName) (bytes : ByteArray) (maxL : Nat) (ret : Option FieldType) (hh : List (Nat × Nat × Nat × Nat)) (ws : List Cond) (rm : Room) (mc ms n : Nat) : Prop :=
  (rm.cells = mc ∧ rm.slots = ms ∧ rm.frames + 1 ≤ R.frames ∧ 8 + (maxL + 11) + rm.locals ≤ R.locals ∧ (∀ w ∈ ws, ∀ (a' : Array Value) (U : State), s.WarmedH U.vm → w.before a' U = true) ∧ Cond.codeWith y bytes maxL ret hh ∈ ws) ∧
  (Cond.codeWith y bytes maxL ret hh).before args s = true ∧ (Cond.initialized y.cls).before args s = true ∧ (y.cls ≠ "java/lang/invoke/MethodHandle" ∧ y.cls ≠ "java/lang/invoke/VarHandle") ∧
  (∀ sig, parseMethodDescriptor y.desc = some sig → n = sig.parameters.length) ∧ (Cond.methodLink own index y).before args s = true ∧ (Cond.instanceMethod y).before args s = true ∧ (Cond.selects C y y).before args s = true
theorem vx_cwVW {own C : String} {index maxL mc ms : Nat} {y : MethodName} {bytes : ByteArray} {ret : Option FieldType} {hh : List (Nat × Nat × Nat × Nat)} {Ts ws ws' : List Cond} {rm : Room} (n : Nat) (ht : ∀ w ∈ Ts, w.before args s = true) (hT : GoodIn Ts (wsV own index C y ws)) (hw : ws = Cond.codeWith y bytes maxL ret hh :: ws') (hrc : rm.cells = mc) (hrs : rm.slots = ms)
    (hd : y.cls = C ∧ y.cls ≠ "java/lang/invoke/MethodHandle" ∧ y.cls ≠ "java/lang/invoke/VarHandle" ∧ (parseMethodDescriptor y.desc).map (fun d => d.parameters.length) = some n) (hR : rm.frames + 1 ≤ R.frames ∧ 8 + (maxL + 11) + rm.locals ≤ R.locals) :
    vx_CVW R s args own C index y bytes maxL ret hh ws rm mc ms n := by
  obtain ⟨hC, hd⟩ := hd
  subst hC
  have ok : ∀ w ∈ wsV own index y.cls y ws, w.before args s = true := fun w h => ht w (hT w h).1
  have hG : GoodIn Ts ws := fun w h => hT w (by unfold wsV; exact List.mem_append_right _ h)
  have hc : Cond.codeWith y bytes maxL ret hh ∈ ws := by rw [hw]; exact List.mem_cons_self
  refine ⟨⟨hrc, hrs, hR.1, hR.2, pay_in ht hG, hc⟩, ht _ (hG _ hc).1, ok _ (by simp [wsV]), ⟨hd.1, hd.2.1⟩, fun sig h => ?_, ok _ (by simp [wsV]), ok _ (by simp [wsV]), ok _ (by simp [wsV])⟩
  have h2 := hd.2.2
  rw [h] at h2
  exact (Option.some.inj h2).symm
theorem vx_runVW {y : MethodName} {bytes cc : ByteArray} {maxL nL mc ms n index : Nat} {ret : Option FieldType} {hh : List (Nat × Nat × Nat × Nat)} {ws : List Cond} {rm : Room} {Pc : Array Value → State → Prop} {Qc : Array Value → State → Outcome → State → Prop} {free : Addr → Prop} {Ts : List Cond} {own C : String} {b : Addr} {As rest : List Value} {g : JFrame}
    (S : CallFix p m c cc nL s args Ts own) (hM : Met l y ws rm Pc Qc mc ms free) (cw : vx_CVW R s args own C index y bytes maxL ret hh ws rm mc ms n) (hp : PreV s H C b Pc As)
    (hg : g.method = m) (hn : As.length = n) (hsize : g.locals.size = nL) (hstack : g.stack = As.reverse ++ .ref b :: rest) (hW : 2 * g.monitorRoom + (rest.map fun v => v.category).sum ≤ 8) (hdg : decode cc g.pc = .ok (.invokevirtual index, 3)) (hf : cells + mc ≤ R.cells ∧ slots + ms ≤ R.slots) :
    va_Run p l e R s m args below meth c H locs cells slots mc ms g rest (Qc (Value.ref b :: As).toArray) free := by
  obtain ⟨⟨hrc, hrs, hfr, hlo, hws, hcw⟩, hcode, hini, hy, hlen, hl, hin, hse⟩ := cw
  have hK : Back l R p e below s args y 3 8 (PreOf R mc ms Pc) (PostOf Qc mc ms free) := va_backW (hh := hh) (bytes := bytes) (maxL := maxL) (ret := ret) hM hp.1 hrc hrs hfr hlo hws hcw (fun a' U hW => word_at hW (Or.inl (by first | rfl | simp [Cond.onTables, Cond.keeps, Cond.steady])) hini)
  obtain ⟨hx, hb, hml, ho, -⟩ := S
  obtain ⟨-, ⟨cellB, hcB, hoB, hclB⟩, hPc⟩ := hp
  intro T hT X
  obtain ⟨v, vm₁, ⟨U', l2, c2, s2⟩, hW₁, X', ⟨g', mk, t, L, e1, e2, hq, h1, hL, h2, h3⟩, st⟩ := vx_callVW X hx (C := C) (hh := hh) (bytes := bytes) (maxL := maxL) (ret := ret) ho hl hin hse hcode hy hK (by rw [hT]; exact hcB) hoB hclB hg (hsize.trans hml.symm) (argsL := As) (rest := rest) (fun sig h => hn.trans (hlen sig h)) hstack hW (by rw [hb]; exact hdg)
    (fun vm₁ hW₁ => ⟨hf.1, hf.2, hPc (T.setVm vm₁) hT hW₁⟩)
  dsimp only [Pt.U, Pt.locs, Pt.cells, Pt.slots] at X' e1 e2 h1 h2 h3 st
  subst h1; subst h2; subst h3
  exact ⟨v, (T.setVm vm₁).calling g' mk (Value.ref b :: As).toArray, t, U', L, hT, X', hL, e1, e2, hq, st⟩
section
variable {y : MethodName} {bytes cc : ByteArray} {maxL nL mc ms n index : Nat} {ret : Option FieldType} {ws : List Cond} {rm : Room} {Pc : Array Value → State → Prop} {Qc : Array Value → State → Outcome → State → Prop} {XC : String → State → State → Prop} {free : Addr → Prop} {Ts : List Cond} {own C : String} {b : Addr} {As rest : List Value} {g : JFrame}
theorem vx_runVX {hh : List (Nat × Nat × Nat × Nat)} (S : CallFix p m c cc nL s args Ts own) (hM : vx_Met l y ws rm Pc Qc XC mc ms free) (cw : vx_CVW R s args own C index y bytes maxL ret hh ws rm mc ms n) (hp : PreV s H C b Pc As)
    (hg : g.method = m) (hn : As.length = n) (hsize : g.locals.size = nL) (hstack : g.stack = As.reverse ++ .ref b :: rest) (hW : 2 * g.monitorRoom + (rest.map fun v => v.category).sum ≤ 8) (hdg : decode cc g.pc = .ok (.invokevirtual index, 3)) (hf : cells + mc ≤ R.cells ∧ slots + ms ≤ R.slots) :
    vx_Run p l e R s m args below meth c H locs cells slots mc ms g rest (Qc (Value.ref b :: As).toArray) XC free := by
  obtain ⟨⟨hrc, hrs, hfr, hlo, hws, hcw⟩, hcode, hini, hy, hlen, hl, hin, hse⟩ := cw
  have hK : vx_Back l R p e below s args y 3 8 (PreOf R mc ms Pc) (PostOf Qc mc ms free) (vx_Post XC mc ms free) := vx_backW (hh := hh) (bytes := bytes) (maxL := maxL) (ret := ret) hM hp.1 hrc hrs hfr hlo hws hcw (fun a' U hW => word_at hW (Or.inl (by first | rfl | simp [Cond.onTables, Cond.keeps, Cond.steady])) hini)
  obtain ⟨hx, hb, hml, ho, -⟩ := S
  obtain ⟨-, ⟨cellB, hcB, hoB, hclB⟩, hPc⟩ := hp
  intro T hT X
  rcases vx_callVX X hx (C := C) (hh := hh) (bytes := bytes) (maxL := maxL) (ret := ret) ho hl hin hse hcode hy hK (by rw [hT]; exact hcB) hoB hclB hg (hsize.trans hml.symm) (argsL := As) (rest := rest) (fun sig h => hn.trans (hlen sig h)) hstack hW (by rw [hb]; exact hdg)
    (fun vm₁ hW₁ => ⟨hf.1, hf.2, hPc (T.setVm vm₁) hT hW₁⟩) with ⟨v, vm₁, ⟨U', l2, c2, s2⟩, hW₁, X', ⟨g', mk, t, L, e1, e2, hq, h1, hL, h2, h3⟩, st⟩ | ⟨q, vm₁, ⟨U', l2, c2, s2⟩, hW₁, X', ⟨g', mk, t, L, E, ce, e1, e2, hq, hce, hcv, hcl, h1, hL, h2, h3⟩, st⟩
  · dsimp only [Pt.U, Pt.locs, Pt.cells, Pt.slots] at X' e1 e2 h1 h2 h3 st
    subst h1; subst h2; subst h3
    exact Or.inl ⟨v, (T.setVm vm₁).calling g' mk (Value.ref b :: As).toArray, t, U', L, hT, X', hL, e1, e2, hq, st⟩
  · dsimp only [Pt.U, Pt.locs, Pt.cells, Pt.slots] at X' e1 e2 h1 h2 h3 st hcl
    subst h1; subst h2; subst h3
    exact Or.inr ⟨q, (T.setVm vm₁).calling g' mk (Value.ref b :: As).toArray, t, U', L, E, ce, hT, X', hL, e1, e2, hq, hce, hcv, vx_cls hW₁ hcl, st⟩
theorem vx_runSX {hh : List (Nat × Nat × Nat × Nat)} (S : CallFix p m c cc nL s args Ts own) (hM : vx_Met l y ws rm Pc Qc XC mc ms free) (cw : vx_CSW R s args own index y bytes maxL ret hh ws rm mc ms n) (hp : PreS s H Pc As)
    (hg : g.method = m) (hn : As.length = n) (hsize : g.locals.size = nL) (hstack : g.stack = As.reverse ++ rest) (hW : 2 * g.monitorRoom + (rest.map fun v => v.category).sum ≤ 8) (hdg : decode cc g.pc = .ok (.invokestatic index, 3)) (hf : cells + mc ≤ R.cells ∧ slots + ms ≤ R.slots) :
    vx_Run p l e R s m args below meth c H locs cells slots mc ms g rest (Qc As.toArray) XC free := by
  obtain ⟨⟨hrc, hrs, hfr, hlo, hws, hcw⟩, hcode, hini, hy, hlen, hl, hstt⟩ := cw
  have hK : vx_Back l R p e below s args y 3 8 (PreOf R mc ms Pc) (PostOf Qc mc ms free) (vx_Post XC mc ms free) := vx_backW (hh := hh) (bytes := bytes) (maxL := maxL) (ret := ret) hM hp.1 hrc hrs hfr hlo hws hcw (fun a' U hW => word_at hW (Or.inl (by first | rfl | simp [Cond.onTables, Cond.keeps, Cond.steady])) hini)
  obtain ⟨hx, hb, hml, ho, -⟩ := S
  intro T hT X
  rcases vx_callSX X hx (hh := hh) (bytes := bytes) (maxL := maxL) (ret := ret) ho hl hstt hini hcode hy hK hg (hsize.trans hml.symm) (argsL := As) (rest := rest) (fun sig h => hn.trans (hlen sig h)) hstack hW (by rw [hb]; exact hdg)
    (fun vm₁ hW₁ => ⟨hf.1, hf.2, hp.2 (T.setVm vm₁) hT hW₁⟩) with ⟨v, vm₁, ⟨U', l2, c2, s2⟩, hW₁, X', ⟨g', mk, t, L, e1, e2, hq, h1, hL, h2, h3⟩, st⟩ | ⟨q, vm₁, ⟨U', l2, c2, s2⟩, hW₁, X', ⟨g', mk, t, L, E, ce, e1, e2, hq, hce, hcv, hcl, h1, hL, h2, h3⟩, st⟩
  · dsimp only [Pt.U, Pt.locs, Pt.cells, Pt.slots] at X' e1 e2 h1 h2 h3 st
    subst h1; subst h2; subst h3
    exact Or.inl ⟨v, (T.setVm vm₁).calling g' mk As.toArray, t, U', L, hT, X', hL, e1, e2, hq, st⟩
  · dsimp only [Pt.U, Pt.locs, Pt.cells, Pt.slots] at X' e1 e2 h1 h2 h3 st hcl
    subst h1; subst h2; subst h3
    exact Or.inr ⟨q, (T.setVm vm₁).calling g' mk As.toArray, t, U', L, E, ce, hT, X', hL, e1, e2, hq, hce, hcv, vx_cls hW₁ hcl, st⟩
end
end VXH
theorem vx_ofWH {l : Launch} {y : MethodName} {ws ws' : List Cond} {rm : Room} {Pc : Array Value → State → Prop} {Qc : Array Value → State → Outcome → State → Prop} {XC : String → State → State → Prop} {mc ms : Nat} {free : Addr → Prop} {cc : ByteArray} {maxL : Nat} {ret : Option FieldType} {hh : List (Nat × Nat × Nat × Nat)}
    (hy : plainName y.cls = true) (hw : ws = Cond.codeWith y cc maxL ret hh :: ws')
    (body : ∀ p e s m args below meth c s₁, BodyLoose p l y (headSpec ws rm) cc maxL ret e s m args below meth c s₁ → c.maxLocals = maxL → Pc args s →
      W p l e (headSpec ws rm).room s m args below meth c s.heap [] 0 0 (vx_MQ below Qc XC args s mc ms free) (entryFrame m args maxL)) : vx_Met l y ws rm Pc Qc XC mc ms free := by
  refine MetFree.of_bodyS (code := cc) (maxLocals := maxL) (ret := ret) hy ?_ ?_
  · intro args s m h hn
    obtain ⟨m9, meth, c, hn9, h1, h2, h3, h4, -, h5, h6, -⟩ := Cond.codeWith_spec (atoms_spec (ws := ws) h _ (by rw [hw]; exact List.mem_cons_self))
    cases hn.symm.trans hn9
    exact ⟨meth, c, h1, h2, h3, h4, h5, h6⟩
  · intro p e s m args below meth c s₁ B hml hP _
    have hh0 : s₁.heap = s.heap := by rw [B.state]; rfl
    obtain ⟨t, a1, o, b1, b2, b3⟩ := body p e s m args below meth c s₁ B hml hP s₁ hh0 (Stand.of_body B)
    exact ⟨t, o, a1, b1, b2, b3⟩
end
section
def R_Rel : String := "TupleShelf$Relation"
def T_Rel : u_T := fun k => match k with
  | 0 => ("TupleShelf$Relation", "tuples", "[I", true)
  | 1 => ("TupleShelf$Relation", "counts", "[I", true)
  | 2 => ("TupleShelf$Relation", "width", "I", false)
  | _ => ("TupleShelf$Relation", "size", "I", false)
def ty_Rel : Nat → FieldType := fun k => match k with
  | 0 => .array .int
  | 1 => .array .int
  | 2 => .int
  | _ => .int
theorem nm_Rel : ∀ a, a < 4 → ∀ b, b < 4 → a ≠ b → (T_Rel a).2.1 ≠ (T_Rel b).2.1 := by decide +kernel
theorem ty_Rel_ok : ∀ k, k < 4 → parseFieldDescriptor (T_Rel k).2.2.1 = some (ty_Rel k) := by decide +kernel
def R_Sh : String := "TupleShelf"
def T_Sh : u_T := fun k => match k with
  | 0 => ("TupleShelf", "relations", "[LTupleShelf$Relation;", true)
  | 1 => ("TupleShelf", "spare", "LTupleShelf$Relation;", false)
  | _ => ("TupleShelf", "reached", "[I", true)
def ty_Sh : Nat → FieldType := fun k => match k with
  | 0 => .array (.object "TupleShelf$Relation")
  | 1 => .object "TupleShelf$Relation"
  | _ => .array .int
theorem nm_Sh : ∀ a, a < 3 → ∀ b, b < 3 → a ≠ b → (T_Sh a).2.1 ≠ (T_Sh b).2.1 := by decide +kernel
theorem ty_Sh_ok : ∀ k, k < 3 → parseFieldDescriptor (T_Sh k).2.2.1 = some (ty_Sh k) := by decide +kernel
def R_Mo : String := "TupleShelfModel"
def T_Mo : u_T := fun k => match k with
  | 0 => ("TupleShelfModel", "thrown", "I", false)
  | 1 => ("TupleShelfModel", "width", "[I", true)
  | 2 => ("TupleShelfModel", "counts", "[I", true)
  | 3 => ("TupleShelfModel", "made", "[I", true)
  | _ => ("TupleShelfModel", "way", "[Z", true)
def ty_Mo : Nat → FieldType := fun k => match k with
  | 0 => .int
  | 1 => .array .int
  | 2 => .array .int
  | 3 => .array .int
  | _ => .array .boolean
theorem nm_Mo : ∀ a, a < 5 → ∀ b, b < 5 → a ≠ b → (T_Mo a).2.1 ≠ (T_Mo b).2.1 := by decide +kernel
theorem ty_Mo_ok : ∀ k, k < 5 → parseFieldDescriptor (T_Mo k).2.2.1 = some (ty_Mo k) := by decide +kernel
def R_La : String := "TupleShelfLaw"
abbrev vwCl : List vw_C := [(R_Rel, T_Rel, 4), (R_Sh, T_Sh, 3), (R_Mo, T_Mo, 5)]
abbrev n_Rel : Nat := 0
abbrev n_Shelf : Nat := 1
abbrev n_Model : Nat := 2
/-- all good words of the tables: every method's words are these, behind its own code -/
def zws : List Cond := lw_tbl.filter goodWord
def zwy (y : MethodName) (cc : ByteArray) (n : Nat) (ret : Option FieldType) : List Cond := .code y cc n ret :: zws
theorem zin (i : Nat) {w : Cond} (h : tables_1[i]? = some w) (hg : goodWord w = true) : w ∈ zws := List.mem_filter.mpr ⟨List.mem_append_right _ (List.mem_of_getElem? h), hg⟩
theorem zinp (i : Nat) {w : Cond} (h : (k2_sels lw_privs)[i]? = some w) (hg : goodWord w = true) : w ∈ zws := List.mem_filter.mpr ⟨List.mem_append_left _ (List.mem_of_getElem? h), hg⟩
theorem zws_good {w : Cond} (h : w ∈ zws) : (w.onTables && w.keeps) = true ∨ ∃ ty, w = .arrayClass ty := good_of_word (List.mem_filter.mp h).2
theorem zwy_in {y : MethodName} {cc : ByteArray} {n : Nat} {ret : Option FieldType} {w : Cond} (h : w ∈ zws) : w ∈ zwy y cc n ret := List.mem_cons_of_mem _ h
theorem zwy_good {y y2 : MethodName} {cc cc2 : ByteArray} {n n2 : Nat} {ret ret2 : Option FieldType} (h : Cond.code y2 cc2 n2 ret2 ∈ zws) : GoodIn (zwy y cc n ret) (zwy y2 cc2 n2 ret2) := fun w hw => by
  have hz : w ∈ zws := (List.mem_cons.mp hw).elim (fun e => by rw [e]; exact h) id
  exact ⟨zwy_in hz, zws_good hz⟩
theorem zu_Rel : ∀ w ∈ u_ws R_Rel T_Rel 4, w ∈ zws := by
  intro w hw
  have h : w ∈ ([u_lay R_Rel T_Rel 0, u_lay R_Rel T_Rel 1, u_lay R_Rel T_Rel 2, u_lay R_Rel T_Rel 3] : List Cond) := hw
  simp only [List.mem_cons, List.not_mem_nil, or_false] at h
  rcases h with rfl | rfl | rfl | rfl
  · exact zin 36 (by decide +kernel) (by decide +kernel)
  · exact zin 38 (by decide +kernel) (by decide +kernel)
  · exact zin 40 (by decide +kernel) (by decide +kernel)
  · exact zin 42 (by decide +kernel) (by decide +kernel)
theorem zu_Sh : ∀ w ∈ u_ws R_Sh T_Sh 3, w ∈ zws := by
  intro w hw
  have h : w ∈ ([u_lay R_Sh T_Sh 0, u_lay R_Sh T_Sh 1, u_lay R_Sh T_Sh 2] : List Cond) := hw
  simp only [List.mem_cons, List.not_mem_nil, or_false] at h
  rcases h with rfl | rfl | rfl
  · exact zin 49 (by decide +kernel) (by decide +kernel)
  · exact zin 51 (by decide +kernel) (by decide +kernel)
  · exact zin 53 (by decide +kernel) (by decide +kernel)
theorem zu_Mo : ∀ w ∈ u_ws R_Mo T_Mo 5, w ∈ zws := by
  intro w hw
  have h : w ∈ ([u_lay R_Mo T_Mo 0, u_lay R_Mo T_Mo 1, u_lay R_Mo T_Mo 2, u_lay R_Mo T_Mo 3, u_lay R_Mo T_Mo 4] : List Cond) := hw
  simp only [List.mem_cons, List.not_mem_nil, or_false] at h
  rcases h with rfl | rfl | rfl | rfl | rfl
  · exact zin 371 (by decide +kernel) (by decide +kernel)
  · exact zin 373 (by decide +kernel) (by decide +kernel)
  · exact zin 375 (by decide +kernel) (by decide +kernel)
  · exact zin 377 (by decide +kernel) (by decide +kernel)
  · exact zin 379 (by decide +kernel) (by decide +kernel)
/-- what a call rests on -/
def zlS (own : String) (idx : Nat) (y : MethodName) (bytes : ByteArray) (maxL : Nat) (ret : Option FieldType) (n : Nat) : Prop := Cond.code y bytes maxL ret ∈ zws ∧ Cond.methodLink own idx y ∈ zws ∧ Cond.static y ∈ zws ∧ Cond.initialized y.cls ∈ zws ∧ y.cls ≠ "java/lang/invoke/MethodHandle" ∧ y.cls ≠ "java/lang/invoke/VarHandle" ∧ (parseMethodDescriptor y.desc).map (fun d => d.parameters.length) = some n
def zlV (own : String) (idx : Nat) (y : MethodName) (bytes : ByteArray) (maxL : Nat) (ret : Option FieldType) (n : Nat) : Prop := Cond.code y bytes maxL ret ∈ zws ∧ Cond.methodLink own idx y ∈ zws ∧ (Cond.instanceMethod y ∈ zws ∧ Cond.selects y.cls y y ∈ zws) ∧ Cond.initialized y.cls ∈ zws ∧ y.cls ≠ "java/lang/invoke/MethodHandle" ∧ y.cls ≠ "java/lang/invoke/VarHandle" ∧ (parseMethodDescriptor y.desc).map (fun d => d.parameters.length) = some n
section ZLW
variable {R rm : Room} {s : State} {args : Array Value} {own : String} {idx maxL n mc ms nL : Nat} {y y0 : MethodName} {bytes cc : ByteArray} {ret ret0 : Option FieldType}
theorem zlS.cw (h : zlS own idx y bytes maxL ret n) (hrc : rm.cells = mc) (hrs : rm.slots = ms) (hR : rm.frames + 1 ≤ R.frames ∧ 8 + (maxL + 11) + rm.locals ≤ R.locals) (s : State) (args : Array Value) (ht : ∀ w ∈ zwy y0 cc nL ret0, w.before args s = true) : CallB R s args own idx y bytes maxL ret (zwy y bytes maxL ret) rm mc ms n ∧ (Cond.static y).before args s = true :=
  ⟨callB_of n ht (zwy_good h.1) rfl hrc hrs (ht _ (zwy_in h.2.2.2.1)) (ht _ (zwy_in h.2.1)) h.2.2.2.2 hR, ht _ (zwy_in h.2.2.1)⟩
theorem zlV.cw (h : zlV own idx y bytes maxL ret n) (hrc : rm.cells = mc) (hrs : rm.slots = ms) (hR : rm.frames + 1 ≤ R.frames ∧ 8 + (maxL + 11) + rm.locals ≤ R.locals) (s : State) (args : Array Value) (ht : ∀ w ∈ zwy y0 cc nL ret0, w.before args s = true) : CallW R s args own y.cls idx y bytes maxL ret (zwy y bytes maxL ret) rm mc ms n :=
  ⟨callB_of n ht (zwy_good h.1) rfl hrc hrs (ht _ (zwy_in h.2.2.2.1)) (ht _ (zwy_in h.2.1)) h.2.2.2.2 hR, ht _ (zwy_in h.2.2.1.1), ht _ (zwy_in h.2.2.1.2)⟩
end ZLW
abbrev c_Sh_init : ByteArray := prog_1_method_1_code
def y_Sh_init : MethodName := ⟨"TupleShelf", "<init>", "()V"⟩
abbrev c_Rel_init : ByteArray := prog_2_method_1_code
def y_Rel_init : MethodName := ⟨"TupleShelf$Relation", "<init>", "()V"⟩
abbrev c_La_width : ByteArray := method_3_code
def y_La_width : MethodName := ⟨"TupleShelfLaw", "width", "(LTupleShelf;II[J)I"⟩
abbrev c_Sh_width : ByteArray := prog_1_method_2_code
def y_Sh_width : MethodName := ⟨"TupleShelf", "width", "(II)I"⟩
abbrev c_Sh_relationOf : ByteArray := prog_1_method_17_code
def y_Sh_relationOf : MethodName := ⟨"TupleShelf", "relationOf", "(I)LTupleShelf$Relation;"⟩
abbrev c_Sh_mustBeRelation : ByteArray := prog_1_method_14_code
def y_Sh_mustBeRelation : MethodName := ⟨"TupleShelf", "mustBeRelation", "(I)V"⟩
abbrev c_Sh_refuseUnless : ByteArray := prog_1_method_15_code
def y_Sh_refuseUnless : MethodName := ⟨"TupleShelf", "refuseUnless", "(Z)V"⟩
abbrev c_Rel_startAnew : ByteArray := prog_2_method_2_code
def y_Rel_startAnew : MethodName := ⟨"TupleShelf$Relation", "startAnew", "(I)V"⟩
abbrev c_La_put : ByteArray := method_4_code
def y_La_put : MethodName := ⟨"TupleShelfLaw", "put", "(LTupleShelf;III[J)I"⟩
abbrev c_Sh_put : ByteArray := prog_1_method_3_code
def y_Sh_put : MethodName := ⟨"TupleShelf", "put", "(III)I"⟩
abbrev c_Sh_isTuple : ByteArray := prog_1_method_25_code
def y_Sh_isTuple : MethodName := ⟨"TupleShelf", "isTuple", "(II)Z"⟩
abbrev c_Sh_bitsBehind : ByteArray := prog_1_method_24_code
def y_Sh_bitsBehind : MethodName := ⟨"TupleShelf", "bitsBehind", "(I)I"⟩
abbrev c_Rel_raise : ByteArray := prog_2_method_5_code
def y_Rel_raise : MethodName := ⟨"TupleShelf$Relation", "raise", "(II)Z"⟩
abbrev c_Rel_placeOf : ByteArray := prog_2_method_3_code
def y_Rel_placeOf : MethodName := ⟨"TupleShelf$Relation", "placeOf", "(I)I"⟩
abbrev c_Rel_holdsAt : ByteArray := prog_2_method_10_code
def y_Rel_holdsAt : MethodName := ⟨"TupleShelf$Relation", "holdsAt", "(II)Z"⟩
abbrev c_Rel_raiseAt : ByteArray := prog_2_method_11_code
def y_Rel_raiseAt : MethodName := ⟨"TupleShelf$Relation", "raiseAt", "(II)V"⟩
abbrev c_Rel_removeAt : ByteArray := prog_2_method_13_code
def y_Rel_removeAt : MethodName := ⟨"TupleShelf$Relation", "removeAt", "(I)V"⟩
abbrev c_Rel_insertAt : ByteArray := prog_2_method_12_code
def y_Rel_insertAt : MethodName := ⟨"TupleShelf$Relation", "insertAt", "(III)V"⟩
abbrev c_Sh_refuseIfFull : ByteArray := prog_1_method_16_code
def y_Sh_refuseIfFull : MethodName := ⟨"TupleShelf", "refuseIfFull", "(Z)V"⟩
abbrev c_Rel_countOf : ByteArray := prog_2_method_4_code
def y_Rel_countOf : MethodName := ⟨"TupleShelf$Relation", "countOf", "(I)I"⟩
abbrev c_La_count : ByteArray := method_5_code
def y_La_count : MethodName := ⟨"TupleShelfLaw", "count", "(LTupleShelf;II[J)I"⟩
abbrev c_Sh_count : ByteArray := prog_1_method_4_code
def y_Sh_count : MethodName := ⟨"TupleShelf", "count", "(II)I"⟩
abbrev c_La_at : ByteArray := method_6_code
def y_La_at : MethodName := ⟨"TupleShelfLaw", "at", "(LTupleShelf;II[J)I"⟩
abbrev c_Sh_at : ByteArray := prog_1_method_5_code
def y_Sh_at : MethodName := ⟨"TupleShelf", "at", "(II)I"⟩
abbrev c_La_join : ByteArray := method_7_code
def y_La_join : MethodName := ⟨"TupleShelfLaw", "join", "(LTupleShelf;IIII[J)I"⟩
abbrev c_Sh_join : ByteArray := prog_1_method_6_code
def y_Sh_join : MethodName := ⟨"TupleShelf", "join", "(IIII)I"⟩
abbrev c_Sh_joinOne : ByteArray := prog_1_method_19_code
def y_Sh_joinOne : MethodName := ⟨"TupleShelf", "joinOne", "(LTupleShelf$Relation;ILTupleShelf$Relation;I)Z"⟩
abbrev c_Sh_lastNumbers : ByteArray := prog_1_method_28_code
def y_Sh_lastNumbers : MethodName := ⟨"TupleShelf", "lastNumbers", "(III)I"⟩
abbrev c_Sh_keepSpareAs : ByteArray := prog_1_method_18_code
def y_Sh_keepSpareAs : MethodName := ⟨"TupleShelf", "keepSpareAs", "(I)I"⟩
abbrev c_La_narrow : ByteArray := method_8_code
def y_La_narrow : MethodName := ⟨"TupleShelfLaw", "narrow", "(LTupleShelf;III[J)I"⟩
abbrev c_Sh_narrow : ByteArray := prog_1_method_7_code
def y_Sh_narrow : MethodName := ⟨"TupleShelf", "narrow", "(III)I"⟩
abbrev c_Jint_bitCount : ByteArray := prog_8_method_49_code
def y_Jint_bitCount : MethodName := ⟨"java/lang/Integer", "bitCount", "(I)I"⟩
abbrev c_Sh_narrowed : ByteArray := prog_1_method_29_code
def y_Sh_narrowed : MethodName := ⟨"TupleShelf", "narrowed", "(II)I"⟩
abbrev c_Sh_numberAt : ByteArray := prog_1_method_26_code
def y_Sh_numberAt : MethodName := ⟨"TupleShelf", "numberAt", "(II)I"⟩
abbrev c_Sh_withNumber : ByteArray := prog_1_method_27_code
def y_Sh_withNumber : MethodName := ⟨"TupleShelf", "withNumber", "(II)I"⟩
abbrev c_La_pick : ByteArray := method_9_code
def y_La_pick : MethodName := ⟨"TupleShelfLaw", "pick", "(LTupleShelf;IIII[J)I"⟩
abbrev c_Sh_pick : ByteArray := prog_1_method_8_code
def y_Sh_pick : MethodName := ⟨"TupleShelf", "pick", "(IIII)I"⟩
abbrev c_La_alter : ByteArray := method_10_code
def y_La_alter : MethodName := ⟨"TupleShelfLaw", "alter", "(LTupleShelf;IIII[J)I"⟩
abbrev c_Sh_alter : ByteArray := prog_1_method_9_code
def y_Sh_alter : MethodName := ⟨"TupleShelf", "alter", "(IIII)I"⟩
abbrev c_Sh_altered : ByteArray := prog_1_method_23_code
def y_Sh_altered : MethodName := ⟨"TupleShelf", "altered", "(III)I"⟩
abbrev c_Jmath_min : ByteArray := prog_9_method_69_code
def y_Jmath_min : MethodName := ⟨"java/lang/Math", "min", "(II)I"⟩
abbrev c_La_reach : ByteArray := method_11_code
def y_La_reach : MethodName := ⟨"TupleShelfLaw", "reach", "(LTupleShelf;II[J)I"⟩
abbrev c_Sh_reach : ByteArray := prog_1_method_10_code
def y_Sh_reach : MethodName := ⟨"TupleShelf", "reach", "(II)I"⟩
abbrev c_Sh_takeSteps : ByteArray := prog_1_method_20_code
def y_Sh_takeSteps : MethodName := ⟨"TupleShelf", "takeSteps", "(LTupleShelf$Relation;)V"⟩
abbrev c_Sh_followSteps : ByteArray := prog_1_method_21_code
def y_Sh_followSteps : MethodName := ⟨"TupleShelf", "followSteps", "()V"⟩
abbrev c_Sh_isReached : ByteArray := prog_1_method_22_code
def y_Sh_isReached : MethodName := ⟨"TupleShelf", "isReached", "(II)Z"⟩
abbrev c_La_turn : ByteArray := method_12_code
def y_La_turn : MethodName := ⟨"TupleShelfLaw", "turn", "(LTupleShelf;II[J)I"⟩
abbrev c_Sh_turn : ByteArray := prog_1_method_11_code
def y_Sh_turn : MethodName := ⟨"TupleShelf", "turn", "(II)I"⟩
abbrev c_Sh_turned : ByteArray := prog_1_method_30_code
def y_Sh_turned : MethodName := ⟨"TupleShelf", "turned", "(II)I"⟩
abbrev c_La_about : ByteArray := method_13_code
def y_La_about : MethodName := ⟨"TupleShelfLaw", "about", "(LTupleShelf;II[J)I"⟩
abbrev c_Sh_about : ByteArray := prog_1_method_12_code
def y_Sh_about : MethodName := ⟨"TupleShelf", "about", "(II)J"⟩
abbrev c_Rel_firstNumbers : ByteArray := prog_2_method_6_code
def y_Rel_firstNumbers : MethodName := ⟨"TupleShelf$Relation", "firstNumbers", "()I"⟩
abbrev c_Rel_sum : ByteArray := prog_2_method_7_code
def y_Rel_sum : MethodName := ⟨"TupleShelf$Relation", "sum", "()J"⟩
abbrev c_Rel_greatest : ByteArray := prog_2_method_8_code
def y_Rel_greatest : MethodName := ⟨"TupleShelf$Relation", "greatest", "()I"⟩
abbrev c_Jmath_max : ByteArray := prog_9_method_65_code
def y_Jmath_max : MethodName := ⟨"java/lang/Math", "max", "(II)I"⟩
abbrev c_La_same : ByteArray := method_14_code
def y_La_same : MethodName := ⟨"TupleShelfLaw", "same", "(LTupleShelf;II[J)I"⟩
abbrev c_Sh_same : ByteArray := prog_1_method_13_code
def y_Sh_same : MethodName := ⟨"TupleShelf", "same", "(II)Z"⟩
abbrev c_Rel_holdsWhat : ByteArray := prog_2_method_9_code
def y_Rel_holdsWhat : MethodName := ⟨"TupleShelf$Relation", "holdsWhat", "(LTupleShelf$Relation;)Z"⟩
abbrev c_Mo_init : ByteArray := prog_4_method_1_code
def y_Mo_init : MethodName := ⟨"TupleShelfModel", "<init>", "()V"⟩
abbrev c_Mo_thrown : ByteArray := prog_4_method_2_code
def y_Mo_thrown : MethodName := ⟨"TupleShelfModel", "thrown", "()I"⟩
abbrev c_Mo_width : ByteArray := prog_4_method_11_code
def y_Mo_width : MethodName := ⟨"TupleShelfModel", "width", "(II)I"⟩
abbrev c_Mo_none : ByteArray := prog_4_method_4_code
def y_Mo_none : MethodName := ⟨"TupleShelfModel", "none", "(I)Z"⟩
abbrev c_Mo_refuse : ByteArray := prog_4_method_3_code
def y_Mo_refuse : MethodName := ⟨"TupleShelfModel", "refuse", "(IZ)Z"⟩
abbrev c_Mo_in : ByteArray := prog_4_method_6_code
def y_Mo_in : MethodName := ⟨"TupleShelfModel", "in", "(I)I"⟩
abbrev c_Mo_many : ByteArray := prog_4_method_5_code
def y_Mo_many : MethodName := ⟨"TupleShelfModel", "many", "([II)I"⟩
abbrev c_Mo_put : ByteArray := prog_4_method_12_code
def y_Mo_put : MethodName := ⟨"TupleShelfModel", "put", "(III)I"⟩
abbrev c_Mo_isTuple : ByteArray := prog_4_method_9_code
def y_Mo_isTuple : MethodName := ⟨"TupleShelfModel", "isTuple", "(II)Z"⟩
abbrev c_Mo_of : ByteArray := prog_4_method_7_code
def y_Mo_of : MethodName := ⟨"TupleShelfModel", "of", "(II)I"⟩
abbrev c_Mo_count : ByteArray := prog_4_method_13_code
def y_Mo_count : MethodName := ⟨"TupleShelfModel", "count", "(II)I"⟩
abbrev c_Mo_at : ByteArray := prog_4_method_14_code
def y_Mo_at : MethodName := ⟨"TupleShelfModel", "at", "(II)I"⟩
abbrev c_Mo_join : ByteArray := prog_4_method_17_code
def y_Mo_join : MethodName := ⟨"TupleShelfModel", "join", "(IIII)I"⟩
abbrev c_Mo_begin : ByteArray := prog_4_method_15_code
def y_Mo_begin : MethodName := ⟨"TupleShelfModel", "begin", "()V"⟩
abbrev c_Mo_number : ByteArray := prog_4_method_10_code
def y_Mo_number : MethodName := ⟨"TupleShelfModel", "number", "(II)I"⟩
abbrev c_Mo_keep : ByteArray := prog_4_method_16_code
def y_Mo_keep : MethodName := ⟨"TupleShelfModel", "keep", "(III)I"⟩
abbrev c_Mo_narrow : ByteArray := prog_4_method_18_code
def y_Mo_narrow : MethodName := ⟨"TupleShelfModel", "narrow", "(III)I"⟩
abbrev c_Mo_bits : ByteArray := prog_4_method_8_code
def y_Mo_bits : MethodName := ⟨"TupleShelfModel", "bits", "(I)I"⟩
abbrev c_Mo_pick : ByteArray := prog_4_method_19_code
def y_Mo_pick : MethodName := ⟨"TupleShelfModel", "pick", "(IIII)I"⟩
abbrev c_Mo_alter : ByteArray := prog_4_method_21_code
def y_Mo_alter : MethodName := ⟨"TupleShelfModel", "alter", "(IIII)I"⟩
abbrev c_Mo_altered : ByteArray := prog_4_method_20_code
def y_Mo_altered : MethodName := ⟨"TupleShelfModel", "altered", "(III)I"⟩
abbrev c_Mo_reach : ByteArray := prog_4_method_22_code
def y_Mo_reach : MethodName := ⟨"TupleShelfModel", "reach", "(II)I"⟩
abbrev c_Mo_turn : ByteArray := prog_4_method_23_code
def y_Mo_turn : MethodName := ⟨"TupleShelfModel", "turn", "(II)I"⟩
abbrev c_Mo_about : ByteArray := prog_4_method_24_code
def y_Mo_about : MethodName := ⟨"TupleShelfModel", "about", "(II)J"⟩
abbrev c_Mo_same : ByteArray := prog_4_method_25_code
def y_Mo_same : MethodName := ⟨"TupleShelfModel", "same", "(II)Z"⟩
theorem fl_Rel_9 : Cond.fieldLink "TupleShelf$Relation" 9 "TupleShelf$Relation" "tuples" "[I" ∈ zws := zin 28 (by decide +kernel) (by decide +kernel)
theorem fl_Sh_60 : Cond.fieldLink "TupleShelf" 60 "TupleShelf$Relation" "tuples" "[I" ∈ zws := zin 29 (by decide +kernel) (by decide +kernel)
theorem fl_Rel_15 : Cond.fieldLink "TupleShelf$Relation" 15 "TupleShelf$Relation" "counts" "[I" ∈ zws := zin 30 (by decide +kernel) (by decide +kernel)
theorem fl_Sh_82 : Cond.fieldLink "TupleShelf" 82 "TupleShelf$Relation" "counts" "[I" ∈ zws := zin 31 (by decide +kernel) (by decide +kernel)
theorem fl_Rel_18 : Cond.fieldLink "TupleShelf$Relation" 18 "TupleShelf$Relation" "width" "I" ∈ zws := zin 32 (by decide +kernel) (by decide +kernel)
theorem fl_Sh_40 : Cond.fieldLink "TupleShelf" 40 "TupleShelf$Relation" "width" "I" ∈ zws := zin 33 (by decide +kernel) (by decide +kernel)
theorem fl_Rel_22 : Cond.fieldLink "TupleShelf$Relation" 22 "TupleShelf$Relation" "size" "I" ∈ zws := zin 34 (by decide +kernel) (by decide +kernel)
theorem fl_Sh_32 : Cond.fieldLink "TupleShelf" 32 "TupleShelf$Relation" "size" "I" ∈ zws := zin 35 (by decide +kernel) (by decide +kernel)
theorem fl_Sh_11 : Cond.fieldLink "TupleShelf" 11 "TupleShelf" "relations" "[LTupleShelf$Relation;" ∈ zws := zin 46 (by decide +kernel) (by decide +kernel)
theorem fl_Sh_16 : Cond.fieldLink "TupleShelf" 16 "TupleShelf" "spare" "LTupleShelf$Relation;" ∈ zws := zin 47 (by decide +kernel) (by decide +kernel)
theorem fl_Sh_20 : Cond.fieldLink "TupleShelf" 20 "TupleShelf" "reached" "[I" ∈ zws := zin 48 (by decide +kernel) (by decide +kernel)
theorem fl_Mo_7 : Cond.fieldLink "TupleShelfModel" 7 "TupleShelfModel" "thrown" "I" ∈ zws := zin 366 (by decide +kernel) (by decide +kernel)
theorem fl_Mo_13 : Cond.fieldLink "TupleShelfModel" 13 "TupleShelfModel" "width" "[I" ∈ zws := zin 367 (by decide +kernel) (by decide +kernel)
theorem fl_Mo_18 : Cond.fieldLink "TupleShelfModel" 18 "TupleShelfModel" "counts" "[I" ∈ zws := zin 368 (by decide +kernel) (by decide +kernel)
theorem fl_Mo_21 : Cond.fieldLink "TupleShelfModel" 21 "TupleShelfModel" "made" "[I" ∈ zws := zin 369 (by decide +kernel) (by decide +kernel)
theorem fl_Mo_24 : Cond.fieldLink "TupleShelfModel" 24 "TupleShelfModel" "way" "[Z" ∈ zws := zin 370 (by decide +kernel) (by decide +kernel)
theorem lk_La_7 : zlV R_La 7 y_Sh_width c_Sh_width 5 (some .int) 2 := ⟨zin 64 (by decide +kernel) (by decide +kernel), zin 61 (by decide +kernel) (by decide +kernel), ⟨zin 62 (by decide +kernel) (by decide +kernel), zin 63 (by decide +kernel) (by decide +kernel)⟩, zin 1 (by decide +kernel) (by decide +kernel), by decide +kernel, by decide +kernel, by decide +kernel⟩
theorem lk_Sh_24 : zlV R_Sh 24 y_Sh_relationOf c_Sh_relationOf 2 (some (.object "TupleShelf$Relation")) 1 := ⟨zin 68 (by decide +kernel) (by decide +kernel), zin 65 (by decide +kernel) (by decide +kernel), ⟨zin 67 (by decide +kernel) (by decide +kernel), zinp 0 (by decide +kernel) (by decide +kernel)⟩, zin 1 (by decide +kernel) (by decide +kernel), by decide +kernel, by decide +kernel, by decide +kernel⟩
theorem lk_Sh_63 : zlS R_Sh 63 y_Sh_mustBeRelation c_Sh_mustBeRelation 1 none 1 := ⟨zin 71 (by decide +kernel) (by decide +kernel), zin 69 (by decide +kernel) (by decide +kernel), zin 70 (by decide +kernel) (by decide +kernel), zin 1 (by decide +kernel) (by decide +kernel), by decide +kernel, by decide +kernel, by decide +kernel⟩
theorem lk_Sh_28 : zlS R_Sh 28 y_Sh_refuseUnless c_Sh_refuseUnless 1 none 1 := ⟨zin 137 (by decide +kernel) (by decide +kernel), zin 135 (by decide +kernel) (by decide +kernel), zin 136 (by decide +kernel) (by decide +kernel), zin 1 (by decide +kernel) (by decide +kernel), by decide +kernel, by decide +kernel, by decide +kernel⟩
theorem lk_Sh_36 : zlV R_Sh 36 y_Rel_startAnew c_Rel_startAnew 2 none 1 := ⟨zin 156 (by decide +kernel) (by decide +kernel), zin 153 (by decide +kernel) (by decide +kernel), ⟨zin 154 (by decide +kernel) (by decide +kernel), zin 155 (by decide +kernel) (by decide +kernel)⟩, zin 2 (by decide +kernel) (by decide +kernel), by decide +kernel, by decide +kernel, by decide +kernel⟩
theorem lk_La_17 : zlV R_La 17 y_Sh_put c_Sh_put 5 (some .int) 3 := ⟨zin 164 (by decide +kernel) (by decide +kernel), zin 161 (by decide +kernel) (by decide +kernel), ⟨zin 162 (by decide +kernel) (by decide +kernel), zin 163 (by decide +kernel) (by decide +kernel)⟩, zin 1 (by decide +kernel) (by decide +kernel), by decide +kernel, by decide +kernel, by decide +kernel⟩
theorem lk_Sh_43 : zlS R_Sh 43 y_Sh_isTuple c_Sh_isTuple 2 (some .boolean) 2 := ⟨zin 167 (by decide +kernel) (by decide +kernel), zin 165 (by decide +kernel) (by decide +kernel), zin 166 (by decide +kernel) (by decide +kernel), zin 1 (by decide +kernel) (by decide +kernel), by decide +kernel, by decide +kernel, by decide +kernel⟩
theorem lk_Sh_132 : zlS R_Sh 132 y_Sh_bitsBehind c_Sh_bitsBehind 1 (some .int) 1 := ⟨zin 170 (by decide +kernel) (by decide +kernel), zin 168 (by decide +kernel) (by decide +kernel), zin 169 (by decide +kernel) (by decide +kernel), zin 1 (by decide +kernel) (by decide +kernel), by decide +kernel, by decide +kernel, by decide +kernel⟩
theorem lk_Sh_47 : zlV R_Sh 47 y_Rel_raise c_Rel_raise 4 (some .boolean) 2 := ⟨zin 174 (by decide +kernel) (by decide +kernel), zin 171 (by decide +kernel) (by decide +kernel), ⟨zin 172 (by decide +kernel) (by decide +kernel), zin 173 (by decide +kernel) (by decide +kernel)⟩, zin 2 (by decide +kernel) (by decide +kernel), by decide +kernel, by decide +kernel, by decide +kernel⟩
theorem lk_Rel_25 : zlV R_Rel 25 y_Rel_placeOf c_Rel_placeOf 4 (some .int) 1 := ⟨zin 178 (by decide +kernel) (by decide +kernel), zin 175 (by decide +kernel) (by decide +kernel), ⟨zin 176 (by decide +kernel) (by decide +kernel), zin 177 (by decide +kernel) (by decide +kernel)⟩, zin 2 (by decide +kernel) (by decide +kernel), by decide +kernel, by decide +kernel, by decide +kernel⟩
theorem lk_Rel_29 : zlV R_Rel 29 y_Rel_holdsAt c_Rel_holdsAt 3 (some .boolean) 2 := ⟨zin 182 (by decide +kernel) (by decide +kernel), zin 179 (by decide +kernel) (by decide +kernel), ⟨zin 181 (by decide +kernel) (by decide +kernel), zinp 2 (by decide +kernel) (by decide +kernel)⟩, zin 2 (by decide +kernel) (by decide +kernel), by decide +kernel, by decide +kernel, by decide +kernel⟩
theorem lk_Rel_33 : zlV R_Rel 33 y_Rel_raiseAt c_Rel_raiseAt 3 none 2 := ⟨zin 186 (by decide +kernel) (by decide +kernel), zin 183 (by decide +kernel) (by decide +kernel), ⟨zin 185 (by decide +kernel) (by decide +kernel), zinp 3 (by decide +kernel) (by decide +kernel)⟩, zin 2 (by decide +kernel) (by decide +kernel), by decide +kernel, by decide +kernel, by decide +kernel⟩
theorem lk_Rel_55 : zlV R_Rel 55 y_Rel_removeAt c_Rel_removeAt 2 none 1 := ⟨zin 190 (by decide +kernel) (by decide +kernel), zin 187 (by decide +kernel) (by decide +kernel), ⟨zin 189 (by decide +kernel) (by decide +kernel), zinp 4 (by decide +kernel) (by decide +kernel)⟩, zin 2 (by decide +kernel) (by decide +kernel), by decide +kernel, by decide +kernel, by decide +kernel⟩
theorem lk_Rel_37 : zlV R_Rel 37 y_Rel_insertAt c_Rel_insertAt 4 none 3 := ⟨zin 197 (by decide +kernel) (by decide +kernel), zin 194 (by decide +kernel) (by decide +kernel), ⟨zin 196 (by decide +kernel) (by decide +kernel), zinp 5 (by decide +kernel) (by decide +kernel)⟩, zin 2 (by decide +kernel) (by decide +kernel), by decide +kernel, by decide +kernel, by decide +kernel⟩
theorem lk_Sh_50 : zlS R_Sh 50 y_Sh_refuseIfFull c_Sh_refuseIfFull 1 none 1 := ⟨zin 200 (by decide +kernel) (by decide +kernel), zin 198 (by decide +kernel) (by decide +kernel), zin 199 (by decide +kernel) (by decide +kernel), zin 1 (by decide +kernel) (by decide +kernel), by decide +kernel, by decide +kernel, by decide +kernel⟩
theorem lk_Sh_53 : zlV R_Sh 53 y_Rel_countOf c_Rel_countOf 3 (some .int) 1 := ⟨zin 219 (by decide +kernel) (by decide +kernel), zin 216 (by decide +kernel) (by decide +kernel), ⟨zin 217 (by decide +kernel) (by decide +kernel), zin 218 (by decide +kernel) (by decide +kernel)⟩, zin 2 (by decide +kernel) (by decide +kernel), by decide +kernel, by decide +kernel, by decide +kernel⟩
theorem lk_La_23 : zlV R_La 23 y_Sh_count c_Sh_count 4 (some .int) 2 := ⟨zin 226 (by decide +kernel) (by decide +kernel), zin 223 (by decide +kernel) (by decide +kernel), ⟨zin 224 (by decide +kernel) (by decide +kernel), zin 225 (by decide +kernel) (by decide +kernel)⟩, zin 1 (by decide +kernel) (by decide +kernel), by decide +kernel, by decide +kernel, by decide +kernel⟩
theorem lk_La_26 : zlV R_La 26 y_Sh_at c_Sh_at 4 (some .int) 2 := ⟨zin 233 (by decide +kernel) (by decide +kernel), zin 230 (by decide +kernel) (by decide +kernel), ⟨zin 231 (by decide +kernel) (by decide +kernel), zin 232 (by decide +kernel) (by decide +kernel)⟩, zin 1 (by decide +kernel) (by decide +kernel), by decide +kernel, by decide +kernel, by decide +kernel⟩
theorem lk_La_29 : zlV R_La 29 y_Sh_join c_Sh_join 10 (some .int) 4 := ⟨zin 240 (by decide +kernel) (by decide +kernel), zin 237 (by decide +kernel) (by decide +kernel), ⟨zin 238 (by decide +kernel) (by decide +kernel), zin 239 (by decide +kernel) (by decide +kernel)⟩, zin 1 (by decide +kernel) (by decide +kernel), by decide +kernel, by decide +kernel, by decide +kernel⟩
theorem lk_Sh_66 : zlV R_Sh 66 y_Sh_joinOne c_Sh_joinOne 12 (some .boolean) 4 := ⟨zin 244 (by decide +kernel) (by decide +kernel), zin 241 (by decide +kernel) (by decide +kernel), ⟨zin 243 (by decide +kernel) (by decide +kernel), zinp 6 (by decide +kernel) (by decide +kernel)⟩, zin 1 (by decide +kernel) (by decide +kernel), by decide +kernel, by decide +kernel, by decide +kernel⟩
theorem lk_Sh_129 : zlS R_Sh 129 y_Sh_lastNumbers c_Sh_lastNumbers 3 (some .int) 3 := ⟨zin 247 (by decide +kernel) (by decide +kernel), zin 245 (by decide +kernel) (by decide +kernel), zin 246 (by decide +kernel) (by decide +kernel), zin 1 (by decide +kernel) (by decide +kernel), by decide +kernel, by decide +kernel, by decide +kernel⟩
theorem lk_Sh_135 : zlV R_Sh 135 y_Rel_placeOf c_Rel_placeOf 4 (some .int) 1 := ⟨zin 178 (by decide +kernel) (by decide +kernel), zin 248 (by decide +kernel) (by decide +kernel), ⟨zin 176 (by decide +kernel) (by decide +kernel), zin 177 (by decide +kernel) (by decide +kernel)⟩, zin 2 (by decide +kernel) (by decide +kernel), by decide +kernel, by decide +kernel, by decide +kernel⟩
theorem lk_Sh_70 : zlV R_Sh 70 y_Sh_keepSpareAs c_Sh_keepSpareAs 3 (some .int) 1 := ⟨zin 252 (by decide +kernel) (by decide +kernel), zin 249 (by decide +kernel) (by decide +kernel), ⟨zin 251 (by decide +kernel) (by decide +kernel), zinp 7 (by decide +kernel) (by decide +kernel)⟩, zin 1 (by decide +kernel) (by decide +kernel), by decide +kernel, by decide +kernel, by decide +kernel⟩
theorem lk_La_33 : zlV R_La 33 y_Sh_narrow c_Sh_narrow 6 (some .int) 3 := ⟨zin 259 (by decide +kernel) (by decide +kernel), zin 256 (by decide +kernel) (by decide +kernel), ⟨zin 257 (by decide +kernel) (by decide +kernel), zin 258 (by decide +kernel) (by decide +kernel)⟩, zin 1 (by decide +kernel) (by decide +kernel), by decide +kernel, by decide +kernel, by decide +kernel⟩
theorem lk_Sh_73 : zlS R_Sh 73 y_Jint_bitCount c_Jint_bitCount 1 (some .int) 1 := ⟨zin 262 (by decide +kernel) (by decide +kernel), zin 260 (by decide +kernel) (by decide +kernel), zin 261 (by decide +kernel) (by decide +kernel), zin 11 (by decide +kernel) (by decide +kernel), by decide +kernel, by decide +kernel, by decide +kernel⟩
theorem lk_Sh_78 : zlS R_Sh 78 y_Sh_narrowed c_Sh_narrowed 5 (some .int) 2 := ⟨zin 268 (by decide +kernel) (by decide +kernel), zin 266 (by decide +kernel) (by decide +kernel), zin 267 (by decide +kernel) (by decide +kernel), zin 1 (by decide +kernel) (by decide +kernel), by decide +kernel, by decide +kernel, by decide +kernel⟩
theorem lk_Sh_85 : zlS R_Sh 85 y_Sh_numberAt c_Sh_numberAt 2 (some .int) 2 := ⟨zin 271 (by decide +kernel) (by decide +kernel), zin 269 (by decide +kernel) (by decide +kernel), zin 270 (by decide +kernel) (by decide +kernel), zin 1 (by decide +kernel) (by decide +kernel), by decide +kernel, by decide +kernel, by decide +kernel⟩
theorem lk_Sh_102 : zlS R_Sh 102 y_Sh_withNumber c_Sh_withNumber 2 (some .int) 2 := ⟨zin 274 (by decide +kernel) (by decide +kernel), zin 272 (by decide +kernel) (by decide +kernel), zin 273 (by decide +kernel) (by decide +kernel), zin 1 (by decide +kernel) (by decide +kernel), by decide +kernel, by decide +kernel, by decide +kernel⟩
theorem lk_La_36 : zlV R_La 36 y_Sh_pick c_Sh_pick 7 (some .int) 4 := ⟨zin 281 (by decide +kernel) (by decide +kernel), zin 278 (by decide +kernel) (by decide +kernel), ⟨zin 279 (by decide +kernel) (by decide +kernel), zin 280 (by decide +kernel) (by decide +kernel)⟩, zin 1 (by decide +kernel) (by decide +kernel), by decide +kernel, by decide +kernel, by decide +kernel⟩
theorem lk_La_39 : zlV R_La 39 y_Sh_alter c_Sh_alter 10 (some .int) 4 := ⟨zin 288 (by decide +kernel) (by decide +kernel), zin 285 (by decide +kernel) (by decide +kernel), ⟨zin 286 (by decide +kernel) (by decide +kernel), zin 287 (by decide +kernel) (by decide +kernel)⟩, zin 1 (by decide +kernel) (by decide +kernel), by decide +kernel, by decide +kernel, by decide +kernel⟩
theorem lk_Sh_88 : zlS R_Sh 88 y_Sh_altered c_Sh_altered 3 (some .int) 3 := ⟨zin 291 (by decide +kernel) (by decide +kernel), zin 289 (by decide +kernel) (by decide +kernel), zin 290 (by decide +kernel) (by decide +kernel), zin 1 (by decide +kernel) (by decide +kernel), by decide +kernel, by decide +kernel, by decide +kernel⟩
theorem lk_Sh_138 : zlS R_Sh 138 y_Jmath_min c_Jmath_min 2 (some .int) 2 := ⟨zin 294 (by decide +kernel) (by decide +kernel), zin 292 (by decide +kernel) (by decide +kernel), zin 293 (by decide +kernel) (by decide +kernel), zin 12 (by decide +kernel) (by decide +kernel), by decide +kernel, by decide +kernel, by decide +kernel⟩
theorem lk_La_42 : zlV R_La 42 y_Sh_reach c_Sh_reach 6 (some .int) 2 := ⟨zin 301 (by decide +kernel) (by decide +kernel), zin 298 (by decide +kernel) (by decide +kernel), ⟨zin 299 (by decide +kernel) (by decide +kernel), zin 300 (by decide +kernel) (by decide +kernel)⟩, zin 1 (by decide +kernel) (by decide +kernel), by decide +kernel, by decide +kernel, by decide +kernel⟩
theorem lk_Sh_92 : zlV R_Sh 92 y_Sh_takeSteps c_Sh_takeSteps 4 none 1 := ⟨zin 305 (by decide +kernel) (by decide +kernel), zin 302 (by decide +kernel) (by decide +kernel), ⟨zin 304 (by decide +kernel) (by decide +kernel), zinp 8 (by decide +kernel) (by decide +kernel)⟩, zin 1 (by decide +kernel) (by decide +kernel), by decide +kernel, by decide +kernel, by decide +kernel⟩
theorem lk_Sh_96 : zlV R_Sh 96 y_Sh_followSteps c_Sh_followSteps 3 none 0 := ⟨zin 309 (by decide +kernel) (by decide +kernel), zin 306 (by decide +kernel) (by decide +kernel), ⟨zin 308 (by decide +kernel) (by decide +kernel), zinp 9 (by decide +kernel) (by decide +kernel)⟩, zin 1 (by decide +kernel) (by decide +kernel), by decide +kernel, by decide +kernel, by decide +kernel⟩
theorem lk_Sh_99 : zlV R_Sh 99 y_Sh_isReached c_Sh_isReached 3 (some .boolean) 2 := ⟨zin 313 (by decide +kernel) (by decide +kernel), zin 310 (by decide +kernel) (by decide +kernel), ⟨zin 312 (by decide +kernel) (by decide +kernel), zinp 10 (by decide +kernel) (by decide +kernel)⟩, zin 1 (by decide +kernel) (by decide +kernel), by decide +kernel, by decide +kernel, by decide +kernel⟩
theorem lk_La_45 : zlV R_La 45 y_Sh_turn c_Sh_turn 5 (some .int) 2 := ⟨zin 320 (by decide +kernel) (by decide +kernel), zin 317 (by decide +kernel) (by decide +kernel), ⟨zin 318 (by decide +kernel) (by decide +kernel), zin 319 (by decide +kernel) (by decide +kernel)⟩, zin 1 (by decide +kernel) (by decide +kernel), by decide +kernel, by decide +kernel, by decide +kernel⟩
theorem lk_Sh_105 : zlS R_Sh 105 y_Sh_turned c_Sh_turned 4 (some .int) 2 := ⟨zin 323 (by decide +kernel) (by decide +kernel), zin 321 (by decide +kernel) (by decide +kernel), zin 322 (by decide +kernel) (by decide +kernel), zin 1 (by decide +kernel) (by decide +kernel), by decide +kernel, by decide +kernel, by decide +kernel⟩
theorem lk_La_48 : zlV R_La 48 y_Sh_about c_Sh_about 4 (some .long) 2 := ⟨zin 330 (by decide +kernel) (by decide +kernel), zin 327 (by decide +kernel) (by decide +kernel), ⟨zin 328 (by decide +kernel) (by decide +kernel), zin 329 (by decide +kernel) (by decide +kernel)⟩, zin 1 (by decide +kernel) (by decide +kernel), by decide +kernel, by decide +kernel, by decide +kernel⟩
theorem lk_Sh_108 : zlV R_Sh 108 y_Rel_firstNumbers c_Rel_firstNumbers 3 (some .int) 0 := ⟨zin 334 (by decide +kernel) (by decide +kernel), zin 331 (by decide +kernel) (by decide +kernel), ⟨zin 332 (by decide +kernel) (by decide +kernel), zin 333 (by decide +kernel) (by decide +kernel)⟩, zin 2 (by decide +kernel) (by decide +kernel), by decide +kernel, by decide +kernel, by decide +kernel⟩
theorem lk_Rel_45 : zlS R_Rel 45 y_Jint_bitCount c_Jint_bitCount 1 (some .int) 1 := ⟨zin 262 (by decide +kernel) (by decide +kernel), zin 336 (by decide +kernel) (by decide +kernel), zin 261 (by decide +kernel) (by decide +kernel), zin 11 (by decide +kernel) (by decide +kernel), by decide +kernel, by decide +kernel, by decide +kernel⟩
theorem lk_Sh_112 : zlV R_Sh 112 y_Rel_sum c_Rel_sum 4 (some .long) 0 := ⟨zin 340 (by decide +kernel) (by decide +kernel), zin 337 (by decide +kernel) (by decide +kernel), ⟨zin 338 (by decide +kernel) (by decide +kernel), zin 339 (by decide +kernel) (by decide +kernel)⟩, zin 2 (by decide +kernel) (by decide +kernel), by decide +kernel, by decide +kernel, by decide +kernel⟩
theorem lk_Sh_116 : zlV R_Sh 116 y_Rel_greatest c_Rel_greatest 3 (some .int) 0 := ⟨zin 344 (by decide +kernel) (by decide +kernel), zin 341 (by decide +kernel) (by decide +kernel), ⟨zin 342 (by decide +kernel) (by decide +kernel), zin 343 (by decide +kernel) (by decide +kernel)⟩, zin 2 (by decide +kernel) (by decide +kernel), by decide +kernel, by decide +kernel, by decide +kernel⟩
theorem lk_Rel_50 : zlS R_Rel 50 y_Jmath_max c_Jmath_max 2 (some .int) 2 := ⟨zin 347 (by decide +kernel) (by decide +kernel), zin 345 (by decide +kernel) (by decide +kernel), zin 346 (by decide +kernel) (by decide +kernel), zin 12 (by decide +kernel) (by decide +kernel), by decide +kernel, by decide +kernel, by decide +kernel⟩
theorem lk_La_52 : zlV R_La 52 y_Sh_same c_Sh_same 5 (some .boolean) 2 := ⟨zin 354 (by decide +kernel) (by decide +kernel), zin 351 (by decide +kernel) (by decide +kernel), ⟨zin 352 (by decide +kernel) (by decide +kernel), zin 353 (by decide +kernel) (by decide +kernel)⟩, zin 1 (by decide +kernel) (by decide +kernel), by decide +kernel, by decide +kernel, by decide +kernel⟩
theorem lk_Sh_119 : zlV R_Sh 119 y_Rel_holdsWhat c_Rel_holdsWhat 3 (some .boolean) 1 := ⟨zin 358 (by decide +kernel) (by decide +kernel), zin 355 (by decide +kernel) (by decide +kernel), ⟨zin 356 (by decide +kernel) (by decide +kernel), zin 357 (by decide +kernel) (by decide +kernel)⟩, zin 2 (by decide +kernel) (by decide +kernel), by decide +kernel, by decide +kernel, by decide +kernel⟩
theorem lk_La_66 : zlV R_La 66 y_Mo_thrown c_Mo_thrown 1 (some .int) 0 := ⟨zin 386 (by decide +kernel) (by decide +kernel), zin 383 (by decide +kernel) (by decide +kernel), ⟨zin 384 (by decide +kernel) (by decide +kernel), zin 385 (by decide +kernel) (by decide +kernel)⟩, zin 3 (by decide +kernel) (by decide +kernel), by decide +kernel, by decide +kernel, by decide +kernel⟩
theorem lk_La_65 : zlV R_La 65 y_Mo_width c_Mo_width 5 (some .int) 2 := ⟨zin 390 (by decide +kernel) (by decide +kernel), zin 387 (by decide +kernel) (by decide +kernel), ⟨zin 388 (by decide +kernel) (by decide +kernel), zin 389 (by decide +kernel) (by decide +kernel)⟩, zin 3 (by decide +kernel) (by decide +kernel), by decide +kernel, by decide +kernel, by decide +kernel⟩
theorem lk_Mo_36 : zlV R_Mo 36 y_Mo_none c_Mo_none 2 (some .boolean) 1 := ⟨zin 394 (by decide +kernel) (by decide +kernel), zin 391 (by decide +kernel) (by decide +kernel), ⟨zin 393 (by decide +kernel) (by decide +kernel), zinp 11 (by decide +kernel) (by decide +kernel)⟩, zin 3 (by decide +kernel) (by decide +kernel), by decide +kernel, by decide +kernel, by decide +kernel⟩
theorem lk_Mo_28 : zlV R_Mo 28 y_Mo_refuse c_Mo_refuse 3 (some .boolean) 2 := ⟨zin 398 (by decide +kernel) (by decide +kernel), zin 395 (by decide +kernel) (by decide +kernel), ⟨zin 397 (by decide +kernel) (by decide +kernel), zinp 12 (by decide +kernel) (by decide +kernel)⟩, zin 3 (by decide +kernel) (by decide +kernel), by decide +kernel, by decide +kernel, by decide +kernel⟩
theorem lk_Mo_40 : zlV R_Mo 40 y_Mo_in c_Mo_in 2 (some .int) 1 := ⟨zin 402 (by decide +kernel) (by decide +kernel), zin 399 (by decide +kernel) (by decide +kernel), ⟨zin 401 (by decide +kernel) (by decide +kernel), zinp 13 (by decide +kernel) (by decide +kernel)⟩, zin 3 (by decide +kernel) (by decide +kernel), by decide +kernel, by decide +kernel, by decide +kernel⟩
theorem lk_Mo_32 : zlS R_Mo 32 y_Mo_many c_Mo_many 4 (some .int) 2 := ⟨zin 405 (by decide +kernel) (by decide +kernel), zin 403 (by decide +kernel) (by decide +kernel), zin 404 (by decide +kernel) (by decide +kernel), zin 3 (by decide +kernel) (by decide +kernel), by decide +kernel, by decide +kernel, by decide +kernel⟩
theorem lk_La_73 : zlV R_La 73 y_Mo_put c_Mo_put 5 (some .int) 3 := ⟨zin 409 (by decide +kernel) (by decide +kernel), zin 406 (by decide +kernel) (by decide +kernel), ⟨zin 407 (by decide +kernel) (by decide +kernel), zin 408 (by decide +kernel) (by decide +kernel)⟩, zin 3 (by decide +kernel) (by decide +kernel), by decide +kernel, by decide +kernel, by decide +kernel⟩
theorem lk_Mo_44 : zlS R_Mo 44 y_Mo_isTuple c_Mo_isTuple 2 (some .boolean) 2 := ⟨zin 412 (by decide +kernel) (by decide +kernel), zin 410 (by decide +kernel) (by decide +kernel), zin 411 (by decide +kernel) (by decide +kernel), zin 3 (by decide +kernel) (by decide +kernel), by decide +kernel, by decide +kernel, by decide +kernel⟩
theorem lk_Mo_48 : zlV R_Mo 48 y_Mo_of c_Mo_of 3 (some .int) 2 := ⟨zin 416 (by decide +kernel) (by decide +kernel), zin 413 (by decide +kernel) (by decide +kernel), ⟨zin 415 (by decide +kernel) (by decide +kernel), zinp 14 (by decide +kernel) (by decide +kernel)⟩, zin 3 (by decide +kernel) (by decide +kernel), by decide +kernel, by decide +kernel, by decide +kernel⟩
theorem lk_La_76 : zlV R_La 76 y_Mo_count c_Mo_count 3 (some .int) 2 := ⟨zin 420 (by decide +kernel) (by decide +kernel), zin 417 (by decide +kernel) (by decide +kernel), ⟨zin 418 (by decide +kernel) (by decide +kernel), zin 419 (by decide +kernel) (by decide +kernel)⟩, zin 3 (by decide +kernel) (by decide +kernel), by decide +kernel, by decide +kernel, by decide +kernel⟩
theorem lk_La_79 : zlV R_La 79 y_Mo_at c_Mo_at 5 (some .int) 2 := ⟨zin 424 (by decide +kernel) (by decide +kernel), zin 421 (by decide +kernel) (by decide +kernel), ⟨zin 422 (by decide +kernel) (by decide +kernel), zin 423 (by decide +kernel) (by decide +kernel)⟩, zin 3 (by decide +kernel) (by decide +kernel), by decide +kernel, by decide +kernel, by decide +kernel⟩
theorem lk_La_83 : zlV R_La 83 y_Mo_join c_Mo_join 10 (some .int) 4 := ⟨zin 428 (by decide +kernel) (by decide +kernel), zin 425 (by decide +kernel) (by decide +kernel), ⟨zin 426 (by decide +kernel) (by decide +kernel), zin 427 (by decide +kernel) (by decide +kernel)⟩, zin 3 (by decide +kernel) (by decide +kernel), by decide +kernel, by decide +kernel, by decide +kernel⟩
theorem lk_Mo_52 : zlV R_Mo 52 y_Mo_begin c_Mo_begin 2 none 0 := ⟨zin 432 (by decide +kernel) (by decide +kernel), zin 429 (by decide +kernel) (by decide +kernel), ⟨zin 431 (by decide +kernel) (by decide +kernel), zinp 15 (by decide +kernel) (by decide +kernel)⟩, zin 3 (by decide +kernel) (by decide +kernel), by decide +kernel, by decide +kernel, by decide +kernel⟩
theorem lk_Mo_55 : zlS R_Mo 55 y_Mo_number c_Mo_number 2 (some .int) 2 := ⟨zin 435 (by decide +kernel) (by decide +kernel), zin 433 (by decide +kernel) (by decide +kernel), zin 434 (by decide +kernel) (by decide +kernel), zin 3 (by decide +kernel) (by decide +kernel), by decide +kernel, by decide +kernel, by decide +kernel⟩
theorem lk_Mo_58 : zlV R_Mo 58 y_Mo_keep c_Mo_keep 6 (some .int) 3 := ⟨zin 439 (by decide +kernel) (by decide +kernel), zin 436 (by decide +kernel) (by decide +kernel), ⟨zin 438 (by decide +kernel) (by decide +kernel), zinp 16 (by decide +kernel) (by decide +kernel)⟩, zin 3 (by decide +kernel) (by decide +kernel), by decide +kernel, by decide +kernel, by decide +kernel⟩
theorem lk_La_86 : zlV R_La 86 y_Mo_narrow c_Mo_narrow 8 (some .int) 3 := ⟨zin 443 (by decide +kernel) (by decide +kernel), zin 440 (by decide +kernel) (by decide +kernel), ⟨zin 441 (by decide +kernel) (by decide +kernel), zin 442 (by decide +kernel) (by decide +kernel)⟩, zin 3 (by decide +kernel) (by decide +kernel), by decide +kernel, by decide +kernel, by decide +kernel⟩
theorem lk_Mo_62 : zlS R_Mo 62 y_Mo_bits c_Mo_bits 3 (some .int) 1 := ⟨zin 446 (by decide +kernel) (by decide +kernel), zin 444 (by decide +kernel) (by decide +kernel), zin 445 (by decide +kernel) (by decide +kernel), zin 3 (by decide +kernel) (by decide +kernel), by decide +kernel, by decide +kernel, by decide +kernel⟩
theorem lk_La_89 : zlV R_La 89 y_Mo_pick c_Mo_pick 6 (some .int) 4 := ⟨zin 450 (by decide +kernel) (by decide +kernel), zin 447 (by decide +kernel) (by decide +kernel), ⟨zin 448 (by decide +kernel) (by decide +kernel), zin 449 (by decide +kernel) (by decide +kernel)⟩, zin 3 (by decide +kernel) (by decide +kernel), by decide +kernel, by decide +kernel, by decide +kernel⟩
theorem lk_La_92 : zlV R_La 92 y_Mo_alter c_Mo_alter 6 (some .int) 4 := ⟨zin 454 (by decide +kernel) (by decide +kernel), zin 451 (by decide +kernel) (by decide +kernel), ⟨zin 452 (by decide +kernel) (by decide +kernel), zin 453 (by decide +kernel) (by decide +kernel)⟩, zin 3 (by decide +kernel) (by decide +kernel), by decide +kernel, by decide +kernel, by decide +kernel⟩
theorem lk_Mo_65 : zlS R_Mo 65 y_Mo_altered c_Mo_altered 3 (some .int) 3 := ⟨zin 457 (by decide +kernel) (by decide +kernel), zin 455 (by decide +kernel) (by decide +kernel), zin 456 (by decide +kernel) (by decide +kernel), zin 3 (by decide +kernel) (by decide +kernel), by decide +kernel, by decide +kernel, by decide +kernel⟩
theorem lk_La_95 : zlV R_La 95 y_Mo_reach c_Mo_reach 8 (some .int) 2 := ⟨zin 461 (by decide +kernel) (by decide +kernel), zin 458 (by decide +kernel) (by decide +kernel), ⟨zin 459 (by decide +kernel) (by decide +kernel), zin 460 (by decide +kernel) (by decide +kernel)⟩, zin 3 (by decide +kernel) (by decide +kernel), by decide +kernel, by decide +kernel, by decide +kernel⟩
theorem lk_La_98 : zlV R_La 98 y_Mo_turn c_Mo_turn 7 (some .int) 2 := ⟨zin 465 (by decide +kernel) (by decide +kernel), zin 462 (by decide +kernel) (by decide +kernel), ⟨zin 463 (by decide +kernel) (by decide +kernel), zin 464 (by decide +kernel) (by decide +kernel)⟩, zin 3 (by decide +kernel) (by decide +kernel), by decide +kernel, by decide +kernel, by decide +kernel⟩
theorem lk_La_101 : zlV R_La 101 y_Mo_about c_Mo_about 10 (some .long) 2 := ⟨zin 469 (by decide +kernel) (by decide +kernel), zin 466 (by decide +kernel) (by decide +kernel), ⟨zin 467 (by decide +kernel) (by decide +kernel), zin 468 (by decide +kernel) (by decide +kernel)⟩, zin 3 (by decide +kernel) (by decide +kernel), by decide +kernel, by decide +kernel, by decide +kernel⟩
theorem lk_La_104 : zlV R_La 104 y_Mo_same c_Mo_same 5 (some .boolean) 2 := ⟨zin 473 (by decide +kernel) (by decide +kernel), zin 470 (by decide +kernel) (by decide +kernel), ⟨zin 471 (by decide +kernel) (by decide +kernel), zin 472 (by decide +kernel) (by decide +kernel)⟩, zin 3 (by decide +kernel) (by decide +kernel), by decide +kernel, by decide +kernel, by decide +kernel⟩
end
section
theorem d_Sh_init_0 : decode c_Sh_init 0 = .ok (.aload_n 0, 1) := by decide +kernel
theorem d_Sh_init_1 : decode c_Sh_init 1 = .ok (.invokespecial 3, 3) := by decide +kernel
theorem d_Sh_init_4 : decode c_Sh_init 4 = .ok (.aload_n 0, 1) := by decide +kernel
theorem d_Sh_init_5 : decode c_Sh_init 5 = .ok (.bipush 8, 2) := by decide +kernel
theorem d_Sh_init_7 : decode c_Sh_init 7 = .ok (.anewarray 9, 3) := by decide +kernel
theorem d_Sh_init_10 : decode c_Sh_init 10 = .ok (.putfield 11, 3) := by decide +kernel
theorem d_Sh_init_13 : decode c_Sh_init 13 = .ok (.iconst 0, 1) := by decide +kernel
theorem d_Sh_init_14 : decode c_Sh_init 14 = .ok (.istore_n 1, 1) := by decide +kernel
theorem d_Sh_init_15 : decode c_Sh_init 15 = .ok (.iload_n 1, 1) := by decide +kernel
theorem d_Sh_init_16 : decode c_Sh_init 16 = .ok (.bipush 8, 2) := by decide +kernel
theorem d_Sh_init_18 : decode c_Sh_init 18 = .ok (.if_icmp .ge 22, 3) := by decide +kernel
theorem d_Sh_init_21 : decode c_Sh_init 21 = .ok (.aload_n 0, 1) := by decide +kernel
theorem d_Sh_init_22 : decode c_Sh_init 22 = .ok (.getfield 11, 3) := by decide +kernel
theorem d_Sh_init_25 : decode c_Sh_init 25 = .ok (.iload_n 1, 1) := by decide +kernel
theorem d_Sh_init_26 : decode c_Sh_init 26 = .ok (.new 9, 3) := by decide +kernel
theorem d_Sh_init_29 : decode c_Sh_init 29 = .ok (.dup, 1) := by decide +kernel
theorem d_Sh_init_30 : decode c_Sh_init 30 = .ok (.invokespecial 15, 3) := by decide +kernel
theorem d_Sh_init_33 : decode c_Sh_init 33 = .ok (.aastore, 1) := by decide +kernel
theorem d_Sh_init_34 : decode c_Sh_init 34 = .ok (.iinc 1 1, 3) := by decide +kernel
theorem d_Sh_init_37 : decode c_Sh_init 37 = .ok (.goto (-22), 3) := by decide +kernel
theorem d_Sh_init_40 : decode c_Sh_init 40 = .ok (.aload_n 0, 1) := by decide +kernel
theorem d_Sh_init_41 : decode c_Sh_init 41 = .ok (.new 9, 3) := by decide +kernel
theorem d_Sh_init_44 : decode c_Sh_init 44 = .ok (.dup, 1) := by decide +kernel
theorem d_Sh_init_45 : decode c_Sh_init 45 = .ok (.invokespecial 15, 3) := by decide +kernel
theorem d_Sh_init_48 : decode c_Sh_init 48 = .ok (.putfield 16, 3) := by decide +kernel
theorem d_Sh_init_51 : decode c_Sh_init 51 = .ok (.aload_n 0, 1) := by decide +kernel
theorem d_Sh_init_52 : decode c_Sh_init 52 = .ok (.bipush 16, 2) := by decide +kernel
theorem d_Sh_init_54 : decode c_Sh_init 54 = .ok (.newarray .int, 2) := by decide +kernel
theorem d_Sh_init_56 : decode c_Sh_init 56 = .ok (.putfield 20, 3) := by decide +kernel
theorem d_Sh_init_59 : decode c_Sh_init 59 = .ok (.return_, 1) := by decide +kernel
theorem d_Rel_init_0 : decode c_Rel_init 0 = .ok (.aload_n 0, 1) := by decide +kernel
theorem d_Rel_init_1 : decode c_Rel_init 1 = .ok (.invokespecial 3, 3) := by decide +kernel
theorem d_Rel_init_4 : decode c_Rel_init 4 = .ok (.aload_n 0, 1) := by decide +kernel
theorem d_Rel_init_5 : decode c_Rel_init 5 = .ok (.sipush 300, 3) := by decide +kernel
theorem d_Rel_init_8 : decode c_Rel_init 8 = .ok (.newarray .int, 2) := by decide +kernel
theorem d_Rel_init_10 : decode c_Rel_init 10 = .ok (.putfield 9, 3) := by decide +kernel
theorem d_Rel_init_13 : decode c_Rel_init 13 = .ok (.aload_n 0, 1) := by decide +kernel
theorem d_Rel_init_14 : decode c_Rel_init 14 = .ok (.sipush 300, 3) := by decide +kernel
theorem d_Rel_init_17 : decode c_Rel_init 17 = .ok (.newarray .int, 2) := by decide +kernel
theorem d_Rel_init_19 : decode c_Rel_init 19 = .ok (.putfield 15, 3) := by decide +kernel
theorem d_Rel_init_22 : decode c_Rel_init 22 = .ok (.aload_n 0, 1) := by decide +kernel
theorem d_Rel_init_23 : decode c_Rel_init 23 = .ok (.iconst 1, 1) := by decide +kernel
theorem d_Rel_init_24 : decode c_Rel_init 24 = .ok (.putfield 18, 3) := by decide +kernel
theorem d_Rel_init_27 : decode c_Rel_init 27 = .ok (.aload_n 0, 1) := by decide +kernel
theorem d_Rel_init_28 : decode c_Rel_init 28 = .ok (.iconst 0, 1) := by decide +kernel
theorem d_Rel_init_29 : decode c_Rel_init 29 = .ok (.putfield 22, 3) := by decide +kernel
theorem d_Rel_init_32 : decode c_Rel_init 32 = .ok (.return_, 1) := by decide +kernel
theorem d_Sh_width_0 : decode c_Sh_width 0 = .ok (.aload_n 0, 1) := by decide +kernel
theorem d_Sh_width_1 : decode c_Sh_width 1 = .ok (.iload_n 1, 1) := by decide +kernel
theorem d_Sh_width_2 : decode c_Sh_width 2 = .ok (.invokevirtual 24, 3) := by decide +kernel
theorem d_Sh_width_5 : decode c_Sh_width 5 = .ok (.astore_n 3, 1) := by decide +kernel
theorem d_Sh_width_6 : decode c_Sh_width 6 = .ok (.iload_n 2, 1) := by decide +kernel
theorem d_Sh_width_7 : decode c_Sh_width 7 = .ok (.iconst 1, 1) := by decide +kernel
theorem d_Sh_width_8 : decode c_Sh_width 8 = .ok (.if_icmp .lt 12, 3) := by decide +kernel
theorem d_Sh_width_11 : decode c_Sh_width 11 = .ok (.iload_n 2, 1) := by decide +kernel
theorem d_Sh_width_12 : decode c_Sh_width 12 = .ok (.iconst 3, 1) := by decide +kernel
theorem d_Sh_width_13 : decode c_Sh_width 13 = .ok (.if_icmp .gt 7, 3) := by decide +kernel
theorem d_Sh_width_16 : decode c_Sh_width 16 = .ok (.iconst 1, 1) := by decide +kernel
theorem d_Sh_width_17 : decode c_Sh_width 17 = .ok (.goto 4, 3) := by decide +kernel
theorem d_Sh_width_20 : decode c_Sh_width 20 = .ok (.iconst 0, 1) := by decide +kernel
theorem d_Sh_width_21 : decode c_Sh_width 21 = .ok (.invokestatic 28, 3) := by decide +kernel
theorem d_Sh_width_24 : decode c_Sh_width 24 = .ok (.aload_n 3, 1) := by decide +kernel
theorem d_Sh_width_25 : decode c_Sh_width 25 = .ok (.getfield 32, 3) := by decide +kernel
theorem d_Sh_width_28 : decode c_Sh_width 28 = .ok (.istore 4, 2) := by decide +kernel
theorem d_Sh_width_30 : decode c_Sh_width 30 = .ok (.aload_n 3, 1) := by decide +kernel
theorem d_Sh_width_31 : decode c_Sh_width 31 = .ok (.iload_n 2, 1) := by decide +kernel
theorem d_Sh_width_32 : decode c_Sh_width 32 = .ok (.invokevirtual 36, 3) := by decide +kernel
theorem d_Sh_width_35 : decode c_Sh_width 35 = .ok (.iload 4, 2) := by decide +kernel
theorem d_Sh_width_37 : decode c_Sh_width 37 = .ok (.ireturn, 1) := by decide +kernel
theorem d_Sh_relationOf_0 : decode c_Sh_relationOf 0 = .ok (.iload_n 1, 1) := by decide +kernel
theorem d_Sh_relationOf_1 : decode c_Sh_relationOf 1 = .ok (.invokestatic 63, 3) := by decide +kernel
theorem d_Sh_relationOf_4 : decode c_Sh_relationOf 4 = .ok (.aload_n 0, 1) := by decide +kernel
theorem d_Sh_relationOf_5 : decode c_Sh_relationOf 5 = .ok (.getfield 11, 3) := by decide +kernel
theorem d_Sh_relationOf_8 : decode c_Sh_relationOf 8 = .ok (.iload_n 1, 1) := by decide +kernel
theorem d_Sh_relationOf_9 : decode c_Sh_relationOf 9 = .ok (.aaload, 1) := by decide +kernel
theorem d_Sh_relationOf_10 : decode c_Sh_relationOf 10 = .ok (.areturn, 1) := by decide +kernel
theorem d_Sh_mustBeRelation_0 : decode c_Sh_mustBeRelation 0 = .ok (.iload_n 0, 1) := by decide +kernel
theorem d_Sh_mustBeRelation_1 : decode c_Sh_mustBeRelation 1 = .ok (.ifCond .lt 9, 3) := by decide +kernel
theorem d_Sh_mustBeRelation_4 : decode c_Sh_mustBeRelation 4 = .ok (.iload_n 0, 1) := by decide +kernel
theorem d_Sh_mustBeRelation_5 : decode c_Sh_mustBeRelation 5 = .ok (.bipush 8, 2) := by decide +kernel
theorem d_Sh_mustBeRelation_7 : decode c_Sh_mustBeRelation 7 = .ok (.if_icmp .lt 11, 3) := by decide +kernel
theorem d_Sh_mustBeRelation_10 : decode c_Sh_mustBeRelation 10 = .ok (.new 57, 3) := by decide +kernel
theorem d_Sh_mustBeRelation_13 : decode c_Sh_mustBeRelation 13 = .ok (.dup, 1) := by decide +kernel
theorem d_Sh_mustBeRelation_14 : decode c_Sh_mustBeRelation 14 = .ok (.invokespecial 59, 3) := by decide +kernel
theorem d_Sh_mustBeRelation_17 : decode c_Sh_mustBeRelation 17 = .ok (.athrow, 1) := by decide +kernel
theorem d_Sh_mustBeRelation_18 : decode c_Sh_mustBeRelation 18 = .ok (.return_, 1) := by decide +kernel
theorem d_Sh_refuseUnless_0 : decode c_Sh_refuseUnless 0 = .ok (.iload_n 0, 1) := by decide +kernel
theorem d_Sh_refuseUnless_1 : decode c_Sh_refuseUnless 1 = .ok (.ifCond .ne 11, 3) := by decide +kernel
theorem d_Sh_refuseUnless_4 : decode c_Sh_refuseUnless 4 = .ok (.new 123, 3) := by decide +kernel
theorem d_Sh_refuseUnless_7 : decode c_Sh_refuseUnless 7 = .ok (.dup, 1) := by decide +kernel
theorem d_Sh_refuseUnless_8 : decode c_Sh_refuseUnless 8 = .ok (.invokespecial 125, 3) := by decide +kernel
theorem d_Sh_refuseUnless_11 : decode c_Sh_refuseUnless 11 = .ok (.athrow, 1) := by decide +kernel
theorem d_Sh_refuseUnless_12 : decode c_Sh_refuseUnless 12 = .ok (.return_, 1) := by decide +kernel
theorem d_Rel_startAnew_0 : decode c_Rel_startAnew 0 = .ok (.aload_n 0, 1) := by decide +kernel
theorem d_Rel_startAnew_1 : decode c_Rel_startAnew 1 = .ok (.iload_n 1, 1) := by decide +kernel
theorem d_Rel_startAnew_2 : decode c_Rel_startAnew 2 = .ok (.putfield 18, 3) := by decide +kernel
theorem d_Rel_startAnew_5 : decode c_Rel_startAnew 5 = .ok (.aload_n 0, 1) := by decide +kernel
theorem d_Rel_startAnew_6 : decode c_Rel_startAnew 6 = .ok (.iconst 0, 1) := by decide +kernel
theorem d_Rel_startAnew_7 : decode c_Rel_startAnew 7 = .ok (.putfield 22, 3) := by decide +kernel
theorem d_Rel_startAnew_10 : decode c_Rel_startAnew 10 = .ok (.return_, 1) := by decide +kernel
theorem d_Sh_put_0 : decode c_Sh_put 0 = .ok (.aload_n 0, 1) := by decide +kernel
theorem d_Sh_put_1 : decode c_Sh_put 1 = .ok (.iload_n 1, 1) := by decide +kernel
theorem d_Sh_put_2 : decode c_Sh_put 2 = .ok (.invokevirtual 24, 3) := by decide +kernel
theorem d_Sh_put_5 : decode c_Sh_put 5 = .ok (.astore 4, 2) := by decide +kernel
theorem d_Sh_put_7 : decode c_Sh_put 7 = .ok (.iload_n 2, 1) := by decide +kernel
theorem d_Sh_put_8 : decode c_Sh_put 8 = .ok (.aload 4, 2) := by decide +kernel
theorem d_Sh_put_10 : decode c_Sh_put 10 = .ok (.getfield 40, 3) := by decide +kernel
theorem d_Sh_put_13 : decode c_Sh_put 13 = .ok (.invokestatic 43, 3) := by decide +kernel
theorem d_Sh_put_16 : decode c_Sh_put 16 = .ok (.invokestatic 28, 3) := by decide +kernel
theorem d_Sh_put_19 : decode c_Sh_put 19 = .ok (.aload 4, 2) := by decide +kernel
theorem d_Sh_put_21 : decode c_Sh_put 21 = .ok (.iload_n 2, 1) := by decide +kernel
theorem d_Sh_put_22 : decode c_Sh_put 22 = .ok (.iload_n 3, 1) := by decide +kernel
theorem d_Sh_put_23 : decode c_Sh_put 23 = .ok (.invokevirtual 47, 3) := by decide +kernel
theorem d_Sh_put_26 : decode c_Sh_put 26 = .ok (.invokestatic 50, 3) := by decide +kernel
theorem d_Sh_put_29 : decode c_Sh_put 29 = .ok (.aload 4, 2) := by decide +kernel
theorem d_Sh_put_31 : decode c_Sh_put 31 = .ok (.iload_n 2, 1) := by decide +kernel
theorem d_Sh_put_32 : decode c_Sh_put 32 = .ok (.invokevirtual 53, 3) := by decide +kernel
theorem d_Sh_put_35 : decode c_Sh_put 35 = .ok (.ireturn, 1) := by decide +kernel
theorem d_Sh_isTuple_0 : decode c_Sh_isTuple 0 = .ok (.iload_n 0, 1) := by decide +kernel
theorem d_Sh_isTuple_1 : decode c_Sh_isTuple 1 = .ok (.ifCond .lt 27, 3) := by decide +kernel
theorem d_Sh_isTuple_4 : decode c_Sh_isTuple 4 = .ok (.iload_n 0, 1) := by decide +kernel
theorem d_Sh_isTuple_5 : decode c_Sh_isTuple 5 = .ok (.sipush 4096, 3) := by decide +kernel
theorem d_Sh_isTuple_8 : decode c_Sh_isTuple 8 = .ok (.if_icmp .ge 20, 3) := by decide +kernel
theorem d_Sh_isTuple_11 : decode c_Sh_isTuple 11 = .ok (.iload_n 0, 1) := by decide +kernel
theorem d_Sh_isTuple_12 : decode c_Sh_isTuple 12 = .ok (.iconst 1, 1) := by decide +kernel
theorem d_Sh_isTuple_13 : decode c_Sh_isTuple 13 = .ok (.iload_n 1, 1) := by decide +kernel
theorem d_Sh_isTuple_14 : decode c_Sh_isTuple 14 = .ok (.invokestatic 132, 3) := by decide +kernel
theorem d_Sh_isTuple_17 : decode c_Sh_isTuple 17 = .ok (.ishl, 1) := by decide +kernel
theorem d_Sh_isTuple_18 : decode c_Sh_isTuple 18 = .ok (.iconst 1, 1) := by decide +kernel
theorem d_Sh_isTuple_19 : decode c_Sh_isTuple 19 = .ok (.isub, 1) := by decide +kernel
theorem d_Sh_isTuple_20 : decode c_Sh_isTuple 20 = .ok (.iand, 1) := by decide +kernel
theorem d_Sh_isTuple_21 : decode c_Sh_isTuple 21 = .ok (.ifCond .ne 7, 3) := by decide +kernel
theorem d_Sh_isTuple_24 : decode c_Sh_isTuple 24 = .ok (.iconst 1, 1) := by decide +kernel
theorem d_Sh_isTuple_25 : decode c_Sh_isTuple 25 = .ok (.goto 4, 3) := by decide +kernel
theorem d_Sh_isTuple_28 : decode c_Sh_isTuple 28 = .ok (.iconst 0, 1) := by decide +kernel
theorem d_Sh_isTuple_29 : decode c_Sh_isTuple 29 = .ok (.ireturn, 1) := by decide +kernel
theorem d_Sh_bitsBehind_0 : decode c_Sh_bitsBehind 0 = .ok (.bipush 12, 2) := by decide +kernel
theorem d_Sh_bitsBehind_2 : decode c_Sh_bitsBehind 2 = .ok (.iconst 4, 1) := by decide +kernel
theorem d_Sh_bitsBehind_3 : decode c_Sh_bitsBehind 3 = .ok (.iload_n 0, 1) := by decide +kernel
theorem d_Sh_bitsBehind_4 : decode c_Sh_bitsBehind 4 = .ok (.imul, 1) := by decide +kernel
theorem d_Sh_bitsBehind_5 : decode c_Sh_bitsBehind 5 = .ok (.isub, 1) := by decide +kernel
theorem d_Sh_bitsBehind_6 : decode c_Sh_bitsBehind 6 = .ok (.ireturn, 1) := by decide +kernel
theorem d_Rel_raise_0 : decode c_Rel_raise 0 = .ok (.aload_n 0, 1) := by decide +kernel
theorem d_Rel_raise_1 : decode c_Rel_raise 1 = .ok (.iload_n 1, 1) := by decide +kernel
theorem d_Rel_raise_2 : decode c_Rel_raise 2 = .ok (.invokevirtual 25, 3) := by decide +kernel
theorem d_Rel_raise_5 : decode c_Rel_raise 5 = .ok (.istore_n 3, 1) := by decide +kernel
theorem d_Rel_raise_6 : decode c_Rel_raise 6 = .ok (.aload_n 0, 1) := by decide +kernel
theorem d_Rel_raise_7 : decode c_Rel_raise 7 = .ok (.iload_n 3, 1) := by decide +kernel
theorem d_Rel_raise_8 : decode c_Rel_raise 8 = .ok (.iload_n 1, 1) := by decide +kernel
theorem d_Rel_raise_9 : decode c_Rel_raise 9 = .ok (.invokevirtual 29, 3) := by decide +kernel
theorem d_Rel_raise_12 : decode c_Rel_raise 12 = .ok (.ifCond .eq 11, 3) := by decide +kernel
theorem d_Rel_raise_15 : decode c_Rel_raise 15 = .ok (.aload_n 0, 1) := by decide +kernel
theorem d_Rel_raise_16 : decode c_Rel_raise 16 = .ok (.iload_n 3, 1) := by decide +kernel
theorem d_Rel_raise_17 : decode c_Rel_raise 17 = .ok (.iload_n 2, 1) := by decide +kernel
theorem d_Rel_raise_18 : decode c_Rel_raise 18 = .ok (.invokevirtual 33, 3) := by decide +kernel
theorem d_Rel_raise_21 : decode c_Rel_raise 21 = .ok (.iconst 1, 1) := by decide +kernel
theorem d_Rel_raise_22 : decode c_Rel_raise 22 = .ok (.ireturn, 1) := by decide +kernel
theorem d_Rel_raise_23 : decode c_Rel_raise 23 = .ok (.iload_n 2, 1) := by decide +kernel
theorem d_Rel_raise_24 : decode c_Rel_raise 24 = .ok (.ifCond .ne 5, 3) := by decide +kernel
theorem d_Rel_raise_27 : decode c_Rel_raise 27 = .ok (.iconst 1, 1) := by decide +kernel
theorem d_Rel_raise_28 : decode c_Rel_raise 28 = .ok (.ireturn, 1) := by decide +kernel
theorem d_Rel_raise_29 : decode c_Rel_raise 29 = .ok (.aload_n 0, 1) := by decide +kernel
theorem d_Rel_raise_30 : decode c_Rel_raise 30 = .ok (.getfield 22, 3) := by decide +kernel
theorem d_Rel_raise_33 : decode c_Rel_raise 33 = .ok (.sipush 300, 3) := by decide +kernel
theorem d_Rel_raise_36 : decode c_Rel_raise 36 = .ok (.if_icmp .lt 5, 3) := by decide +kernel
theorem d_Rel_raise_39 : decode c_Rel_raise 39 = .ok (.iconst 0, 1) := by decide +kernel
theorem d_Rel_raise_40 : decode c_Rel_raise 40 = .ok (.ireturn, 1) := by decide +kernel
theorem d_Rel_raise_41 : decode c_Rel_raise 41 = .ok (.aload_n 0, 1) := by decide +kernel
theorem d_Rel_raise_42 : decode c_Rel_raise 42 = .ok (.iload_n 3, 1) := by decide +kernel
theorem d_Rel_raise_43 : decode c_Rel_raise 43 = .ok (.iload_n 1, 1) := by decide +kernel
theorem d_Rel_raise_44 : decode c_Rel_raise 44 = .ok (.iload_n 2, 1) := by decide +kernel
theorem d_Rel_raise_45 : decode c_Rel_raise 45 = .ok (.invokevirtual 37, 3) := by decide +kernel
theorem d_Rel_raise_48 : decode c_Rel_raise 48 = .ok (.iconst 1, 1) := by decide +kernel
theorem d_Rel_raise_49 : decode c_Rel_raise 49 = .ok (.ireturn, 1) := by decide +kernel
theorem d_Rel_placeOf_0 : decode c_Rel_placeOf 0 = .ok (.iconst 0, 1) := by decide +kernel
theorem d_Rel_placeOf_1 : decode c_Rel_placeOf 1 = .ok (.istore_n 2, 1) := by decide +kernel
theorem d_Rel_placeOf_2 : decode c_Rel_placeOf 2 = .ok (.sipush 256, 3) := by decide +kernel
theorem d_Rel_placeOf_5 : decode c_Rel_placeOf 5 = .ok (.istore_n 3, 1) := by decide +kernel
theorem d_Rel_placeOf_6 : decode c_Rel_placeOf 6 = .ok (.iload_n 3, 1) := by decide +kernel
theorem d_Rel_placeOf_7 : decode c_Rel_placeOf 7 = .ok (.ifCond .le 38, 3) := by decide +kernel
theorem d_Rel_placeOf_10 : decode c_Rel_placeOf 10 = .ok (.iload_n 2, 1) := by decide +kernel
theorem d_Rel_placeOf_11 : decode c_Rel_placeOf 11 = .ok (.iload_n 3, 1) := by decide +kernel
theorem d_Rel_placeOf_12 : decode c_Rel_placeOf 12 = .ok (.iadd, 1) := by decide +kernel
theorem d_Rel_placeOf_13 : decode c_Rel_placeOf 13 = .ok (.aload_n 0, 1) := by decide +kernel
theorem d_Rel_placeOf_14 : decode c_Rel_placeOf 14 = .ok (.getfield 22, 3) := by decide +kernel
theorem d_Rel_placeOf_17 : decode c_Rel_placeOf 17 = .ok (.if_icmp .gt 21, 3) := by decide +kernel
theorem d_Rel_placeOf_20 : decode c_Rel_placeOf 20 = .ok (.aload_n 0, 1) := by decide +kernel
theorem d_Rel_placeOf_21 : decode c_Rel_placeOf 21 = .ok (.getfield 9, 3) := by decide +kernel
theorem d_Rel_placeOf_24 : decode c_Rel_placeOf 24 = .ok (.iload_n 2, 1) := by decide +kernel
theorem d_Rel_placeOf_25 : decode c_Rel_placeOf 25 = .ok (.iload_n 3, 1) := by decide +kernel
theorem d_Rel_placeOf_26 : decode c_Rel_placeOf 26 = .ok (.iadd, 1) := by decide +kernel
theorem d_Rel_placeOf_27 : decode c_Rel_placeOf 27 = .ok (.iconst 1, 1) := by decide +kernel
theorem d_Rel_placeOf_28 : decode c_Rel_placeOf 28 = .ok (.isub, 1) := by decide +kernel
theorem d_Rel_placeOf_29 : decode c_Rel_placeOf 29 = .ok (.iaload, 1) := by decide +kernel
theorem d_Rel_placeOf_30 : decode c_Rel_placeOf 30 = .ok (.iload_n 1, 1) := by decide +kernel
theorem d_Rel_placeOf_31 : decode c_Rel_placeOf 31 = .ok (.if_icmp .ge 7, 3) := by decide +kernel
theorem d_Rel_placeOf_34 : decode c_Rel_placeOf 34 = .ok (.iload_n 2, 1) := by decide +kernel
theorem d_Rel_placeOf_35 : decode c_Rel_placeOf 35 = .ok (.iload_n 3, 1) := by decide +kernel
theorem d_Rel_placeOf_36 : decode c_Rel_placeOf 36 = .ok (.iadd, 1) := by decide +kernel
theorem d_Rel_placeOf_37 : decode c_Rel_placeOf 37 = .ok (.istore_n 2, 1) := by decide +kernel
theorem d_Rel_placeOf_38 : decode c_Rel_placeOf 38 = .ok (.iload_n 3, 1) := by decide +kernel
theorem d_Rel_placeOf_39 : decode c_Rel_placeOf 39 = .ok (.iconst 2, 1) := by decide +kernel
theorem d_Rel_placeOf_40 : decode c_Rel_placeOf 40 = .ok (.idiv, 1) := by decide +kernel
theorem d_Rel_placeOf_41 : decode c_Rel_placeOf 41 = .ok (.istore_n 3, 1) := by decide +kernel
theorem d_Rel_placeOf_42 : decode c_Rel_placeOf 42 = .ok (.goto (-36), 3) := by decide +kernel
theorem d_Rel_placeOf_45 : decode c_Rel_placeOf 45 = .ok (.iload_n 2, 1) := by decide +kernel
theorem d_Rel_placeOf_46 : decode c_Rel_placeOf 46 = .ok (.ireturn, 1) := by decide +kernel
theorem d_Rel_holdsAt_0 : decode c_Rel_holdsAt 0 = .ok (.iload_n 1, 1) := by decide +kernel
theorem d_Rel_holdsAt_1 : decode c_Rel_holdsAt 1 = .ok (.aload_n 0, 1) := by decide +kernel
theorem d_Rel_holdsAt_2 : decode c_Rel_holdsAt 2 = .ok (.getfield 22, 3) := by decide +kernel
theorem d_Rel_holdsAt_5 : decode c_Rel_holdsAt 5 = .ok (.if_icmp .ge 17, 3) := by decide +kernel
theorem d_Rel_holdsAt_8 : decode c_Rel_holdsAt 8 = .ok (.aload_n 0, 1) := by decide +kernel
theorem d_Rel_holdsAt_9 : decode c_Rel_holdsAt 9 = .ok (.getfield 9, 3) := by decide +kernel
theorem d_Rel_holdsAt_12 : decode c_Rel_holdsAt 12 = .ok (.iload_n 1, 1) := by decide +kernel
theorem d_Rel_holdsAt_13 : decode c_Rel_holdsAt 13 = .ok (.iaload, 1) := by decide +kernel
theorem d_Rel_holdsAt_14 : decode c_Rel_holdsAt 14 = .ok (.iload_n 2, 1) := by decide +kernel
theorem d_Rel_holdsAt_15 : decode c_Rel_holdsAt 15 = .ok (.if_icmp .ne 7, 3) := by decide +kernel
theorem d_Rel_holdsAt_18 : decode c_Rel_holdsAt 18 = .ok (.iconst 1, 1) := by decide +kernel
theorem d_Rel_holdsAt_19 : decode c_Rel_holdsAt 19 = .ok (.goto 4, 3) := by decide +kernel
theorem d_Rel_holdsAt_22 : decode c_Rel_holdsAt 22 = .ok (.iconst 0, 1) := by decide +kernel
theorem d_Rel_holdsAt_23 : decode c_Rel_holdsAt 23 = .ok (.ireturn, 1) := by decide +kernel
theorem d_Rel_raiseAt_0 : decode c_Rel_raiseAt 0 = .ok (.aload_n 0, 1) := by decide +kernel
theorem d_Rel_raiseAt_1 : decode c_Rel_raiseAt 1 = .ok (.getfield 15, 3) := by decide +kernel
theorem d_Rel_raiseAt_4 : decode c_Rel_raiseAt 4 = .ok (.iload_n 1, 1) := by decide +kernel
theorem d_Rel_raiseAt_5 : decode c_Rel_raiseAt 5 = .ok (.dup2, 1) := by decide +kernel
theorem d_Rel_raiseAt_6 : decode c_Rel_raiseAt 6 = .ok (.iaload, 1) := by decide +kernel
theorem d_Rel_raiseAt_7 : decode c_Rel_raiseAt 7 = .ok (.iload_n 2, 1) := by decide +kernel
theorem d_Rel_raiseAt_8 : decode c_Rel_raiseAt 8 = .ok (.iadd, 1) := by decide +kernel
theorem d_Rel_raiseAt_9 : decode c_Rel_raiseAt 9 = .ok (.iastore, 1) := by decide +kernel
theorem d_Rel_raiseAt_10 : decode c_Rel_raiseAt 10 = .ok (.aload_n 0, 1) := by decide +kernel
theorem d_Rel_raiseAt_11 : decode c_Rel_raiseAt 11 = .ok (.getfield 15, 3) := by decide +kernel
theorem d_Rel_raiseAt_14 : decode c_Rel_raiseAt 14 = .ok (.iload_n 1, 1) := by decide +kernel
theorem d_Rel_raiseAt_15 : decode c_Rel_raiseAt 15 = .ok (.iaload, 1) := by decide +kernel
theorem d_Rel_raiseAt_16 : decode c_Rel_raiseAt 16 = .ok (.ifCond .ne 8, 3) := by decide +kernel
theorem d_Rel_raiseAt_19 : decode c_Rel_raiseAt 19 = .ok (.aload_n 0, 1) := by decide +kernel
theorem d_Rel_raiseAt_20 : decode c_Rel_raiseAt 20 = .ok (.iload_n 1, 1) := by decide +kernel
theorem d_Rel_raiseAt_21 : decode c_Rel_raiseAt 21 = .ok (.invokevirtual 55, 3) := by decide +kernel
theorem d_Rel_raiseAt_24 : decode c_Rel_raiseAt 24 = .ok (.return_, 1) := by decide +kernel
theorem d_Rel_removeAt_0 : decode c_Rel_removeAt 0 = .ok (.aload_n 0, 1) := by decide +kernel
theorem d_Rel_removeAt_1 : decode c_Rel_removeAt 1 = .ok (.dup, 1) := by decide +kernel
theorem d_Rel_removeAt_2 : decode c_Rel_removeAt 2 = .ok (.getfield 22, 3) := by decide +kernel
theorem d_Rel_removeAt_5 : decode c_Rel_removeAt 5 = .ok (.iconst 1, 1) := by decide +kernel
theorem d_Rel_removeAt_6 : decode c_Rel_removeAt 6 = .ok (.isub, 1) := by decide +kernel
theorem d_Rel_removeAt_7 : decode c_Rel_removeAt 7 = .ok (.putfield 22, 3) := by decide +kernel
theorem d_Rel_removeAt_10 : decode c_Rel_removeAt 10 = .ok (.aload_n 0, 1) := by decide +kernel
theorem d_Rel_removeAt_11 : decode c_Rel_removeAt 11 = .ok (.getfield 9, 3) := by decide +kernel
theorem d_Rel_removeAt_14 : decode c_Rel_removeAt 14 = .ok (.iload_n 1, 1) := by decide +kernel
theorem d_Rel_removeAt_15 : decode c_Rel_removeAt 15 = .ok (.iconst 1, 1) := by decide +kernel
theorem d_Rel_removeAt_16 : decode c_Rel_removeAt 16 = .ok (.iadd, 1) := by decide +kernel
theorem d_Rel_removeAt_17 : decode c_Rel_removeAt 17 = .ok (.aload_n 0, 1) := by decide +kernel
theorem d_Rel_removeAt_18 : decode c_Rel_removeAt 18 = .ok (.getfield 9, 3) := by decide +kernel
theorem d_Rel_removeAt_21 : decode c_Rel_removeAt 21 = .ok (.iload_n 1, 1) := by decide +kernel
theorem d_Rel_removeAt_22 : decode c_Rel_removeAt 22 = .ok (.aload_n 0, 1) := by decide +kernel
theorem d_Rel_removeAt_23 : decode c_Rel_removeAt 23 = .ok (.getfield 22, 3) := by decide +kernel
theorem d_Rel_removeAt_26 : decode c_Rel_removeAt 26 = .ok (.iload_n 1, 1) := by decide +kernel
theorem d_Rel_removeAt_27 : decode c_Rel_removeAt 27 = .ok (.isub, 1) := by decide +kernel
theorem d_Rel_removeAt_28 : decode c_Rel_removeAt 28 = .ok (.invokestatic 59, 3) := by decide +kernel
theorem d_Rel_removeAt_31 : decode c_Rel_removeAt 31 = .ok (.aload_n 0, 1) := by decide +kernel
theorem d_Rel_removeAt_32 : decode c_Rel_removeAt 32 = .ok (.getfield 15, 3) := by decide +kernel
theorem d_Rel_removeAt_35 : decode c_Rel_removeAt 35 = .ok (.iload_n 1, 1) := by decide +kernel
theorem d_Rel_removeAt_36 : decode c_Rel_removeAt 36 = .ok (.iconst 1, 1) := by decide +kernel
theorem d_Rel_removeAt_37 : decode c_Rel_removeAt 37 = .ok (.iadd, 1) := by decide +kernel
theorem d_Rel_removeAt_38 : decode c_Rel_removeAt 38 = .ok (.aload_n 0, 1) := by decide +kernel
theorem d_Rel_removeAt_39 : decode c_Rel_removeAt 39 = .ok (.getfield 15, 3) := by decide +kernel
theorem d_Rel_removeAt_42 : decode c_Rel_removeAt 42 = .ok (.iload_n 1, 1) := by decide +kernel
theorem d_Rel_removeAt_43 : decode c_Rel_removeAt 43 = .ok (.aload_n 0, 1) := by decide +kernel
theorem d_Rel_removeAt_44 : decode c_Rel_removeAt 44 = .ok (.getfield 22, 3) := by decide +kernel
theorem d_Rel_removeAt_47 : decode c_Rel_removeAt 47 = .ok (.iload_n 1, 1) := by decide +kernel
theorem d_Rel_removeAt_48 : decode c_Rel_removeAt 48 = .ok (.isub, 1) := by decide +kernel
theorem d_Rel_removeAt_49 : decode c_Rel_removeAt 49 = .ok (.invokestatic 59, 3) := by decide +kernel
theorem d_Rel_removeAt_52 : decode c_Rel_removeAt 52 = .ok (.return_, 1) := by decide +kernel
theorem d_Rel_insertAt_0 : decode c_Rel_insertAt 0 = .ok (.aload_n 0, 1) := by decide +kernel
theorem d_Rel_insertAt_1 : decode c_Rel_insertAt 1 = .ok (.getfield 9, 3) := by decide +kernel
theorem d_Rel_insertAt_4 : decode c_Rel_insertAt 4 = .ok (.iload_n 1, 1) := by decide +kernel
theorem d_Rel_insertAt_5 : decode c_Rel_insertAt 5 = .ok (.aload_n 0, 1) := by decide +kernel
theorem d_Rel_insertAt_6 : decode c_Rel_insertAt 6 = .ok (.getfield 9, 3) := by decide +kernel
theorem d_Rel_insertAt_9 : decode c_Rel_insertAt 9 = .ok (.iload_n 1, 1) := by decide +kernel
theorem d_Rel_insertAt_10 : decode c_Rel_insertAt 10 = .ok (.iconst 1, 1) := by decide +kernel
theorem d_Rel_insertAt_11 : decode c_Rel_insertAt 11 = .ok (.iadd, 1) := by decide +kernel
theorem d_Rel_insertAt_12 : decode c_Rel_insertAt 12 = .ok (.aload_n 0, 1) := by decide +kernel
theorem d_Rel_insertAt_13 : decode c_Rel_insertAt 13 = .ok (.getfield 22, 3) := by decide +kernel
theorem d_Rel_insertAt_16 : decode c_Rel_insertAt 16 = .ok (.iload_n 1, 1) := by decide +kernel
theorem d_Rel_insertAt_17 : decode c_Rel_insertAt 17 = .ok (.isub, 1) := by decide +kernel
theorem d_Rel_insertAt_18 : decode c_Rel_insertAt 18 = .ok (.invokestatic 59, 3) := by decide +kernel
theorem d_Rel_insertAt_21 : decode c_Rel_insertAt 21 = .ok (.aload_n 0, 1) := by decide +kernel
theorem d_Rel_insertAt_22 : decode c_Rel_insertAt 22 = .ok (.getfield 15, 3) := by decide +kernel
theorem d_Rel_insertAt_25 : decode c_Rel_insertAt 25 = .ok (.iload_n 1, 1) := by decide +kernel
theorem d_Rel_insertAt_26 : decode c_Rel_insertAt 26 = .ok (.aload_n 0, 1) := by decide +kernel
theorem d_Rel_insertAt_27 : decode c_Rel_insertAt 27 = .ok (.getfield 15, 3) := by decide +kernel
theorem d_Rel_insertAt_30 : decode c_Rel_insertAt 30 = .ok (.iload_n 1, 1) := by decide +kernel
theorem d_Rel_insertAt_31 : decode c_Rel_insertAt 31 = .ok (.iconst 1, 1) := by decide +kernel
theorem d_Rel_insertAt_32 : decode c_Rel_insertAt 32 = .ok (.iadd, 1) := by decide +kernel
theorem d_Rel_insertAt_33 : decode c_Rel_insertAt 33 = .ok (.aload_n 0, 1) := by decide +kernel
theorem d_Rel_insertAt_34 : decode c_Rel_insertAt 34 = .ok (.getfield 22, 3) := by decide +kernel
theorem d_Rel_insertAt_37 : decode c_Rel_insertAt 37 = .ok (.iload_n 1, 1) := by decide +kernel
theorem d_Rel_insertAt_38 : decode c_Rel_insertAt 38 = .ok (.isub, 1) := by decide +kernel
theorem d_Rel_insertAt_39 : decode c_Rel_insertAt 39 = .ok (.invokestatic 59, 3) := by decide +kernel
theorem d_Rel_insertAt_42 : decode c_Rel_insertAt 42 = .ok (.aload_n 0, 1) := by decide +kernel
theorem d_Rel_insertAt_43 : decode c_Rel_insertAt 43 = .ok (.getfield 9, 3) := by decide +kernel
theorem d_Rel_insertAt_46 : decode c_Rel_insertAt 46 = .ok (.iload_n 1, 1) := by decide +kernel
theorem d_Rel_insertAt_47 : decode c_Rel_insertAt 47 = .ok (.iload_n 2, 1) := by decide +kernel
theorem d_Rel_insertAt_48 : decode c_Rel_insertAt 48 = .ok (.iastore, 1) := by decide +kernel
theorem d_Rel_insertAt_49 : decode c_Rel_insertAt 49 = .ok (.aload_n 0, 1) := by decide +kernel
theorem d_Rel_insertAt_50 : decode c_Rel_insertAt 50 = .ok (.getfield 15, 3) := by decide +kernel
theorem d_Rel_insertAt_53 : decode c_Rel_insertAt 53 = .ok (.iload_n 1, 1) := by decide +kernel
theorem d_Rel_insertAt_54 : decode c_Rel_insertAt 54 = .ok (.iload_n 3, 1) := by decide +kernel
theorem d_Rel_insertAt_55 : decode c_Rel_insertAt 55 = .ok (.iastore, 1) := by decide +kernel
theorem d_Rel_insertAt_56 : decode c_Rel_insertAt 56 = .ok (.aload_n 0, 1) := by decide +kernel
theorem d_Rel_insertAt_57 : decode c_Rel_insertAt 57 = .ok (.dup, 1) := by decide +kernel
theorem d_Rel_insertAt_58 : decode c_Rel_insertAt 58 = .ok (.getfield 22, 3) := by decide +kernel
theorem d_Rel_insertAt_61 : decode c_Rel_insertAt 61 = .ok (.iconst 1, 1) := by decide +kernel
theorem d_Rel_insertAt_62 : decode c_Rel_insertAt 62 = .ok (.iadd, 1) := by decide +kernel
theorem d_Rel_insertAt_63 : decode c_Rel_insertAt 63 = .ok (.putfield 22, 3) := by decide +kernel
theorem d_Rel_insertAt_66 : decode c_Rel_insertAt 66 = .ok (.return_, 1) := by decide +kernel
theorem d_Sh_refuseIfFull_0 : decode c_Sh_refuseIfFull 0 = .ok (.iload_n 0, 1) := by decide +kernel
theorem d_Sh_refuseIfFull_1 : decode c_Sh_refuseIfFull 1 = .ok (.ifCond .ne 11, 3) := by decide +kernel
theorem d_Sh_refuseIfFull_4 : decode c_Sh_refuseIfFull 4 = .ok (.new 126, 3) := by decide +kernel
theorem d_Sh_refuseIfFull_7 : decode c_Sh_refuseIfFull 7 = .ok (.dup, 1) := by decide +kernel
theorem d_Sh_refuseIfFull_8 : decode c_Sh_refuseIfFull 8 = .ok (.invokespecial 128, 3) := by decide +kernel
theorem d_Sh_refuseIfFull_11 : decode c_Sh_refuseIfFull 11 = .ok (.athrow, 1) := by decide +kernel
theorem d_Sh_refuseIfFull_12 : decode c_Sh_refuseIfFull 12 = .ok (.return_, 1) := by decide +kernel
theorem d_Rel_countOf_0 : decode c_Rel_countOf 0 = .ok (.aload_n 0, 1) := by decide +kernel
theorem d_Rel_countOf_1 : decode c_Rel_countOf 1 = .ok (.iload_n 1, 1) := by decide +kernel
theorem d_Rel_countOf_2 : decode c_Rel_countOf 2 = .ok (.invokevirtual 25, 3) := by decide +kernel
theorem d_Rel_countOf_5 : decode c_Rel_countOf 5 = .ok (.istore_n 2, 1) := by decide +kernel
theorem d_Rel_countOf_6 : decode c_Rel_countOf 6 = .ok (.aload_n 0, 1) := by decide +kernel
theorem d_Rel_countOf_7 : decode c_Rel_countOf 7 = .ok (.iload_n 2, 1) := by decide +kernel
theorem d_Rel_countOf_8 : decode c_Rel_countOf 8 = .ok (.iload_n 1, 1) := by decide +kernel
theorem d_Rel_countOf_9 : decode c_Rel_countOf 9 = .ok (.invokevirtual 29, 3) := by decide +kernel
theorem d_Rel_countOf_12 : decode c_Rel_countOf 12 = .ok (.ifCond .eq 12, 3) := by decide +kernel
theorem d_Rel_countOf_15 : decode c_Rel_countOf 15 = .ok (.aload_n 0, 1) := by decide +kernel
theorem d_Rel_countOf_16 : decode c_Rel_countOf 16 = .ok (.getfield 15, 3) := by decide +kernel
theorem d_Rel_countOf_19 : decode c_Rel_countOf 19 = .ok (.iload_n 2, 1) := by decide +kernel
theorem d_Rel_countOf_20 : decode c_Rel_countOf 20 = .ok (.iaload, 1) := by decide +kernel
theorem d_Rel_countOf_21 : decode c_Rel_countOf 21 = .ok (.goto 4, 3) := by decide +kernel
theorem d_Rel_countOf_24 : decode c_Rel_countOf 24 = .ok (.iconst 0, 1) := by decide +kernel
theorem d_Rel_countOf_25 : decode c_Rel_countOf 25 = .ok (.ireturn, 1) := by decide +kernel
theorem d_Sh_count_0 : decode c_Sh_count 0 = .ok (.aload_n 0, 1) := by decide +kernel
theorem d_Sh_count_1 : decode c_Sh_count 1 = .ok (.iload_n 1, 1) := by decide +kernel
theorem d_Sh_count_2 : decode c_Sh_count 2 = .ok (.invokevirtual 24, 3) := by decide +kernel
theorem d_Sh_count_5 : decode c_Sh_count 5 = .ok (.astore_n 3, 1) := by decide +kernel
theorem d_Sh_count_6 : decode c_Sh_count 6 = .ok (.iload_n 2, 1) := by decide +kernel
theorem d_Sh_count_7 : decode c_Sh_count 7 = .ok (.aload_n 3, 1) := by decide +kernel
theorem d_Sh_count_8 : decode c_Sh_count 8 = .ok (.getfield 40, 3) := by decide +kernel
theorem d_Sh_count_11 : decode c_Sh_count 11 = .ok (.invokestatic 43, 3) := by decide +kernel
theorem d_Sh_count_14 : decode c_Sh_count 14 = .ok (.invokestatic 28, 3) := by decide +kernel
theorem d_Sh_count_17 : decode c_Sh_count 17 = .ok (.aload_n 3, 1) := by decide +kernel
theorem d_Sh_count_18 : decode c_Sh_count 18 = .ok (.iload_n 2, 1) := by decide +kernel
theorem d_Sh_count_19 : decode c_Sh_count 19 = .ok (.invokevirtual 53, 3) := by decide +kernel
theorem d_Sh_count_22 : decode c_Sh_count 22 = .ok (.ireturn, 1) := by decide +kernel
theorem d_Sh_at_0 : decode c_Sh_at 0 = .ok (.aload_n 0, 1) := by decide +kernel
theorem d_Sh_at_1 : decode c_Sh_at 1 = .ok (.iload_n 1, 1) := by decide +kernel
theorem d_Sh_at_2 : decode c_Sh_at 2 = .ok (.invokevirtual 24, 3) := by decide +kernel
theorem d_Sh_at_5 : decode c_Sh_at 5 = .ok (.astore_n 3, 1) := by decide +kernel
theorem d_Sh_at_6 : decode c_Sh_at 6 = .ok (.iload_n 2, 1) := by decide +kernel
theorem d_Sh_at_7 : decode c_Sh_at 7 = .ok (.ifCond .lt 11, 3) := by decide +kernel
theorem d_Sh_at_10 : decode c_Sh_at 10 = .ok (.iload_n 2, 1) := by decide +kernel
theorem d_Sh_at_11 : decode c_Sh_at 11 = .ok (.aload_n 3, 1) := by decide +kernel
theorem d_Sh_at_12 : decode c_Sh_at 12 = .ok (.getfield 32, 3) := by decide +kernel
theorem d_Sh_at_15 : decode c_Sh_at 15 = .ok (.if_icmp .lt 11, 3) := by decide +kernel
theorem d_Sh_at_18 : decode c_Sh_at 18 = .ok (.new 57, 3) := by decide +kernel
theorem d_Sh_at_21 : decode c_Sh_at 21 = .ok (.dup, 1) := by decide +kernel
theorem d_Sh_at_22 : decode c_Sh_at 22 = .ok (.invokespecial 59, 3) := by decide +kernel
theorem d_Sh_at_25 : decode c_Sh_at 25 = .ok (.athrow, 1) := by decide +kernel
theorem d_Sh_at_26 : decode c_Sh_at 26 = .ok (.aload_n 3, 1) := by decide +kernel
theorem d_Sh_at_27 : decode c_Sh_at 27 = .ok (.getfield 60, 3) := by decide +kernel
theorem d_Sh_at_30 : decode c_Sh_at 30 = .ok (.iload_n 2, 1) := by decide +kernel
theorem d_Sh_at_31 : decode c_Sh_at 31 = .ok (.iaload, 1) := by decide +kernel
theorem d_Sh_at_32 : decode c_Sh_at 32 = .ok (.ireturn, 1) := by decide +kernel
theorem d_Sh_join_0 : decode c_Sh_join 0 = .ok (.iload_n 1, 1) := by decide +kernel
theorem d_Sh_join_1 : decode c_Sh_join 1 = .ok (.invokestatic 63, 3) := by decide +kernel
theorem d_Sh_join_4 : decode c_Sh_join 4 = .ok (.aload_n 0, 1) := by decide +kernel
theorem d_Sh_join_5 : decode c_Sh_join 5 = .ok (.iload_n 2, 1) := by decide +kernel
theorem d_Sh_join_6 : decode c_Sh_join 6 = .ok (.invokevirtual 24, 3) := by decide +kernel
theorem d_Sh_join_9 : decode c_Sh_join 9 = .ok (.astore 5, 2) := by decide +kernel
theorem d_Sh_join_11 : decode c_Sh_join 11 = .ok (.aload_n 0, 1) := by decide +kernel
theorem d_Sh_join_12 : decode c_Sh_join 12 = .ok (.iload_n 3, 1) := by decide +kernel
theorem d_Sh_join_13 : decode c_Sh_join 13 = .ok (.invokevirtual 24, 3) := by decide +kernel
theorem d_Sh_join_16 : decode c_Sh_join 16 = .ok (.astore 6, 2) := by decide +kernel
theorem d_Sh_join_18 : decode c_Sh_join 18 = .ok (.iload 4, 2) := by decide +kernel
theorem d_Sh_join_20 : decode c_Sh_join 20 = .ok (.ifCond .lt 27, 3) := by decide +kernel
theorem d_Sh_join_23 : decode c_Sh_join 23 = .ok (.iload 4, 2) := by decide +kernel
theorem d_Sh_join_25 : decode c_Sh_join 25 = .ok (.aload 5, 2) := by decide +kernel
theorem d_Sh_join_27 : decode c_Sh_join 27 = .ok (.getfield 40, 3) := by decide +kernel
theorem d_Sh_join_30 : decode c_Sh_join 30 = .ok (.if_icmp .gt 17, 3) := by decide +kernel
theorem d_Sh_join_33 : decode c_Sh_join 33 = .ok (.iload 4, 2) := by decide +kernel
theorem d_Sh_join_35 : decode c_Sh_join 35 = .ok (.aload 6, 2) := by decide +kernel
theorem d_Sh_join_37 : decode c_Sh_join 37 = .ok (.getfield 40, 3) := by decide +kernel
theorem d_Sh_join_40 : decode c_Sh_join 40 = .ok (.if_icmp .gt 7, 3) := by decide +kernel
theorem d_Sh_join_43 : decode c_Sh_join 43 = .ok (.iconst 1, 1) := by decide +kernel
theorem d_Sh_join_44 : decode c_Sh_join 44 = .ok (.goto 4, 3) := by decide +kernel
theorem d_Sh_join_47 : decode c_Sh_join 47 = .ok (.iconst 0, 1) := by decide +kernel
theorem d_Sh_join_48 : decode c_Sh_join 48 = .ok (.invokestatic 28, 3) := by decide +kernel
theorem d_Sh_join_51 : decode c_Sh_join 51 = .ok (.aload 5, 2) := by decide +kernel
theorem d_Sh_join_53 : decode c_Sh_join 53 = .ok (.getfield 40, 3) := by decide +kernel
theorem d_Sh_join_56 : decode c_Sh_join 56 = .ok (.aload 6, 2) := by decide +kernel
theorem d_Sh_join_58 : decode c_Sh_join 58 = .ok (.getfield 40, 3) := by decide +kernel
theorem d_Sh_join_61 : decode c_Sh_join 61 = .ok (.iadd, 1) := by decide +kernel
theorem d_Sh_join_62 : decode c_Sh_join 62 = .ok (.iload 4, 2) := by decide +kernel
theorem d_Sh_join_64 : decode c_Sh_join 64 = .ok (.isub, 1) := by decide +kernel
theorem d_Sh_join_65 : decode c_Sh_join 65 = .ok (.istore 7, 2) := by decide +kernel
theorem d_Sh_join_67 : decode c_Sh_join 67 = .ok (.iload 7, 2) := by decide +kernel
theorem d_Sh_join_69 : decode c_Sh_join 69 = .ok (.iconst 3, 1) := by decide +kernel
theorem d_Sh_join_70 : decode c_Sh_join 70 = .ok (.if_icmp .gt 7, 3) := by decide +kernel
theorem d_Sh_join_73 : decode c_Sh_join 73 = .ok (.iconst 1, 1) := by decide +kernel
theorem d_Sh_join_74 : decode c_Sh_join 74 = .ok (.goto 4, 3) := by decide +kernel
theorem d_Sh_join_77 : decode c_Sh_join 77 = .ok (.iconst 0, 1) := by decide +kernel
theorem d_Sh_join_78 : decode c_Sh_join 78 = .ok (.invokestatic 28, 3) := by decide +kernel
theorem d_Sh_join_81 : decode c_Sh_join 81 = .ok (.aload_n 0, 1) := by decide +kernel
theorem d_Sh_join_82 : decode c_Sh_join 82 = .ok (.getfield 16, 3) := by decide +kernel
theorem d_Sh_join_85 : decode c_Sh_join 85 = .ok (.iload 7, 2) := by decide +kernel
theorem d_Sh_join_87 : decode c_Sh_join 87 = .ok (.invokevirtual 36, 3) := by decide +kernel
theorem d_Sh_join_90 : decode c_Sh_join 90 = .ok (.iconst 1, 1) := by decide +kernel
theorem d_Sh_join_91 : decode c_Sh_join 91 = .ok (.istore 8, 2) := by decide +kernel
theorem d_Sh_join_93 : decode c_Sh_join 93 = .ok (.iconst 0, 1) := by decide +kernel
theorem d_Sh_join_94 : decode c_Sh_join 94 = .ok (.istore 9, 2) := by decide +kernel
theorem d_Sh_join_96 : decode c_Sh_join 96 = .ok (.iload 9, 2) := by decide +kernel
theorem d_Sh_join_98 : decode c_Sh_join 98 = .ok (.aload 5, 2) := by decide +kernel
theorem d_Sh_join_100 : decode c_Sh_join 100 = .ok (.getfield 32, 3) := by decide +kernel
theorem d_Sh_join_103 : decode c_Sh_join 103 = .ok (.if_icmp .ge 28, 3) := by decide +kernel
theorem d_Sh_join_106 : decode c_Sh_join 106 = .ok (.iload 8, 2) := by decide +kernel
theorem d_Sh_join_108 : decode c_Sh_join 108 = .ok (.ifCond .eq 23, 3) := by decide +kernel
theorem d_Sh_join_111 : decode c_Sh_join 111 = .ok (.aload_n 0, 1) := by decide +kernel
theorem d_Sh_join_112 : decode c_Sh_join 112 = .ok (.aload 5, 2) := by decide +kernel
theorem d_Sh_join_114 : decode c_Sh_join 114 = .ok (.iload 9, 2) := by decide +kernel
theorem d_Sh_join_116 : decode c_Sh_join 116 = .ok (.aload 6, 2) := by decide +kernel
theorem d_Sh_join_118 : decode c_Sh_join 118 = .ok (.iload 4, 2) := by decide +kernel
theorem d_Sh_join_120 : decode c_Sh_join 120 = .ok (.invokevirtual 66, 3) := by decide +kernel
theorem d_Sh_join_123 : decode c_Sh_join 123 = .ok (.istore 8, 2) := by decide +kernel
theorem d_Sh_join_125 : decode c_Sh_join 125 = .ok (.iinc 9 1, 3) := by decide +kernel
theorem d_Sh_join_128 : decode c_Sh_join 128 = .ok (.goto (-32), 3) := by decide +kernel
theorem d_Sh_join_131 : decode c_Sh_join 131 = .ok (.iload 8, 2) := by decide +kernel
theorem d_Sh_join_133 : decode c_Sh_join 133 = .ok (.invokestatic 50, 3) := by decide +kernel
theorem d_Sh_join_136 : decode c_Sh_join 136 = .ok (.aload_n 0, 1) := by decide +kernel
theorem d_Sh_join_137 : decode c_Sh_join 137 = .ok (.iload_n 1, 1) := by decide +kernel
theorem d_Sh_join_138 : decode c_Sh_join 138 = .ok (.invokevirtual 70, 3) := by decide +kernel
theorem d_Sh_join_141 : decode c_Sh_join 141 = .ok (.ireturn, 1) := by decide +kernel
theorem d_Sh_joinOne_0 : decode c_Sh_joinOne 0 = .ok (.aload_n 1, 1) := by decide +kernel
theorem d_Sh_joinOne_1 : decode c_Sh_joinOne 1 = .ok (.getfield 60, 3) := by decide +kernel
theorem d_Sh_joinOne_4 : decode c_Sh_joinOne 4 = .ok (.iload_n 2, 1) := by decide +kernel
theorem d_Sh_joinOne_5 : decode c_Sh_joinOne 5 = .ok (.iaload, 1) := by decide +kernel
theorem d_Sh_joinOne_6 : decode c_Sh_joinOne 6 = .ok (.istore 5, 2) := by decide +kernel
theorem d_Sh_joinOne_8 : decode c_Sh_joinOne 8 = .ok (.iload 5, 2) := by decide +kernel
theorem d_Sh_joinOne_10 : decode c_Sh_joinOne 10 = .ok (.aload_n 1, 1) := by decide +kernel
theorem d_Sh_joinOne_11 : decode c_Sh_joinOne 11 = .ok (.getfield 40, 3) := by decide +kernel
theorem d_Sh_joinOne_14 : decode c_Sh_joinOne 14 = .ok (.iload 4, 2) := by decide +kernel
theorem d_Sh_joinOne_16 : decode c_Sh_joinOne 16 = .ok (.invokestatic 129, 3) := by decide +kernel
theorem d_Sh_joinOne_19 : decode c_Sh_joinOne 19 = .ok (.istore 6, 2) := by decide +kernel
theorem d_Sh_joinOne_21 : decode c_Sh_joinOne 21 = .ok (.aload_n 3, 1) := by decide +kernel
theorem d_Sh_joinOne_22 : decode c_Sh_joinOne 22 = .ok (.iload 6, 2) := by decide +kernel
theorem d_Sh_joinOne_24 : decode c_Sh_joinOne 24 = .ok (.iload 4, 2) := by decide +kernel
theorem d_Sh_joinOne_26 : decode c_Sh_joinOne 26 = .ok (.invokestatic 132, 3) := by decide +kernel
theorem d_Sh_joinOne_29 : decode c_Sh_joinOne 29 = .ok (.ishl, 1) := by decide +kernel
theorem d_Sh_joinOne_30 : decode c_Sh_joinOne 30 = .ok (.invokevirtual 135, 3) := by decide +kernel
theorem d_Sh_joinOne_33 : decode c_Sh_joinOne 33 = .ok (.istore 7, 2) := by decide +kernel
theorem d_Sh_joinOne_35 : decode c_Sh_joinOne 35 = .ok (.aload_n 3, 1) := by decide +kernel
theorem d_Sh_joinOne_36 : decode c_Sh_joinOne 36 = .ok (.iload 6, 2) := by decide +kernel
theorem d_Sh_joinOne_38 : decode c_Sh_joinOne 38 = .ok (.iconst 1, 1) := by decide +kernel
theorem d_Sh_joinOne_39 : decode c_Sh_joinOne 39 = .ok (.iadd, 1) := by decide +kernel
theorem d_Sh_joinOne_40 : decode c_Sh_joinOne 40 = .ok (.iload 4, 2) := by decide +kernel
theorem d_Sh_joinOne_42 : decode c_Sh_joinOne 42 = .ok (.invokestatic 132, 3) := by decide +kernel
theorem d_Sh_joinOne_45 : decode c_Sh_joinOne 45 = .ok (.ishl, 1) := by decide +kernel
theorem d_Sh_joinOne_46 : decode c_Sh_joinOne 46 = .ok (.invokevirtual 135, 3) := by decide +kernel
theorem d_Sh_joinOne_49 : decode c_Sh_joinOne 49 = .ok (.istore 8, 2) := by decide +kernel
theorem d_Sh_joinOne_51 : decode c_Sh_joinOne 51 = .ok (.iconst 4, 1) := by decide +kernel
theorem d_Sh_joinOne_52 : decode c_Sh_joinOne 52 = .ok (.aload_n 1, 1) := by decide +kernel
theorem d_Sh_joinOne_53 : decode c_Sh_joinOne 53 = .ok (.getfield 40, 3) := by decide +kernel
theorem d_Sh_joinOne_56 : decode c_Sh_joinOne 56 = .ok (.iload 4, 2) := by decide +kernel
theorem d_Sh_joinOne_58 : decode c_Sh_joinOne 58 = .ok (.isub, 1) := by decide +kernel
theorem d_Sh_joinOne_59 : decode c_Sh_joinOne 59 = .ok (.imul, 1) := by decide +kernel
theorem d_Sh_joinOne_60 : decode c_Sh_joinOne 60 = .ok (.istore 9, 2) := by decide +kernel
theorem d_Sh_joinOne_62 : decode c_Sh_joinOne 62 = .ok (.iconst 1, 1) := by decide +kernel
theorem d_Sh_joinOne_63 : decode c_Sh_joinOne 63 = .ok (.istore 10, 2) := by decide +kernel
theorem d_Sh_joinOne_65 : decode c_Sh_joinOne 65 = .ok (.iload 7, 2) := by decide +kernel
theorem d_Sh_joinOne_67 : decode c_Sh_joinOne 67 = .ok (.istore 11, 2) := by decide +kernel
theorem d_Sh_joinOne_69 : decode c_Sh_joinOne 69 = .ok (.iload 11, 2) := by decide +kernel
theorem d_Sh_joinOne_71 : decode c_Sh_joinOne 71 = .ok (.iload 8, 2) := by decide +kernel
theorem d_Sh_joinOne_73 : decode c_Sh_joinOne 73 = .ok (.if_icmp .ge 50, 3) := by decide +kernel
theorem d_Sh_joinOne_76 : decode c_Sh_joinOne 76 = .ok (.iload 10, 2) := by decide +kernel
theorem d_Sh_joinOne_78 : decode c_Sh_joinOne 78 = .ok (.ifCond .eq 45, 3) := by decide +kernel
theorem d_Sh_joinOne_81 : decode c_Sh_joinOne 81 = .ok (.aload_n 0, 1) := by decide +kernel
theorem d_Sh_joinOne_82 : decode c_Sh_joinOne 82 = .ok (.getfield 16, 3) := by decide +kernel
theorem d_Sh_joinOne_85 : decode c_Sh_joinOne 85 = .ok (.iload 5, 2) := by decide +kernel
theorem d_Sh_joinOne_87 : decode c_Sh_joinOne 87 = .ok (.aload_n 3, 1) := by decide +kernel
theorem d_Sh_joinOne_88 : decode c_Sh_joinOne 88 = .ok (.getfield 60, 3) := by decide +kernel
theorem d_Sh_joinOne_91 : decode c_Sh_joinOne 91 = .ok (.iload 11, 2) := by decide +kernel
theorem d_Sh_joinOne_93 : decode c_Sh_joinOne 93 = .ok (.iaload, 1) := by decide +kernel
theorem d_Sh_joinOne_94 : decode c_Sh_joinOne 94 = .ok (.iload 9, 2) := by decide +kernel
theorem d_Sh_joinOne_96 : decode c_Sh_joinOne 96 = .ok (.ishr, 1) := by decide +kernel
theorem d_Sh_joinOne_97 : decode c_Sh_joinOne 97 = .ok (.ior, 1) := by decide +kernel
theorem d_Sh_joinOne_98 : decode c_Sh_joinOne 98 = .ok (.aload_n 1, 1) := by decide +kernel
theorem d_Sh_joinOne_99 : decode c_Sh_joinOne 99 = .ok (.getfield 82, 3) := by decide +kernel
theorem d_Sh_joinOne_102 : decode c_Sh_joinOne 102 = .ok (.iload_n 2, 1) := by decide +kernel
theorem d_Sh_joinOne_103 : decode c_Sh_joinOne 103 = .ok (.iaload, 1) := by decide +kernel
theorem d_Sh_joinOne_104 : decode c_Sh_joinOne 104 = .ok (.aload_n 3, 1) := by decide +kernel
theorem d_Sh_joinOne_105 : decode c_Sh_joinOne 105 = .ok (.getfield 82, 3) := by decide +kernel
theorem d_Sh_joinOne_108 : decode c_Sh_joinOne 108 = .ok (.iload 11, 2) := by decide +kernel
theorem d_Sh_joinOne_110 : decode c_Sh_joinOne 110 = .ok (.iaload, 1) := by decide +kernel
theorem d_Sh_joinOne_111 : decode c_Sh_joinOne 111 = .ok (.imul, 1) := by decide +kernel
theorem d_Sh_joinOne_112 : decode c_Sh_joinOne 112 = .ok (.invokevirtual 47, 3) := by decide +kernel
theorem d_Sh_joinOne_115 : decode c_Sh_joinOne 115 = .ok (.istore 10, 2) := by decide +kernel
theorem d_Sh_joinOne_117 : decode c_Sh_joinOne 117 = .ok (.iinc 11 1, 3) := by decide +kernel
theorem d_Sh_joinOne_120 : decode c_Sh_joinOne 120 = .ok (.goto (-51), 3) := by decide +kernel
theorem d_Sh_joinOne_123 : decode c_Sh_joinOne 123 = .ok (.iload 10, 2) := by decide +kernel
theorem d_Sh_joinOne_125 : decode c_Sh_joinOne 125 = .ok (.ireturn, 1) := by decide +kernel
theorem d_Sh_lastNumbers_0 : decode c_Sh_lastNumbers 0 = .ok (.iload_n 0, 1) := by decide +kernel
theorem d_Sh_lastNumbers_1 : decode c_Sh_lastNumbers 1 = .ok (.iload_n 1, 1) := by decide +kernel
theorem d_Sh_lastNumbers_2 : decode c_Sh_lastNumbers 2 = .ok (.invokestatic 132, 3) := by decide +kernel
theorem d_Sh_lastNumbers_5 : decode c_Sh_lastNumbers 5 = .ok (.ishr, 1) := by decide +kernel
theorem d_Sh_lastNumbers_6 : decode c_Sh_lastNumbers 6 = .ok (.iconst 1, 1) := by decide +kernel
theorem d_Sh_lastNumbers_7 : decode c_Sh_lastNumbers 7 = .ok (.iconst 4, 1) := by decide +kernel
theorem d_Sh_lastNumbers_8 : decode c_Sh_lastNumbers 8 = .ok (.iload_n 2, 1) := by decide +kernel
theorem d_Sh_lastNumbers_9 : decode c_Sh_lastNumbers 9 = .ok (.imul, 1) := by decide +kernel
theorem d_Sh_lastNumbers_10 : decode c_Sh_lastNumbers 10 = .ok (.ishl, 1) := by decide +kernel
theorem d_Sh_lastNumbers_11 : decode c_Sh_lastNumbers 11 = .ok (.iconst 1, 1) := by decide +kernel
theorem d_Sh_lastNumbers_12 : decode c_Sh_lastNumbers 12 = .ok (.isub, 1) := by decide +kernel
theorem d_Sh_lastNumbers_13 : decode c_Sh_lastNumbers 13 = .ok (.iand, 1) := by decide +kernel
theorem d_Sh_lastNumbers_14 : decode c_Sh_lastNumbers 14 = .ok (.ireturn, 1) := by decide +kernel
theorem d_Sh_keepSpareAs_0 : decode c_Sh_keepSpareAs 0 = .ok (.aload_n 0, 1) := by decide +kernel
theorem d_Sh_keepSpareAs_1 : decode c_Sh_keepSpareAs 1 = .ok (.getfield 16, 3) := by decide +kernel
theorem d_Sh_keepSpareAs_4 : decode c_Sh_keepSpareAs 4 = .ok (.astore_n 2, 1) := by decide +kernel
theorem d_Sh_keepSpareAs_5 : decode c_Sh_keepSpareAs 5 = .ok (.aload_n 0, 1) := by decide +kernel
theorem d_Sh_keepSpareAs_6 : decode c_Sh_keepSpareAs 6 = .ok (.aload_n 0, 1) := by decide +kernel
theorem d_Sh_keepSpareAs_7 : decode c_Sh_keepSpareAs 7 = .ok (.getfield 11, 3) := by decide +kernel
theorem d_Sh_keepSpareAs_10 : decode c_Sh_keepSpareAs 10 = .ok (.iload_n 1, 1) := by decide +kernel
theorem d_Sh_keepSpareAs_11 : decode c_Sh_keepSpareAs 11 = .ok (.aaload, 1) := by decide +kernel
theorem d_Sh_keepSpareAs_12 : decode c_Sh_keepSpareAs 12 = .ok (.putfield 16, 3) := by decide +kernel
theorem d_Sh_keepSpareAs_15 : decode c_Sh_keepSpareAs 15 = .ok (.aload_n 0, 1) := by decide +kernel
theorem d_Sh_keepSpareAs_16 : decode c_Sh_keepSpareAs 16 = .ok (.getfield 11, 3) := by decide +kernel
theorem d_Sh_keepSpareAs_19 : decode c_Sh_keepSpareAs 19 = .ok (.iload_n 1, 1) := by decide +kernel
theorem d_Sh_keepSpareAs_20 : decode c_Sh_keepSpareAs 20 = .ok (.aload_n 2, 1) := by decide +kernel
theorem d_Sh_keepSpareAs_21 : decode c_Sh_keepSpareAs 21 = .ok (.aastore, 1) := by decide +kernel
theorem d_Sh_keepSpareAs_22 : decode c_Sh_keepSpareAs 22 = .ok (.aload_n 2, 1) := by decide +kernel
theorem d_Sh_keepSpareAs_23 : decode c_Sh_keepSpareAs 23 = .ok (.getfield 32, 3) := by decide +kernel
theorem d_Sh_keepSpareAs_26 : decode c_Sh_keepSpareAs 26 = .ok (.ireturn, 1) := by decide +kernel
theorem d_Sh_narrow_0 : decode c_Sh_narrow 0 = .ok (.iload_n 1, 1) := by decide +kernel
theorem d_Sh_narrow_1 : decode c_Sh_narrow 1 = .ok (.invokestatic 63, 3) := by decide +kernel
theorem d_Sh_narrow_4 : decode c_Sh_narrow 4 = .ok (.aload_n 0, 1) := by decide +kernel
theorem d_Sh_narrow_5 : decode c_Sh_narrow 5 = .ok (.iload_n 2, 1) := by decide +kernel
theorem d_Sh_narrow_6 : decode c_Sh_narrow 6 = .ok (.invokevirtual 24, 3) := by decide +kernel
theorem d_Sh_narrow_9 : decode c_Sh_narrow 9 = .ok (.astore 4, 2) := by decide +kernel
theorem d_Sh_narrow_11 : decode c_Sh_narrow 11 = .ok (.iload_n 3, 1) := by decide +kernel
theorem d_Sh_narrow_12 : decode c_Sh_narrow 12 = .ok (.ifCond .le 18, 3) := by decide +kernel
theorem d_Sh_narrow_15 : decode c_Sh_narrow 15 = .ok (.iload_n 3, 1) := by decide +kernel
theorem d_Sh_narrow_16 : decode c_Sh_narrow 16 = .ok (.iconst 1, 1) := by decide +kernel
theorem d_Sh_narrow_17 : decode c_Sh_narrow 17 = .ok (.aload 4, 2) := by decide +kernel
theorem d_Sh_narrow_19 : decode c_Sh_narrow 19 = .ok (.getfield 40, 3) := by decide +kernel
theorem d_Sh_narrow_22 : decode c_Sh_narrow 22 = .ok (.ishl, 1) := by decide +kernel
theorem d_Sh_narrow_23 : decode c_Sh_narrow 23 = .ok (.if_icmp .ge 7, 3) := by decide +kernel
theorem d_Sh_narrow_26 : decode c_Sh_narrow 26 = .ok (.iconst 1, 1) := by decide +kernel
theorem d_Sh_narrow_27 : decode c_Sh_narrow 27 = .ok (.goto 4, 3) := by decide +kernel
theorem d_Sh_narrow_30 : decode c_Sh_narrow 30 = .ok (.iconst 0, 1) := by decide +kernel
theorem d_Sh_narrow_31 : decode c_Sh_narrow 31 = .ok (.invokestatic 28, 3) := by decide +kernel
theorem d_Sh_narrow_34 : decode c_Sh_narrow 34 = .ok (.aload_n 0, 1) := by decide +kernel
theorem d_Sh_narrow_35 : decode c_Sh_narrow 35 = .ok (.getfield 16, 3) := by decide +kernel
theorem d_Sh_narrow_38 : decode c_Sh_narrow 38 = .ok (.iload_n 3, 1) := by decide +kernel
theorem d_Sh_narrow_39 : decode c_Sh_narrow 39 = .ok (.invokestatic 73, 3) := by decide +kernel
theorem d_Sh_narrow_42 : decode c_Sh_narrow 42 = .ok (.invokevirtual 36, 3) := by decide +kernel
theorem d_Sh_narrow_45 : decode c_Sh_narrow 45 = .ok (.iconst 0, 1) := by decide +kernel
theorem d_Sh_narrow_46 : decode c_Sh_narrow 46 = .ok (.istore 5, 2) := by decide +kernel
theorem d_Sh_narrow_48 : decode c_Sh_narrow 48 = .ok (.iload 5, 2) := by decide +kernel
theorem d_Sh_narrow_50 : decode c_Sh_narrow 50 = .ok (.aload 4, 2) := by decide +kernel
theorem d_Sh_narrow_52 : decode c_Sh_narrow 52 = .ok (.getfield 32, 3) := by decide +kernel
theorem d_Sh_narrow_55 : decode c_Sh_narrow 55 = .ok (.if_icmp .ge 37, 3) := by decide +kernel
theorem d_Sh_narrow_58 : decode c_Sh_narrow 58 = .ok (.aload_n 0, 1) := by decide +kernel
theorem d_Sh_narrow_59 : decode c_Sh_narrow 59 = .ok (.getfield 16, 3) := by decide +kernel
theorem d_Sh_narrow_62 : decode c_Sh_narrow 62 = .ok (.aload 4, 2) := by decide +kernel
theorem d_Sh_narrow_64 : decode c_Sh_narrow 64 = .ok (.getfield 60, 3) := by decide +kernel
theorem d_Sh_narrow_67 : decode c_Sh_narrow 67 = .ok (.iload 5, 2) := by decide +kernel
theorem d_Sh_narrow_69 : decode c_Sh_narrow 69 = .ok (.iaload, 1) := by decide +kernel
theorem d_Sh_narrow_70 : decode c_Sh_narrow 70 = .ok (.iload_n 3, 1) := by decide +kernel
theorem d_Sh_narrow_71 : decode c_Sh_narrow 71 = .ok (.invokestatic 78, 3) := by decide +kernel
theorem d_Sh_narrow_74 : decode c_Sh_narrow 74 = .ok (.aload 4, 2) := by decide +kernel
theorem d_Sh_narrow_76 : decode c_Sh_narrow 76 = .ok (.getfield 82, 3) := by decide +kernel
theorem d_Sh_narrow_79 : decode c_Sh_narrow 79 = .ok (.iload 5, 2) := by decide +kernel
theorem d_Sh_narrow_81 : decode c_Sh_narrow 81 = .ok (.iaload, 1) := by decide +kernel
theorem d_Sh_narrow_82 : decode c_Sh_narrow 82 = .ok (.invokevirtual 47, 3) := by decide +kernel
theorem d_Sh_narrow_85 : decode c_Sh_narrow 85 = .ok (.pop, 1) := by decide +kernel
theorem d_Sh_narrow_86 : decode c_Sh_narrow 86 = .ok (.iinc 5 1, 3) := by decide +kernel
theorem d_Sh_narrow_89 : decode c_Sh_narrow 89 = .ok (.goto (-41), 3) := by decide +kernel
theorem d_Sh_narrow_92 : decode c_Sh_narrow 92 = .ok (.aload_n 0, 1) := by decide +kernel
theorem d_Sh_narrow_93 : decode c_Sh_narrow 93 = .ok (.iload_n 1, 1) := by decide +kernel
theorem d_Sh_narrow_94 : decode c_Sh_narrow 94 = .ok (.invokevirtual 70, 3) := by decide +kernel
theorem d_Sh_narrow_97 : decode c_Sh_narrow 97 = .ok (.ireturn, 1) := by decide +kernel
theorem d_Sh_narrowed_0 : decode c_Sh_narrowed 0 = .ok (.iconst 0, 1) := by decide +kernel
theorem d_Sh_narrowed_1 : decode c_Sh_narrowed 1 = .ok (.istore_n 2, 1) := by decide +kernel
theorem d_Sh_narrowed_2 : decode c_Sh_narrowed 2 = .ok (.iconst 0, 1) := by decide +kernel
theorem d_Sh_narrowed_3 : decode c_Sh_narrowed 3 = .ok (.istore_n 3, 1) := by decide +kernel
theorem d_Sh_narrowed_4 : decode c_Sh_narrowed 4 = .ok (.iconst 0, 1) := by decide +kernel
theorem d_Sh_narrowed_5 : decode c_Sh_narrowed 5 = .ok (.istore 4, 2) := by decide +kernel
theorem d_Sh_narrowed_7 : decode c_Sh_narrowed 7 = .ok (.iload 4, 2) := by decide +kernel
theorem d_Sh_narrowed_9 : decode c_Sh_narrowed 9 = .ok (.iconst 3, 1) := by decide +kernel
theorem d_Sh_narrowed_10 : decode c_Sh_narrowed 10 = .ok (.if_icmp .ge 35, 3) := by decide +kernel
theorem d_Sh_narrowed_13 : decode c_Sh_narrowed 13 = .ok (.iload_n 1, 1) := by decide +kernel
theorem d_Sh_narrowed_14 : decode c_Sh_narrowed 14 = .ok (.iload 4, 2) := by decide +kernel
theorem d_Sh_narrowed_16 : decode c_Sh_narrowed 16 = .ok (.ishr, 1) := by decide +kernel
theorem d_Sh_narrowed_17 : decode c_Sh_narrowed 17 = .ok (.iconst 1, 1) := by decide +kernel
theorem d_Sh_narrowed_18 : decode c_Sh_narrowed 18 = .ok (.iand, 1) := by decide +kernel
theorem d_Sh_narrowed_19 : decode c_Sh_narrowed 19 = .ok (.iconst 1, 1) := by decide +kernel
theorem d_Sh_narrowed_20 : decode c_Sh_narrowed 20 = .ok (.if_icmp .ne 19, 3) := by decide +kernel
theorem d_Sh_narrowed_23 : decode c_Sh_narrowed 23 = .ok (.iload_n 2, 1) := by decide +kernel
theorem d_Sh_narrowed_24 : decode c_Sh_narrowed 24 = .ok (.iload_n 0, 1) := by decide +kernel
theorem d_Sh_narrowed_25 : decode c_Sh_narrowed 25 = .ok (.iload 4, 2) := by decide +kernel
theorem d_Sh_narrowed_27 : decode c_Sh_narrowed 27 = .ok (.invokestatic 85, 3) := by decide +kernel
theorem d_Sh_narrowed_30 : decode c_Sh_narrowed 30 = .ok (.iload_n 3, 1) := by decide +kernel
theorem d_Sh_narrowed_31 : decode c_Sh_narrowed 31 = .ok (.invokestatic 102, 3) := by decide +kernel
theorem d_Sh_narrowed_34 : decode c_Sh_narrowed 34 = .ok (.ior, 1) := by decide +kernel
theorem d_Sh_narrowed_35 : decode c_Sh_narrowed 35 = .ok (.istore_n 2, 1) := by decide +kernel
theorem d_Sh_narrowed_36 : decode c_Sh_narrowed 36 = .ok (.iinc 3 1, 3) := by decide +kernel
theorem d_Sh_narrowed_39 : decode c_Sh_narrowed 39 = .ok (.iinc 4 1, 3) := by decide +kernel
theorem d_Sh_narrowed_42 : decode c_Sh_narrowed 42 = .ok (.goto (-35), 3) := by decide +kernel
theorem d_Sh_narrowed_45 : decode c_Sh_narrowed 45 = .ok (.iload_n 2, 1) := by decide +kernel
theorem d_Sh_narrowed_46 : decode c_Sh_narrowed 46 = .ok (.ireturn, 1) := by decide +kernel
theorem d_Sh_numberAt_0 : decode c_Sh_numberAt 0 = .ok (.iload_n 0, 1) := by decide +kernel
theorem d_Sh_numberAt_1 : decode c_Sh_numberAt 1 = .ok (.iload_n 1, 1) := by decide +kernel
theorem d_Sh_numberAt_2 : decode c_Sh_numberAt 2 = .ok (.iconst 1, 1) := by decide +kernel
theorem d_Sh_numberAt_3 : decode c_Sh_numberAt 3 = .ok (.iadd, 1) := by decide +kernel
theorem d_Sh_numberAt_4 : decode c_Sh_numberAt 4 = .ok (.invokestatic 132, 3) := by decide +kernel
theorem d_Sh_numberAt_7 : decode c_Sh_numberAt 7 = .ok (.ishr, 1) := by decide +kernel
theorem d_Sh_numberAt_8 : decode c_Sh_numberAt 8 = .ok (.bipush 15, 2) := by decide +kernel
theorem d_Sh_numberAt_10 : decode c_Sh_numberAt 10 = .ok (.iand, 1) := by decide +kernel
theorem d_Sh_numberAt_11 : decode c_Sh_numberAt 11 = .ok (.ireturn, 1) := by decide +kernel
theorem d_Sh_withNumber_0 : decode c_Sh_withNumber 0 = .ok (.iload_n 0, 1) := by decide +kernel
theorem d_Sh_withNumber_1 : decode c_Sh_withNumber 1 = .ok (.iload_n 1, 1) := by decide +kernel
theorem d_Sh_withNumber_2 : decode c_Sh_withNumber 2 = .ok (.iconst 1, 1) := by decide +kernel
theorem d_Sh_withNumber_3 : decode c_Sh_withNumber 3 = .ok (.iadd, 1) := by decide +kernel
theorem d_Sh_withNumber_4 : decode c_Sh_withNumber 4 = .ok (.invokestatic 132, 3) := by decide +kernel
theorem d_Sh_withNumber_7 : decode c_Sh_withNumber 7 = .ok (.ishl, 1) := by decide +kernel
theorem d_Sh_withNumber_8 : decode c_Sh_withNumber 8 = .ok (.ireturn, 1) := by decide +kernel
theorem d_Sh_pick_0 : decode c_Sh_pick 0 = .ok (.iload_n 1, 1) := by decide +kernel
theorem d_Sh_pick_1 : decode c_Sh_pick 1 = .ok (.invokestatic 63, 3) := by decide +kernel
theorem d_Sh_pick_4 : decode c_Sh_pick 4 = .ok (.aload_n 0, 1) := by decide +kernel
theorem d_Sh_pick_5 : decode c_Sh_pick 5 = .ok (.iload_n 2, 1) := by decide +kernel
theorem d_Sh_pick_6 : decode c_Sh_pick 6 = .ok (.invokevirtual 24, 3) := by decide +kernel
theorem d_Sh_pick_9 : decode c_Sh_pick 9 = .ok (.astore 5, 2) := by decide +kernel
theorem d_Sh_pick_11 : decode c_Sh_pick 11 = .ok (.iload_n 3, 1) := by decide +kernel
theorem d_Sh_pick_12 : decode c_Sh_pick 12 = .ok (.ifCond .lt 16, 3) := by decide +kernel
theorem d_Sh_pick_15 : decode c_Sh_pick 15 = .ok (.iload_n 3, 1) := by decide +kernel
theorem d_Sh_pick_16 : decode c_Sh_pick 16 = .ok (.aload 5, 2) := by decide +kernel
theorem d_Sh_pick_18 : decode c_Sh_pick 18 = .ok (.getfield 40, 3) := by decide +kernel
theorem d_Sh_pick_21 : decode c_Sh_pick 21 = .ok (.if_icmp .ge 7, 3) := by decide +kernel
theorem d_Sh_pick_24 : decode c_Sh_pick 24 = .ok (.iconst 1, 1) := by decide +kernel
theorem d_Sh_pick_25 : decode c_Sh_pick 25 = .ok (.goto 4, 3) := by decide +kernel
theorem d_Sh_pick_28 : decode c_Sh_pick 28 = .ok (.iconst 0, 1) := by decide +kernel
theorem d_Sh_pick_29 : decode c_Sh_pick 29 = .ok (.invokestatic 28, 3) := by decide +kernel
theorem d_Sh_pick_32 : decode c_Sh_pick 32 = .ok (.iload 4, 2) := by decide +kernel
theorem d_Sh_pick_34 : decode c_Sh_pick 34 = .ok (.ifCond .lt 14, 3) := by decide +kernel
theorem d_Sh_pick_37 : decode c_Sh_pick 37 = .ok (.iload 4, 2) := by decide +kernel
theorem d_Sh_pick_39 : decode c_Sh_pick 39 = .ok (.bipush 16, 2) := by decide +kernel
theorem d_Sh_pick_41 : decode c_Sh_pick 41 = .ok (.if_icmp .ge 7, 3) := by decide +kernel
theorem d_Sh_pick_44 : decode c_Sh_pick 44 = .ok (.iconst 1, 1) := by decide +kernel
theorem d_Sh_pick_45 : decode c_Sh_pick 45 = .ok (.goto 4, 3) := by decide +kernel
theorem d_Sh_pick_48 : decode c_Sh_pick 48 = .ok (.iconst 0, 1) := by decide +kernel
theorem d_Sh_pick_49 : decode c_Sh_pick 49 = .ok (.invokestatic 28, 3) := by decide +kernel
theorem d_Sh_pick_52 : decode c_Sh_pick 52 = .ok (.aload_n 0, 1) := by decide +kernel
theorem d_Sh_pick_53 : decode c_Sh_pick 53 = .ok (.getfield 16, 3) := by decide +kernel
theorem d_Sh_pick_56 : decode c_Sh_pick 56 = .ok (.aload 5, 2) := by decide +kernel
theorem d_Sh_pick_58 : decode c_Sh_pick 58 = .ok (.getfield 40, 3) := by decide +kernel
theorem d_Sh_pick_61 : decode c_Sh_pick 61 = .ok (.invokevirtual 36, 3) := by decide +kernel
theorem d_Sh_pick_64 : decode c_Sh_pick 64 = .ok (.iconst 0, 1) := by decide +kernel
theorem d_Sh_pick_65 : decode c_Sh_pick 65 = .ok (.istore 6, 2) := by decide +kernel
theorem d_Sh_pick_67 : decode c_Sh_pick 67 = .ok (.iload 6, 2) := by decide +kernel
theorem d_Sh_pick_69 : decode c_Sh_pick 69 = .ok (.aload 5, 2) := by decide +kernel
theorem d_Sh_pick_71 : decode c_Sh_pick 71 = .ok (.getfield 32, 3) := by decide +kernel
theorem d_Sh_pick_74 : decode c_Sh_pick 74 = .ok (.if_icmp .ge 50, 3) := by decide +kernel
theorem d_Sh_pick_77 : decode c_Sh_pick 77 = .ok (.aload 5, 2) := by decide +kernel
theorem d_Sh_pick_79 : decode c_Sh_pick 79 = .ok (.getfield 60, 3) := by decide +kernel
theorem d_Sh_pick_82 : decode c_Sh_pick 82 = .ok (.iload 6, 2) := by decide +kernel
theorem d_Sh_pick_84 : decode c_Sh_pick 84 = .ok (.iaload, 1) := by decide +kernel
theorem d_Sh_pick_85 : decode c_Sh_pick 85 = .ok (.iload_n 3, 1) := by decide +kernel
theorem d_Sh_pick_86 : decode c_Sh_pick 86 = .ok (.invokestatic 85, 3) := by decide +kernel
theorem d_Sh_pick_89 : decode c_Sh_pick 89 = .ok (.iload 4, 2) := by decide +kernel
theorem d_Sh_pick_91 : decode c_Sh_pick 91 = .ok (.if_icmp .ne 27, 3) := by decide +kernel
theorem d_Sh_pick_94 : decode c_Sh_pick 94 = .ok (.aload_n 0, 1) := by decide +kernel
theorem d_Sh_pick_95 : decode c_Sh_pick 95 = .ok (.getfield 16, 3) := by decide +kernel
theorem d_Sh_pick_98 : decode c_Sh_pick 98 = .ok (.aload 5, 2) := by decide +kernel
theorem d_Sh_pick_100 : decode c_Sh_pick 100 = .ok (.getfield 60, 3) := by decide +kernel
theorem d_Sh_pick_103 : decode c_Sh_pick 103 = .ok (.iload 6, 2) := by decide +kernel
theorem d_Sh_pick_105 : decode c_Sh_pick 105 = .ok (.iaload, 1) := by decide +kernel
theorem d_Sh_pick_106 : decode c_Sh_pick 106 = .ok (.aload 5, 2) := by decide +kernel
theorem d_Sh_pick_108 : decode c_Sh_pick 108 = .ok (.getfield 82, 3) := by decide +kernel
theorem d_Sh_pick_111 : decode c_Sh_pick 111 = .ok (.iload 6, 2) := by decide +kernel
theorem d_Sh_pick_113 : decode c_Sh_pick 113 = .ok (.iaload, 1) := by decide +kernel
theorem d_Sh_pick_114 : decode c_Sh_pick 114 = .ok (.invokevirtual 47, 3) := by decide +kernel
theorem d_Sh_pick_117 : decode c_Sh_pick 117 = .ok (.pop, 1) := by decide +kernel
theorem d_Sh_pick_118 : decode c_Sh_pick 118 = .ok (.iinc 6 1, 3) := by decide +kernel
theorem d_Sh_pick_121 : decode c_Sh_pick 121 = .ok (.goto (-54), 3) := by decide +kernel
theorem d_Sh_pick_124 : decode c_Sh_pick 124 = .ok (.aload_n 0, 1) := by decide +kernel
theorem d_Sh_pick_125 : decode c_Sh_pick 125 = .ok (.iload_n 1, 1) := by decide +kernel
theorem d_Sh_pick_126 : decode c_Sh_pick 126 = .ok (.invokevirtual 70, 3) := by decide +kernel
theorem d_Sh_pick_129 : decode c_Sh_pick 129 = .ok (.ireturn, 1) := by decide +kernel
theorem d_Sh_alter_0 : decode c_Sh_alter 0 = .ok (.iload_n 1, 1) := by decide +kernel
theorem d_Sh_alter_1 : decode c_Sh_alter 1 = .ok (.invokestatic 63, 3) := by decide +kernel
theorem d_Sh_alter_4 : decode c_Sh_alter 4 = .ok (.aload_n 0, 1) := by decide +kernel
theorem d_Sh_alter_5 : decode c_Sh_alter 5 = .ok (.iload_n 3, 1) := by decide +kernel
theorem d_Sh_alter_6 : decode c_Sh_alter 6 = .ok (.invokevirtual 24, 3) := by decide +kernel
theorem d_Sh_alter_9 : decode c_Sh_alter 9 = .ok (.astore 5, 2) := by decide +kernel
theorem d_Sh_alter_11 : decode c_Sh_alter 11 = .ok (.aload_n 0, 1) := by decide +kernel
theorem d_Sh_alter_12 : decode c_Sh_alter 12 = .ok (.iload 4, 2) := by decide +kernel
theorem d_Sh_alter_14 : decode c_Sh_alter 14 = .ok (.invokevirtual 24, 3) := by decide +kernel
theorem d_Sh_alter_17 : decode c_Sh_alter 17 = .ok (.astore 6, 2) := by decide +kernel
theorem d_Sh_alter_19 : decode c_Sh_alter 19 = .ok (.iload_n 2, 1) := by decide +kernel
theorem d_Sh_alter_20 : decode c_Sh_alter 20 = .ok (.ifCond .lt 12, 3) := by decide +kernel
theorem d_Sh_alter_23 : decode c_Sh_alter 23 = .ok (.iload_n 2, 1) := by decide +kernel
theorem d_Sh_alter_24 : decode c_Sh_alter 24 = .ok (.iconst 5, 1) := by decide +kernel
theorem d_Sh_alter_25 : decode c_Sh_alter 25 = .ok (.if_icmp .gt 7, 3) := by decide +kernel
theorem d_Sh_alter_28 : decode c_Sh_alter 28 = .ok (.iconst 1, 1) := by decide +kernel
theorem d_Sh_alter_29 : decode c_Sh_alter 29 = .ok (.goto 4, 3) := by decide +kernel
theorem d_Sh_alter_32 : decode c_Sh_alter 32 = .ok (.iconst 0, 1) := by decide +kernel
theorem d_Sh_alter_33 : decode c_Sh_alter 33 = .ok (.invokestatic 28, 3) := by decide +kernel
theorem d_Sh_alter_36 : decode c_Sh_alter 36 = .ok (.aload 5, 2) := by decide +kernel
theorem d_Sh_alter_38 : decode c_Sh_alter 38 = .ok (.getfield 40, 3) := by decide +kernel
theorem d_Sh_alter_41 : decode c_Sh_alter 41 = .ok (.aload 6, 2) := by decide +kernel
theorem d_Sh_alter_43 : decode c_Sh_alter 43 = .ok (.getfield 40, 3) := by decide +kernel
theorem d_Sh_alter_46 : decode c_Sh_alter 46 = .ok (.if_icmp .ne 7, 3) := by decide +kernel
theorem d_Sh_alter_49 : decode c_Sh_alter 49 = .ok (.iconst 1, 1) := by decide +kernel
theorem d_Sh_alter_50 : decode c_Sh_alter 50 = .ok (.goto 4, 3) := by decide +kernel
theorem d_Sh_alter_53 : decode c_Sh_alter 53 = .ok (.iconst 0, 1) := by decide +kernel
theorem d_Sh_alter_54 : decode c_Sh_alter 54 = .ok (.invokestatic 28, 3) := by decide +kernel
theorem d_Sh_alter_57 : decode c_Sh_alter 57 = .ok (.aload_n 0, 1) := by decide +kernel
theorem d_Sh_alter_58 : decode c_Sh_alter 58 = .ok (.getfield 16, 3) := by decide +kernel
theorem d_Sh_alter_61 : decode c_Sh_alter 61 = .ok (.aload 5, 2) := by decide +kernel
theorem d_Sh_alter_63 : decode c_Sh_alter 63 = .ok (.getfield 40, 3) := by decide +kernel
theorem d_Sh_alter_66 : decode c_Sh_alter 66 = .ok (.invokevirtual 36, 3) := by decide +kernel
theorem d_Sh_alter_69 : decode c_Sh_alter 69 = .ok (.iconst 1, 1) := by decide +kernel
theorem d_Sh_alter_70 : decode c_Sh_alter 70 = .ok (.istore 7, 2) := by decide +kernel
theorem d_Sh_alter_72 : decode c_Sh_alter 72 = .ok (.iconst 0, 1) := by decide +kernel
theorem d_Sh_alter_73 : decode c_Sh_alter 73 = .ok (.istore 8, 2) := by decide +kernel
theorem d_Sh_alter_75 : decode c_Sh_alter 75 = .ok (.iload 8, 2) := by decide +kernel
theorem d_Sh_alter_77 : decode c_Sh_alter 77 = .ok (.aload 5, 2) := by decide +kernel
theorem d_Sh_alter_79 : decode c_Sh_alter 79 = .ok (.getfield 32, 3) := by decide +kernel
theorem d_Sh_alter_82 : decode c_Sh_alter 82 = .ok (.if_icmp .ge 54, 3) := by decide +kernel
theorem d_Sh_alter_85 : decode c_Sh_alter 85 = .ok (.iload 7, 2) := by decide +kernel
theorem d_Sh_alter_87 : decode c_Sh_alter 87 = .ok (.ifCond .eq 49, 3) := by decide +kernel
theorem d_Sh_alter_90 : decode c_Sh_alter 90 = .ok (.aload 5, 2) := by decide +kernel
theorem d_Sh_alter_92 : decode c_Sh_alter 92 = .ok (.getfield 60, 3) := by decide +kernel
theorem d_Sh_alter_95 : decode c_Sh_alter 95 = .ok (.iload 8, 2) := by decide +kernel
theorem d_Sh_alter_97 : decode c_Sh_alter 97 = .ok (.iaload, 1) := by decide +kernel
theorem d_Sh_alter_98 : decode c_Sh_alter 98 = .ok (.istore 9, 2) := by decide +kernel
theorem d_Sh_alter_100 : decode c_Sh_alter 100 = .ok (.aload_n 0, 1) := by decide +kernel
theorem d_Sh_alter_101 : decode c_Sh_alter 101 = .ok (.getfield 16, 3) := by decide +kernel
theorem d_Sh_alter_104 : decode c_Sh_alter 104 = .ok (.iload 9, 2) := by decide +kernel
theorem d_Sh_alter_106 : decode c_Sh_alter 106 = .ok (.iload_n 2, 1) := by decide +kernel
theorem d_Sh_alter_107 : decode c_Sh_alter 107 = .ok (.aload 5, 2) := by decide +kernel
theorem d_Sh_alter_109 : decode c_Sh_alter 109 = .ok (.getfield 82, 3) := by decide +kernel
theorem d_Sh_alter_112 : decode c_Sh_alter 112 = .ok (.iload 8, 2) := by decide +kernel
theorem d_Sh_alter_114 : decode c_Sh_alter 114 = .ok (.iaload, 1) := by decide +kernel
theorem d_Sh_alter_115 : decode c_Sh_alter 115 = .ok (.aload 6, 2) := by decide +kernel
theorem d_Sh_alter_117 : decode c_Sh_alter 117 = .ok (.iload 9, 2) := by decide +kernel
theorem d_Sh_alter_119 : decode c_Sh_alter 119 = .ok (.invokevirtual 53, 3) := by decide +kernel
theorem d_Sh_alter_122 : decode c_Sh_alter 122 = .ok (.invokestatic 88, 3) := by decide +kernel
theorem d_Sh_alter_125 : decode c_Sh_alter 125 = .ok (.invokevirtual 47, 3) := by decide +kernel
theorem d_Sh_alter_128 : decode c_Sh_alter 128 = .ok (.istore 7, 2) := by decide +kernel
theorem d_Sh_alter_130 : decode c_Sh_alter 130 = .ok (.iinc 8 1, 3) := by decide +kernel
theorem d_Sh_alter_133 : decode c_Sh_alter 133 = .ok (.goto (-58), 3) := by decide +kernel
theorem d_Sh_alter_136 : decode c_Sh_alter 136 = .ok (.iconst 0, 1) := by decide +kernel
theorem d_Sh_alter_137 : decode c_Sh_alter 137 = .ok (.istore 8, 2) := by decide +kernel
theorem d_Sh_alter_139 : decode c_Sh_alter 139 = .ok (.iload 8, 2) := by decide +kernel
theorem d_Sh_alter_141 : decode c_Sh_alter 141 = .ok (.aload 6, 2) := by decide +kernel
theorem d_Sh_alter_143 : decode c_Sh_alter 143 = .ok (.getfield 32, 3) := by decide +kernel
theorem d_Sh_alter_146 : decode c_Sh_alter 146 = .ok (.if_icmp .ge 58, 3) := by decide +kernel
theorem d_Sh_alter_149 : decode c_Sh_alter 149 = .ok (.iload 7, 2) := by decide +kernel
theorem d_Sh_alter_151 : decode c_Sh_alter 151 = .ok (.ifCond .eq 53, 3) := by decide +kernel
theorem d_Sh_alter_154 : decode c_Sh_alter 154 = .ok (.aload 6, 2) := by decide +kernel
theorem d_Sh_alter_156 : decode c_Sh_alter 156 = .ok (.getfield 60, 3) := by decide +kernel
theorem d_Sh_alter_159 : decode c_Sh_alter 159 = .ok (.iload 8, 2) := by decide +kernel
theorem d_Sh_alter_161 : decode c_Sh_alter 161 = .ok (.iaload, 1) := by decide +kernel
theorem d_Sh_alter_162 : decode c_Sh_alter 162 = .ok (.istore 9, 2) := by decide +kernel
theorem d_Sh_alter_164 : decode c_Sh_alter 164 = .ok (.aload 5, 2) := by decide +kernel
theorem d_Sh_alter_166 : decode c_Sh_alter 166 = .ok (.iload 9, 2) := by decide +kernel
theorem d_Sh_alter_168 : decode c_Sh_alter 168 = .ok (.invokevirtual 53, 3) := by decide +kernel
theorem d_Sh_alter_171 : decode c_Sh_alter 171 = .ok (.ifCond .ne 27, 3) := by decide +kernel
theorem d_Sh_alter_174 : decode c_Sh_alter 174 = .ok (.aload_n 0, 1) := by decide +kernel
theorem d_Sh_alter_175 : decode c_Sh_alter 175 = .ok (.getfield 16, 3) := by decide +kernel
theorem d_Sh_alter_178 : decode c_Sh_alter 178 = .ok (.iload 9, 2) := by decide +kernel
theorem d_Sh_alter_180 : decode c_Sh_alter 180 = .ok (.iload_n 2, 1) := by decide +kernel
theorem d_Sh_alter_181 : decode c_Sh_alter 181 = .ok (.iconst 0, 1) := by decide +kernel
theorem d_Sh_alter_182 : decode c_Sh_alter 182 = .ok (.aload 6, 2) := by decide +kernel
theorem d_Sh_alter_184 : decode c_Sh_alter 184 = .ok (.getfield 82, 3) := by decide +kernel
theorem d_Sh_alter_187 : decode c_Sh_alter 187 = .ok (.iload 8, 2) := by decide +kernel
theorem d_Sh_alter_189 : decode c_Sh_alter 189 = .ok (.iaload, 1) := by decide +kernel
theorem d_Sh_alter_190 : decode c_Sh_alter 190 = .ok (.invokestatic 88, 3) := by decide +kernel
theorem d_Sh_alter_193 : decode c_Sh_alter 193 = .ok (.invokevirtual 47, 3) := by decide +kernel
theorem d_Sh_alter_196 : decode c_Sh_alter 196 = .ok (.istore 7, 2) := by decide +kernel
theorem d_Sh_alter_198 : decode c_Sh_alter 198 = .ok (.iinc 8 1, 3) := by decide +kernel
theorem d_Sh_alter_201 : decode c_Sh_alter 201 = .ok (.goto (-62), 3) := by decide +kernel
theorem d_Sh_alter_204 : decode c_Sh_alter 204 = .ok (.iload 7, 2) := by decide +kernel
theorem d_Sh_alter_206 : decode c_Sh_alter 206 = .ok (.invokestatic 50, 3) := by decide +kernel
theorem d_Sh_alter_209 : decode c_Sh_alter 209 = .ok (.aload_n 0, 1) := by decide +kernel
theorem d_Sh_alter_210 : decode c_Sh_alter 210 = .ok (.iload_n 1, 1) := by decide +kernel
theorem d_Sh_alter_211 : decode c_Sh_alter 211 = .ok (.invokevirtual 70, 3) := by decide +kernel
theorem d_Sh_alter_214 : decode c_Sh_alter 214 = .ok (.ireturn, 1) := by decide +kernel
theorem d_Sh_altered_0 : decode c_Sh_altered 0 = .ok (.iload_n 0, 1) := by decide +kernel
theorem d_Sh_altered_1 : decode c_Sh_altered 1 = .ok (.tableswitch 77 0 4 #[35, 39, 43, 53, 63], 35) := by decide +kernel
theorem d_Sh_altered_36 : decode c_Sh_altered 36 = .ok (.iload_n 1, 1) := by decide +kernel
theorem d_Sh_altered_37 : decode c_Sh_altered 37 = .ok (.iload_n 2, 1) := by decide +kernel
theorem d_Sh_altered_38 : decode c_Sh_altered 38 = .ok (.iadd, 1) := by decide +kernel
theorem d_Sh_altered_39 : decode c_Sh_altered 39 = .ok (.ireturn, 1) := by decide +kernel
theorem d_Sh_altered_40 : decode c_Sh_altered 40 = .ok (.iload_n 1, 1) := by decide +kernel
theorem d_Sh_altered_41 : decode c_Sh_altered 41 = .ok (.iload_n 2, 1) := by decide +kernel
theorem d_Sh_altered_42 : decode c_Sh_altered 42 = .ok (.isub, 1) := by decide +kernel
theorem d_Sh_altered_43 : decode c_Sh_altered 43 = .ok (.ireturn, 1) := by decide +kernel
theorem d_Sh_altered_44 : decode c_Sh_altered 44 = .ok (.iload_n 2, 1) := by decide +kernel
theorem d_Sh_altered_45 : decode c_Sh_altered 45 = .ok (.ifCond .eq 7, 3) := by decide +kernel
theorem d_Sh_altered_48 : decode c_Sh_altered 48 = .ok (.iload_n 1, 1) := by decide +kernel
theorem d_Sh_altered_49 : decode c_Sh_altered 49 = .ok (.goto 4, 3) := by decide +kernel
theorem d_Sh_altered_52 : decode c_Sh_altered 52 = .ok (.iconst 0, 1) := by decide +kernel
theorem d_Sh_altered_53 : decode c_Sh_altered 53 = .ok (.ireturn, 1) := by decide +kernel
theorem d_Sh_altered_54 : decode c_Sh_altered 54 = .ok (.iload_n 2, 1) := by decide +kernel
theorem d_Sh_altered_55 : decode c_Sh_altered 55 = .ok (.ifCond .ne 7, 3) := by decide +kernel
theorem d_Sh_altered_58 : decode c_Sh_altered 58 = .ok (.iload_n 1, 1) := by decide +kernel
theorem d_Sh_altered_59 : decode c_Sh_altered 59 = .ok (.goto 4, 3) := by decide +kernel
theorem d_Sh_altered_62 : decode c_Sh_altered 62 = .ok (.iconst 0, 1) := by decide +kernel
theorem d_Sh_altered_63 : decode c_Sh_altered 63 = .ok (.ireturn, 1) := by decide +kernel
theorem d_Sh_altered_64 : decode c_Sh_altered 64 = .ok (.iload_n 1, 1) := by decide +kernel
theorem d_Sh_altered_65 : decode c_Sh_altered 65 = .ok (.ifCond .ne 7, 3) := by decide +kernel
theorem d_Sh_altered_68 : decode c_Sh_altered 68 = .ok (.iload_n 2, 1) := by decide +kernel
theorem d_Sh_altered_69 : decode c_Sh_altered 69 = .ok (.ifCond .eq 7, 3) := by decide +kernel
theorem d_Sh_altered_72 : decode c_Sh_altered 72 = .ok (.iconst 1, 1) := by decide +kernel
theorem d_Sh_altered_73 : decode c_Sh_altered 73 = .ok (.goto 4, 3) := by decide +kernel
theorem d_Sh_altered_76 : decode c_Sh_altered 76 = .ok (.iconst 0, 1) := by decide +kernel
theorem d_Sh_altered_77 : decode c_Sh_altered 77 = .ok (.ireturn, 1) := by decide +kernel
theorem d_Sh_altered_78 : decode c_Sh_altered 78 = .ok (.iload_n 1, 1) := by decide +kernel
theorem d_Sh_altered_79 : decode c_Sh_altered 79 = .ok (.ifCond .eq 15, 3) := by decide +kernel
theorem d_Sh_altered_82 : decode c_Sh_altered 82 = .ok (.iload_n 2, 1) := by decide +kernel
theorem d_Sh_altered_83 : decode c_Sh_altered 83 = .ok (.ifCond .eq 11, 3) := by decide +kernel
theorem d_Sh_altered_86 : decode c_Sh_altered 86 = .ok (.iload_n 1, 1) := by decide +kernel
theorem d_Sh_altered_87 : decode c_Sh_altered 87 = .ok (.iload_n 2, 1) := by decide +kernel
theorem d_Sh_altered_88 : decode c_Sh_altered 88 = .ok (.invokestatic 138, 3) := by decide +kernel
theorem d_Sh_altered_91 : decode c_Sh_altered 91 = .ok (.goto 4, 3) := by decide +kernel
theorem d_Sh_altered_94 : decode c_Sh_altered 94 = .ok (.iconst 0, 1) := by decide +kernel
theorem d_Sh_altered_95 : decode c_Sh_altered 95 = .ok (.ireturn, 1) := by decide +kernel
theorem d_Sh_reach_0 : decode c_Sh_reach 0 = .ok (.iload_n 1, 1) := by decide +kernel
theorem d_Sh_reach_1 : decode c_Sh_reach 1 = .ok (.invokestatic 63, 3) := by decide +kernel
theorem d_Sh_reach_4 : decode c_Sh_reach 4 = .ok (.aload_n 0, 1) := by decide +kernel
theorem d_Sh_reach_5 : decode c_Sh_reach 5 = .ok (.iload_n 2, 1) := by decide +kernel
theorem d_Sh_reach_6 : decode c_Sh_reach 6 = .ok (.invokevirtual 24, 3) := by decide +kernel
theorem d_Sh_reach_9 : decode c_Sh_reach 9 = .ok (.astore_n 3, 1) := by decide +kernel
theorem d_Sh_reach_10 : decode c_Sh_reach 10 = .ok (.aload_n 3, 1) := by decide +kernel
theorem d_Sh_reach_11 : decode c_Sh_reach 11 = .ok (.getfield 40, 3) := by decide +kernel
theorem d_Sh_reach_14 : decode c_Sh_reach 14 = .ok (.iconst 2, 1) := by decide +kernel
theorem d_Sh_reach_15 : decode c_Sh_reach 15 = .ok (.if_icmp .ne 7, 3) := by decide +kernel
theorem d_Sh_reach_18 : decode c_Sh_reach 18 = .ok (.iconst 1, 1) := by decide +kernel
theorem d_Sh_reach_19 : decode c_Sh_reach 19 = .ok (.goto 4, 3) := by decide +kernel
theorem d_Sh_reach_22 : decode c_Sh_reach 22 = .ok (.iconst 0, 1) := by decide +kernel
theorem d_Sh_reach_23 : decode c_Sh_reach 23 = .ok (.invokestatic 28, 3) := by decide +kernel
theorem d_Sh_reach_26 : decode c_Sh_reach 26 = .ok (.aload_n 0, 1) := by decide +kernel
theorem d_Sh_reach_27 : decode c_Sh_reach 27 = .ok (.aload_n 3, 1) := by decide +kernel
theorem d_Sh_reach_28 : decode c_Sh_reach 28 = .ok (.invokevirtual 92, 3) := by decide +kernel
theorem d_Sh_reach_31 : decode c_Sh_reach 31 = .ok (.aload_n 0, 1) := by decide +kernel
theorem d_Sh_reach_32 : decode c_Sh_reach 32 = .ok (.invokevirtual 96, 3) := by decide +kernel
theorem d_Sh_reach_35 : decode c_Sh_reach 35 = .ok (.aload_n 0, 1) := by decide +kernel
theorem d_Sh_reach_36 : decode c_Sh_reach 36 = .ok (.getfield 16, 3) := by decide +kernel
theorem d_Sh_reach_39 : decode c_Sh_reach 39 = .ok (.iconst 2, 1) := by decide +kernel
theorem d_Sh_reach_40 : decode c_Sh_reach 40 = .ok (.invokevirtual 36, 3) := by decide +kernel
theorem d_Sh_reach_43 : decode c_Sh_reach 43 = .ok (.iconst 0, 1) := by decide +kernel
theorem d_Sh_reach_44 : decode c_Sh_reach 44 = .ok (.istore 4, 2) := by decide +kernel
theorem d_Sh_reach_46 : decode c_Sh_reach 46 = .ok (.iload 4, 2) := by decide +kernel
theorem d_Sh_reach_48 : decode c_Sh_reach 48 = .ok (.bipush 16, 2) := by decide +kernel
theorem d_Sh_reach_50 : decode c_Sh_reach 50 = .ok (.if_icmp .ge 58, 3) := by decide +kernel
theorem d_Sh_reach_53 : decode c_Sh_reach 53 = .ok (.iconst 0, 1) := by decide +kernel
theorem d_Sh_reach_54 : decode c_Sh_reach 54 = .ok (.istore 5, 2) := by decide +kernel
theorem d_Sh_reach_56 : decode c_Sh_reach 56 = .ok (.iload 5, 2) := by decide +kernel
theorem d_Sh_reach_58 : decode c_Sh_reach 58 = .ok (.bipush 16, 2) := by decide +kernel
theorem d_Sh_reach_60 : decode c_Sh_reach 60 = .ok (.if_icmp .ge 42, 3) := by decide +kernel
theorem d_Sh_reach_63 : decode c_Sh_reach 63 = .ok (.aload_n 0, 1) := by decide +kernel
theorem d_Sh_reach_64 : decode c_Sh_reach 64 = .ok (.iload 4, 2) := by decide +kernel
theorem d_Sh_reach_66 : decode c_Sh_reach 66 = .ok (.iload 5, 2) := by decide +kernel
theorem d_Sh_reach_68 : decode c_Sh_reach 68 = .ok (.invokevirtual 99, 3) := by decide +kernel
theorem d_Sh_reach_71 : decode c_Sh_reach 71 = .ok (.ifCond .eq 25, 3) := by decide +kernel
theorem d_Sh_reach_74 : decode c_Sh_reach 74 = .ok (.aload_n 0, 1) := by decide +kernel
theorem d_Sh_reach_75 : decode c_Sh_reach 75 = .ok (.getfield 16, 3) := by decide +kernel
theorem d_Sh_reach_78 : decode c_Sh_reach 78 = .ok (.iload 4, 2) := by decide +kernel
theorem d_Sh_reach_80 : decode c_Sh_reach 80 = .ok (.iconst 0, 1) := by decide +kernel
theorem d_Sh_reach_81 : decode c_Sh_reach 81 = .ok (.invokestatic 102, 3) := by decide +kernel
theorem d_Sh_reach_84 : decode c_Sh_reach 84 = .ok (.iload 5, 2) := by decide +kernel
theorem d_Sh_reach_86 : decode c_Sh_reach 86 = .ok (.iconst 1, 1) := by decide +kernel
theorem d_Sh_reach_87 : decode c_Sh_reach 87 = .ok (.invokestatic 102, 3) := by decide +kernel
theorem d_Sh_reach_90 : decode c_Sh_reach 90 = .ok (.ior, 1) := by decide +kernel
theorem d_Sh_reach_91 : decode c_Sh_reach 91 = .ok (.iconst 1, 1) := by decide +kernel
theorem d_Sh_reach_92 : decode c_Sh_reach 92 = .ok (.invokevirtual 47, 3) := by decide +kernel
theorem d_Sh_reach_95 : decode c_Sh_reach 95 = .ok (.pop, 1) := by decide +kernel
theorem d_Sh_reach_96 : decode c_Sh_reach 96 = .ok (.iinc 5 1, 3) := by decide +kernel
theorem d_Sh_reach_99 : decode c_Sh_reach 99 = .ok (.goto (-43), 3) := by decide +kernel
theorem d_Sh_reach_102 : decode c_Sh_reach 102 = .ok (.iinc 4 1, 3) := by decide +kernel
theorem d_Sh_reach_105 : decode c_Sh_reach 105 = .ok (.goto (-59), 3) := by decide +kernel
theorem d_Sh_reach_108 : decode c_Sh_reach 108 = .ok (.aload_n 0, 1) := by decide +kernel
theorem d_Sh_reach_109 : decode c_Sh_reach 109 = .ok (.iload_n 1, 1) := by decide +kernel
theorem d_Sh_reach_110 : decode c_Sh_reach 110 = .ok (.invokevirtual 70, 3) := by decide +kernel
theorem d_Sh_reach_113 : decode c_Sh_reach 113 = .ok (.ireturn, 1) := by decide +kernel
theorem d_Sh_takeSteps_0 : decode c_Sh_takeSteps 0 = .ok (.iconst 0, 1) := by decide +kernel
theorem d_Sh_takeSteps_1 : decode c_Sh_takeSteps 1 = .ok (.istore_n 2, 1) := by decide +kernel
theorem d_Sh_takeSteps_2 : decode c_Sh_takeSteps 2 = .ok (.iload_n 2, 1) := by decide +kernel
theorem d_Sh_takeSteps_3 : decode c_Sh_takeSteps 3 = .ok (.bipush 16, 2) := by decide +kernel
theorem d_Sh_takeSteps_5 : decode c_Sh_takeSteps 5 = .ok (.if_icmp .ge 16, 3) := by decide +kernel
theorem d_Sh_takeSteps_8 : decode c_Sh_takeSteps 8 = .ok (.aload_n 0, 1) := by decide +kernel
theorem d_Sh_takeSteps_9 : decode c_Sh_takeSteps 9 = .ok (.getfield 20, 3) := by decide +kernel
theorem d_Sh_takeSteps_12 : decode c_Sh_takeSteps 12 = .ok (.iload_n 2, 1) := by decide +kernel
theorem d_Sh_takeSteps_13 : decode c_Sh_takeSteps 13 = .ok (.iconst 0, 1) := by decide +kernel
theorem d_Sh_takeSteps_14 : decode c_Sh_takeSteps 14 = .ok (.iastore, 1) := by decide +kernel
theorem d_Sh_takeSteps_15 : decode c_Sh_takeSteps 15 = .ok (.iinc 2 1, 3) := by decide +kernel
theorem d_Sh_takeSteps_18 : decode c_Sh_takeSteps 18 = .ok (.goto (-16), 3) := by decide +kernel
theorem d_Sh_takeSteps_21 : decode c_Sh_takeSteps 21 = .ok (.iconst 0, 1) := by decide +kernel
theorem d_Sh_takeSteps_22 : decode c_Sh_takeSteps 22 = .ok (.istore_n 2, 1) := by decide +kernel
theorem d_Sh_takeSteps_23 : decode c_Sh_takeSteps 23 = .ok (.iload_n 2, 1) := by decide +kernel
theorem d_Sh_takeSteps_24 : decode c_Sh_takeSteps 24 = .ok (.aload_n 1, 1) := by decide +kernel
theorem d_Sh_takeSteps_25 : decode c_Sh_takeSteps 25 = .ok (.getfield 32, 3) := by decide +kernel
theorem d_Sh_takeSteps_28 : decode c_Sh_takeSteps 28 = .ok (.if_icmp .ge 36, 3) := by decide +kernel
theorem d_Sh_takeSteps_31 : decode c_Sh_takeSteps 31 = .ok (.aload_n 1, 1) := by decide +kernel
theorem d_Sh_takeSteps_32 : decode c_Sh_takeSteps 32 = .ok (.getfield 60, 3) := by decide +kernel
theorem d_Sh_takeSteps_35 : decode c_Sh_takeSteps 35 = .ok (.iload_n 2, 1) := by decide +kernel
theorem d_Sh_takeSteps_36 : decode c_Sh_takeSteps 36 = .ok (.iaload, 1) := by decide +kernel
theorem d_Sh_takeSteps_37 : decode c_Sh_takeSteps 37 = .ok (.istore_n 3, 1) := by decide +kernel
theorem d_Sh_takeSteps_38 : decode c_Sh_takeSteps 38 = .ok (.aload_n 0, 1) := by decide +kernel
theorem d_Sh_takeSteps_39 : decode c_Sh_takeSteps 39 = .ok (.getfield 20, 3) := by decide +kernel
theorem d_Sh_takeSteps_42 : decode c_Sh_takeSteps 42 = .ok (.iload_n 3, 1) := by decide +kernel
theorem d_Sh_takeSteps_43 : decode c_Sh_takeSteps 43 = .ok (.iconst 0, 1) := by decide +kernel
theorem d_Sh_takeSteps_44 : decode c_Sh_takeSteps 44 = .ok (.invokestatic 85, 3) := by decide +kernel
theorem d_Sh_takeSteps_47 : decode c_Sh_takeSteps 47 = .ok (.dup2, 1) := by decide +kernel
theorem d_Sh_takeSteps_48 : decode c_Sh_takeSteps 48 = .ok (.iaload, 1) := by decide +kernel
theorem d_Sh_takeSteps_49 : decode c_Sh_takeSteps 49 = .ok (.iconst 1, 1) := by decide +kernel
theorem d_Sh_takeSteps_50 : decode c_Sh_takeSteps 50 = .ok (.iload_n 3, 1) := by decide +kernel
theorem d_Sh_takeSteps_51 : decode c_Sh_takeSteps 51 = .ok (.iconst 1, 1) := by decide +kernel
theorem d_Sh_takeSteps_52 : decode c_Sh_takeSteps 52 = .ok (.invokestatic 85, 3) := by decide +kernel
theorem d_Sh_takeSteps_55 : decode c_Sh_takeSteps 55 = .ok (.ishl, 1) := by decide +kernel
theorem d_Sh_takeSteps_56 : decode c_Sh_takeSteps 56 = .ok (.ior, 1) := by decide +kernel
theorem d_Sh_takeSteps_57 : decode c_Sh_takeSteps 57 = .ok (.iastore, 1) := by decide +kernel
theorem d_Sh_takeSteps_58 : decode c_Sh_takeSteps 58 = .ok (.iinc 2 1, 3) := by decide +kernel
theorem d_Sh_takeSteps_61 : decode c_Sh_takeSteps 61 = .ok (.goto (-38), 3) := by decide +kernel
theorem d_Sh_takeSteps_64 : decode c_Sh_takeSteps 64 = .ok (.return_, 1) := by decide +kernel
theorem d_Sh_followSteps_0 : decode c_Sh_followSteps 0 = .ok (.iconst 0, 1) := by decide +kernel
theorem d_Sh_followSteps_1 : decode c_Sh_followSteps 1 = .ok (.istore_n 1, 1) := by decide +kernel
theorem d_Sh_followSteps_2 : decode c_Sh_followSteps 2 = .ok (.iload_n 1, 1) := by decide +kernel
theorem d_Sh_followSteps_3 : decode c_Sh_followSteps 3 = .ok (.bipush 16, 2) := by decide +kernel
theorem d_Sh_followSteps_5 : decode c_Sh_followSteps 5 = .ok (.if_icmp .ge 47, 3) := by decide +kernel
theorem d_Sh_followSteps_8 : decode c_Sh_followSteps 8 = .ok (.iconst 0, 1) := by decide +kernel
theorem d_Sh_followSteps_9 : decode c_Sh_followSteps 9 = .ok (.istore_n 2, 1) := by decide +kernel
theorem d_Sh_followSteps_10 : decode c_Sh_followSteps 10 = .ok (.iload_n 2, 1) := by decide +kernel
theorem d_Sh_followSteps_11 : decode c_Sh_followSteps 11 = .ok (.bipush 16, 2) := by decide +kernel
theorem d_Sh_followSteps_13 : decode c_Sh_followSteps 13 = .ok (.if_icmp .ge 33, 3) := by decide +kernel
theorem d_Sh_followSteps_16 : decode c_Sh_followSteps 16 = .ok (.aload_n 0, 1) := by decide +kernel
theorem d_Sh_followSteps_17 : decode c_Sh_followSteps 17 = .ok (.iload_n 2, 1) := by decide +kernel
theorem d_Sh_followSteps_18 : decode c_Sh_followSteps 18 = .ok (.iload_n 1, 1) := by decide +kernel
theorem d_Sh_followSteps_19 : decode c_Sh_followSteps 19 = .ok (.invokevirtual 99, 3) := by decide +kernel
theorem d_Sh_followSteps_22 : decode c_Sh_followSteps 22 = .ok (.ifCond .eq 18, 3) := by decide +kernel
theorem d_Sh_followSteps_25 : decode c_Sh_followSteps 25 = .ok (.aload_n 0, 1) := by decide +kernel
theorem d_Sh_followSteps_26 : decode c_Sh_followSteps 26 = .ok (.getfield 20, 3) := by decide +kernel
theorem d_Sh_followSteps_29 : decode c_Sh_followSteps 29 = .ok (.iload_n 2, 1) := by decide +kernel
theorem d_Sh_followSteps_30 : decode c_Sh_followSteps 30 = .ok (.dup2, 1) := by decide +kernel
theorem d_Sh_followSteps_31 : decode c_Sh_followSteps 31 = .ok (.iaload, 1) := by decide +kernel
theorem d_Sh_followSteps_32 : decode c_Sh_followSteps 32 = .ok (.aload_n 0, 1) := by decide +kernel
theorem d_Sh_followSteps_33 : decode c_Sh_followSteps 33 = .ok (.getfield 20, 3) := by decide +kernel
theorem d_Sh_followSteps_36 : decode c_Sh_followSteps 36 = .ok (.iload_n 1, 1) := by decide +kernel
theorem d_Sh_followSteps_37 : decode c_Sh_followSteps 37 = .ok (.iaload, 1) := by decide +kernel
theorem d_Sh_followSteps_38 : decode c_Sh_followSteps 38 = .ok (.ior, 1) := by decide +kernel
theorem d_Sh_followSteps_39 : decode c_Sh_followSteps 39 = .ok (.iastore, 1) := by decide +kernel
theorem d_Sh_followSteps_40 : decode c_Sh_followSteps 40 = .ok (.iinc 2 1, 3) := by decide +kernel
theorem d_Sh_followSteps_43 : decode c_Sh_followSteps 43 = .ok (.goto (-33), 3) := by decide +kernel
theorem d_Sh_followSteps_46 : decode c_Sh_followSteps 46 = .ok (.iinc 1 1, 3) := by decide +kernel
theorem d_Sh_followSteps_49 : decode c_Sh_followSteps 49 = .ok (.goto (-47), 3) := by decide +kernel
theorem d_Sh_followSteps_52 : decode c_Sh_followSteps 52 = .ok (.return_, 1) := by decide +kernel
theorem d_Sh_isReached_0 : decode c_Sh_isReached 0 = .ok (.aload_n 0, 1) := by decide +kernel
theorem d_Sh_isReached_1 : decode c_Sh_isReached 1 = .ok (.getfield 20, 3) := by decide +kernel
theorem d_Sh_isReached_4 : decode c_Sh_isReached 4 = .ok (.iload_n 1, 1) := by decide +kernel
theorem d_Sh_isReached_5 : decode c_Sh_isReached 5 = .ok (.iaload, 1) := by decide +kernel
theorem d_Sh_isReached_6 : decode c_Sh_isReached 6 = .ok (.iload_n 2, 1) := by decide +kernel
theorem d_Sh_isReached_7 : decode c_Sh_isReached 7 = .ok (.ishr, 1) := by decide +kernel
theorem d_Sh_isReached_8 : decode c_Sh_isReached 8 = .ok (.iconst 1, 1) := by decide +kernel
theorem d_Sh_isReached_9 : decode c_Sh_isReached 9 = .ok (.iand, 1) := by decide +kernel
theorem d_Sh_isReached_10 : decode c_Sh_isReached 10 = .ok (.iconst 1, 1) := by decide +kernel
theorem d_Sh_isReached_11 : decode c_Sh_isReached 11 = .ok (.if_icmp .ne 7, 3) := by decide +kernel
theorem d_Sh_isReached_14 : decode c_Sh_isReached 14 = .ok (.iconst 1, 1) := by decide +kernel
theorem d_Sh_isReached_15 : decode c_Sh_isReached 15 = .ok (.goto 4, 3) := by decide +kernel
theorem d_Sh_isReached_18 : decode c_Sh_isReached 18 = .ok (.iconst 0, 1) := by decide +kernel
theorem d_Sh_isReached_19 : decode c_Sh_isReached 19 = .ok (.ireturn, 1) := by decide +kernel
theorem d_Sh_turn_0 : decode c_Sh_turn 0 = .ok (.iload_n 1, 1) := by decide +kernel
theorem d_Sh_turn_1 : decode c_Sh_turn 1 = .ok (.invokestatic 63, 3) := by decide +kernel
theorem d_Sh_turn_4 : decode c_Sh_turn 4 = .ok (.aload_n 0, 1) := by decide +kernel
theorem d_Sh_turn_5 : decode c_Sh_turn 5 = .ok (.iload_n 2, 1) := by decide +kernel
theorem d_Sh_turn_6 : decode c_Sh_turn 6 = .ok (.invokevirtual 24, 3) := by decide +kernel
theorem d_Sh_turn_9 : decode c_Sh_turn 9 = .ok (.astore_n 3, 1) := by decide +kernel
theorem d_Sh_turn_10 : decode c_Sh_turn 10 = .ok (.aload_n 0, 1) := by decide +kernel
theorem d_Sh_turn_11 : decode c_Sh_turn 11 = .ok (.getfield 16, 3) := by decide +kernel
theorem d_Sh_turn_14 : decode c_Sh_turn 14 = .ok (.aload_n 3, 1) := by decide +kernel
theorem d_Sh_turn_15 : decode c_Sh_turn 15 = .ok (.getfield 40, 3) := by decide +kernel
theorem d_Sh_turn_18 : decode c_Sh_turn 18 = .ok (.invokevirtual 36, 3) := by decide +kernel
theorem d_Sh_turn_21 : decode c_Sh_turn 21 = .ok (.iconst 0, 1) := by decide +kernel
theorem d_Sh_turn_22 : decode c_Sh_turn 22 = .ok (.istore 4, 2) := by decide +kernel
theorem d_Sh_turn_24 : decode c_Sh_turn 24 = .ok (.iload 4, 2) := by decide +kernel
theorem d_Sh_turn_26 : decode c_Sh_turn 26 = .ok (.aload_n 3, 1) := by decide +kernel
theorem d_Sh_turn_27 : decode c_Sh_turn 27 = .ok (.getfield 32, 3) := by decide +kernel
theorem d_Sh_turn_30 : decode c_Sh_turn 30 = .ok (.if_icmp .ge 38, 3) := by decide +kernel
theorem d_Sh_turn_33 : decode c_Sh_turn 33 = .ok (.aload_n 0, 1) := by decide +kernel
theorem d_Sh_turn_34 : decode c_Sh_turn 34 = .ok (.getfield 16, 3) := by decide +kernel
theorem d_Sh_turn_37 : decode c_Sh_turn 37 = .ok (.aload_n 3, 1) := by decide +kernel
theorem d_Sh_turn_38 : decode c_Sh_turn 38 = .ok (.getfield 60, 3) := by decide +kernel
theorem d_Sh_turn_41 : decode c_Sh_turn 41 = .ok (.iload 4, 2) := by decide +kernel
theorem d_Sh_turn_43 : decode c_Sh_turn 43 = .ok (.iaload, 1) := by decide +kernel
theorem d_Sh_turn_44 : decode c_Sh_turn 44 = .ok (.aload_n 3, 1) := by decide +kernel
theorem d_Sh_turn_45 : decode c_Sh_turn 45 = .ok (.getfield 40, 3) := by decide +kernel
theorem d_Sh_turn_48 : decode c_Sh_turn 48 = .ok (.invokestatic 105, 3) := by decide +kernel
theorem d_Sh_turn_51 : decode c_Sh_turn 51 = .ok (.aload_n 3, 1) := by decide +kernel
theorem d_Sh_turn_52 : decode c_Sh_turn 52 = .ok (.getfield 82, 3) := by decide +kernel
theorem d_Sh_turn_55 : decode c_Sh_turn 55 = .ok (.iload 4, 2) := by decide +kernel
theorem d_Sh_turn_57 : decode c_Sh_turn 57 = .ok (.iaload, 1) := by decide +kernel
theorem d_Sh_turn_58 : decode c_Sh_turn 58 = .ok (.invokevirtual 47, 3) := by decide +kernel
theorem d_Sh_turn_61 : decode c_Sh_turn 61 = .ok (.pop, 1) := by decide +kernel
theorem d_Sh_turn_62 : decode c_Sh_turn 62 = .ok (.iinc 4 1, 3) := by decide +kernel
theorem d_Sh_turn_65 : decode c_Sh_turn 65 = .ok (.goto (-41), 3) := by decide +kernel
theorem d_Sh_turn_68 : decode c_Sh_turn 68 = .ok (.aload_n 0, 1) := by decide +kernel
theorem d_Sh_turn_69 : decode c_Sh_turn 69 = .ok (.iload_n 1, 1) := by decide +kernel
theorem d_Sh_turn_70 : decode c_Sh_turn 70 = .ok (.invokevirtual 70, 3) := by decide +kernel
theorem d_Sh_turn_73 : decode c_Sh_turn 73 = .ok (.ireturn, 1) := by decide +kernel
theorem d_Sh_turned_0 : decode c_Sh_turned 0 = .ok (.iconst 0, 1) := by decide +kernel
theorem d_Sh_turned_1 : decode c_Sh_turned 1 = .ok (.istore_n 2, 1) := by decide +kernel
theorem d_Sh_turned_2 : decode c_Sh_turned 2 = .ok (.iconst 0, 1) := by decide +kernel
theorem d_Sh_turned_3 : decode c_Sh_turned 3 = .ok (.istore_n 3, 1) := by decide +kernel
theorem d_Sh_turned_4 : decode c_Sh_turned 4 = .ok (.iload_n 3, 1) := by decide +kernel
theorem d_Sh_turned_5 : decode c_Sh_turned 5 = .ok (.iload_n 1, 1) := by decide +kernel
theorem d_Sh_turned_6 : decode c_Sh_turned 6 = .ok (.if_icmp .ge 25, 3) := by decide +kernel
theorem d_Sh_turned_9 : decode c_Sh_turned 9 = .ok (.iload_n 2, 1) := by decide +kernel
theorem d_Sh_turned_10 : decode c_Sh_turned 10 = .ok (.iload_n 0, 1) := by decide +kernel
theorem d_Sh_turned_11 : decode c_Sh_turned 11 = .ok (.iload_n 3, 1) := by decide +kernel
theorem d_Sh_turned_12 : decode c_Sh_turned 12 = .ok (.invokestatic 85, 3) := by decide +kernel
theorem d_Sh_turned_15 : decode c_Sh_turned 15 = .ok (.iload_n 1, 1) := by decide +kernel
theorem d_Sh_turned_16 : decode c_Sh_turned 16 = .ok (.iconst 1, 1) := by decide +kernel
theorem d_Sh_turned_17 : decode c_Sh_turned 17 = .ok (.isub, 1) := by decide +kernel
theorem d_Sh_turned_18 : decode c_Sh_turned 18 = .ok (.iload_n 3, 1) := by decide +kernel
theorem d_Sh_turned_19 : decode c_Sh_turned 19 = .ok (.isub, 1) := by decide +kernel
theorem d_Sh_turned_20 : decode c_Sh_turned 20 = .ok (.invokestatic 102, 3) := by decide +kernel
theorem d_Sh_turned_23 : decode c_Sh_turned 23 = .ok (.ior, 1) := by decide +kernel
theorem d_Sh_turned_24 : decode c_Sh_turned 24 = .ok (.istore_n 2, 1) := by decide +kernel
theorem d_Sh_turned_25 : decode c_Sh_turned 25 = .ok (.iinc 3 1, 3) := by decide +kernel
theorem d_Sh_turned_28 : decode c_Sh_turned 28 = .ok (.goto (-24), 3) := by decide +kernel
theorem d_Sh_turned_31 : decode c_Sh_turned 31 = .ok (.iload_n 2, 1) := by decide +kernel
theorem d_Sh_turned_32 : decode c_Sh_turned 32 = .ok (.ireturn, 1) := by decide +kernel
theorem d_Sh_about_0 : decode c_Sh_about 0 = .ok (.aload_n 0, 1) := by decide +kernel
theorem d_Sh_about_1 : decode c_Sh_about 1 = .ok (.iload_n 1, 1) := by decide +kernel
theorem d_Sh_about_2 : decode c_Sh_about 2 = .ok (.invokevirtual 24, 3) := by decide +kernel
theorem d_Sh_about_5 : decode c_Sh_about 5 = .ok (.astore_n 3, 1) := by decide +kernel
theorem d_Sh_about_6 : decode c_Sh_about 6 = .ok (.iload_n 2, 1) := by decide +kernel
theorem d_Sh_about_7 : decode c_Sh_about 7 = .ok (.ifCond .lt 12, 3) := by decide +kernel
theorem d_Sh_about_10 : decode c_Sh_about 10 = .ok (.iload_n 2, 1) := by decide +kernel
theorem d_Sh_about_11 : decode c_Sh_about 11 = .ok (.iconst 4, 1) := by decide +kernel
theorem d_Sh_about_12 : decode c_Sh_about 12 = .ok (.if_icmp .gt 7, 3) := by decide +kernel
theorem d_Sh_about_15 : decode c_Sh_about 15 = .ok (.iconst 1, 1) := by decide +kernel
theorem d_Sh_about_16 : decode c_Sh_about 16 = .ok (.goto 4, 3) := by decide +kernel
theorem d_Sh_about_19 : decode c_Sh_about 19 = .ok (.iconst 0, 1) := by decide +kernel
theorem d_Sh_about_20 : decode c_Sh_about 20 = .ok (.invokestatic 28, 3) := by decide +kernel
theorem d_Sh_about_23 : decode c_Sh_about 23 = .ok (.iload_n 2, 1) := by decide +kernel
theorem d_Sh_about_24 : decode c_Sh_about 24 = .ok (.tableswitch 55 0 3 #[32, 38, 44, 50], 32) := by decide +kernel
theorem d_Sh_about_56 : decode c_Sh_about 56 = .ok (.aload_n 3, 1) := by decide +kernel
theorem d_Sh_about_57 : decode c_Sh_about 57 = .ok (.getfield 40, 3) := by decide +kernel
theorem d_Sh_about_60 : decode c_Sh_about 60 = .ok (.i2l, 1) := by decide +kernel
theorem d_Sh_about_61 : decode c_Sh_about 61 = .ok (.lreturn, 1) := by decide +kernel
theorem d_Sh_about_62 : decode c_Sh_about 62 = .ok (.aload_n 3, 1) := by decide +kernel
theorem d_Sh_about_63 : decode c_Sh_about 63 = .ok (.getfield 32, 3) := by decide +kernel
theorem d_Sh_about_66 : decode c_Sh_about 66 = .ok (.i2l, 1) := by decide +kernel
theorem d_Sh_about_67 : decode c_Sh_about 67 = .ok (.lreturn, 1) := by decide +kernel
theorem d_Sh_about_68 : decode c_Sh_about 68 = .ok (.aload_n 3, 1) := by decide +kernel
theorem d_Sh_about_69 : decode c_Sh_about 69 = .ok (.invokevirtual 108, 3) := by decide +kernel
theorem d_Sh_about_72 : decode c_Sh_about 72 = .ok (.i2l, 1) := by decide +kernel
theorem d_Sh_about_73 : decode c_Sh_about 73 = .ok (.lreturn, 1) := by decide +kernel
theorem d_Sh_about_74 : decode c_Sh_about 74 = .ok (.aload_n 3, 1) := by decide +kernel
theorem d_Sh_about_75 : decode c_Sh_about 75 = .ok (.invokevirtual 112, 3) := by decide +kernel
theorem d_Sh_about_78 : decode c_Sh_about 78 = .ok (.lreturn, 1) := by decide +kernel
theorem d_Sh_about_79 : decode c_Sh_about 79 = .ok (.aload_n 3, 1) := by decide +kernel
theorem d_Sh_about_80 : decode c_Sh_about 80 = .ok (.invokevirtual 116, 3) := by decide +kernel
theorem d_Sh_about_83 : decode c_Sh_about 83 = .ok (.i2l, 1) := by decide +kernel
theorem d_Sh_about_84 : decode c_Sh_about 84 = .ok (.lreturn, 1) := by decide +kernel
theorem d_Rel_firstNumbers_0 : decode c_Rel_firstNumbers 0 = .ok (.iconst 0, 1) := by decide +kernel
theorem d_Rel_firstNumbers_1 : decode c_Rel_firstNumbers 1 = .ok (.istore_n 1, 1) := by decide +kernel
theorem d_Rel_firstNumbers_2 : decode c_Rel_firstNumbers 2 = .ok (.iconst 0, 1) := by decide +kernel
theorem d_Rel_firstNumbers_3 : decode c_Rel_firstNumbers 3 = .ok (.istore_n 2, 1) := by decide +kernel
theorem d_Rel_firstNumbers_4 : decode c_Rel_firstNumbers 4 = .ok (.iload_n 2, 1) := by decide +kernel
theorem d_Rel_firstNumbers_5 : decode c_Rel_firstNumbers 5 = .ok (.aload_n 0, 1) := by decide +kernel
theorem d_Rel_firstNumbers_6 : decode c_Rel_firstNumbers 6 = .ok (.getfield 22, 3) := by decide +kernel
theorem d_Rel_firstNumbers_9 : decode c_Rel_firstNumbers 9 = .ok (.if_icmp .ge 24, 3) := by decide +kernel
theorem d_Rel_firstNumbers_12 : decode c_Rel_firstNumbers 12 = .ok (.iload_n 1, 1) := by decide +kernel
theorem d_Rel_firstNumbers_13 : decode c_Rel_firstNumbers 13 = .ok (.iconst 1, 1) := by decide +kernel
theorem d_Rel_firstNumbers_14 : decode c_Rel_firstNumbers 14 = .ok (.aload_n 0, 1) := by decide +kernel
theorem d_Rel_firstNumbers_15 : decode c_Rel_firstNumbers 15 = .ok (.getfield 9, 3) := by decide +kernel
theorem d_Rel_firstNumbers_18 : decode c_Rel_firstNumbers 18 = .ok (.iload_n 2, 1) := by decide +kernel
theorem d_Rel_firstNumbers_19 : decode c_Rel_firstNumbers 19 = .ok (.iaload, 1) := by decide +kernel
theorem d_Rel_firstNumbers_20 : decode c_Rel_firstNumbers 20 = .ok (.iconst 0, 1) := by decide +kernel
theorem d_Rel_firstNumbers_21 : decode c_Rel_firstNumbers 21 = .ok (.invokestatic 41, 3) := by decide +kernel
theorem d_Rel_firstNumbers_24 : decode c_Rel_firstNumbers 24 = .ok (.ishl, 1) := by decide +kernel
theorem d_Rel_firstNumbers_25 : decode c_Rel_firstNumbers 25 = .ok (.ior, 1) := by decide +kernel
theorem d_Rel_firstNumbers_26 : decode c_Rel_firstNumbers 26 = .ok (.istore_n 1, 1) := by decide +kernel
theorem d_Rel_firstNumbers_27 : decode c_Rel_firstNumbers 27 = .ok (.iinc 2 1, 3) := by decide +kernel
theorem d_Rel_firstNumbers_30 : decode c_Rel_firstNumbers 30 = .ok (.goto (-26), 3) := by decide +kernel
theorem d_Rel_firstNumbers_33 : decode c_Rel_firstNumbers 33 = .ok (.iload_n 1, 1) := by decide +kernel
theorem d_Rel_firstNumbers_34 : decode c_Rel_firstNumbers 34 = .ok (.invokestatic 45, 3) := by decide +kernel
theorem d_Rel_firstNumbers_37 : decode c_Rel_firstNumbers 37 = .ok (.ireturn, 1) := by decide +kernel
theorem d_Rel_sum_0 : decode c_Rel_sum 0 = .ok (.lconst 0, 1) := by decide +kernel
theorem d_Rel_sum_1 : decode c_Rel_sum 1 = .ok (.lstore_n 1, 1) := by decide +kernel
theorem d_Rel_sum_2 : decode c_Rel_sum 2 = .ok (.iconst 0, 1) := by decide +kernel
theorem d_Rel_sum_3 : decode c_Rel_sum 3 = .ok (.istore_n 3, 1) := by decide +kernel
theorem d_Rel_sum_4 : decode c_Rel_sum 4 = .ok (.iload_n 3, 1) := by decide +kernel
theorem d_Rel_sum_5 : decode c_Rel_sum 5 = .ok (.aload_n 0, 1) := by decide +kernel
theorem d_Rel_sum_6 : decode c_Rel_sum 6 = .ok (.getfield 22, 3) := by decide +kernel
theorem d_Rel_sum_9 : decode c_Rel_sum 9 = .ok (.if_icmp .ge 19, 3) := by decide +kernel
theorem d_Rel_sum_12 : decode c_Rel_sum 12 = .ok (.lload_n 1, 1) := by decide +kernel
theorem d_Rel_sum_13 : decode c_Rel_sum 13 = .ok (.aload_n 0, 1) := by decide +kernel
theorem d_Rel_sum_14 : decode c_Rel_sum 14 = .ok (.getfield 15, 3) := by decide +kernel
theorem d_Rel_sum_17 : decode c_Rel_sum 17 = .ok (.iload_n 3, 1) := by decide +kernel
theorem d_Rel_sum_18 : decode c_Rel_sum 18 = .ok (.iaload, 1) := by decide +kernel
theorem d_Rel_sum_19 : decode c_Rel_sum 19 = .ok (.i2l, 1) := by decide +kernel
theorem d_Rel_sum_20 : decode c_Rel_sum 20 = .ok (.ladd, 1) := by decide +kernel
theorem d_Rel_sum_21 : decode c_Rel_sum 21 = .ok (.lstore_n 1, 1) := by decide +kernel
theorem d_Rel_sum_22 : decode c_Rel_sum 22 = .ok (.iinc 3 1, 3) := by decide +kernel
theorem d_Rel_sum_25 : decode c_Rel_sum 25 = .ok (.goto (-21), 3) := by decide +kernel
theorem d_Rel_sum_28 : decode c_Rel_sum 28 = .ok (.lload_n 1, 1) := by decide +kernel
theorem d_Rel_sum_29 : decode c_Rel_sum 29 = .ok (.lreturn, 1) := by decide +kernel
theorem d_Rel_greatest_0 : decode c_Rel_greatest 0 = .ok (.aload_n 0, 1) := by decide +kernel
theorem d_Rel_greatest_1 : decode c_Rel_greatest 1 = .ok (.getfield 22, 3) := by decide +kernel
theorem d_Rel_greatest_4 : decode c_Rel_greatest 4 = .ok (.ifCond .ne 5, 3) := by decide +kernel
theorem d_Rel_greatest_7 : decode c_Rel_greatest 7 = .ok (.iconst 0, 1) := by decide +kernel
theorem d_Rel_greatest_8 : decode c_Rel_greatest 8 = .ok (.ireturn, 1) := by decide +kernel
theorem d_Rel_greatest_9 : decode c_Rel_greatest 9 = .ok (.aload_n 0, 1) := by decide +kernel
theorem d_Rel_greatest_10 : decode c_Rel_greatest 10 = .ok (.getfield 15, 3) := by decide +kernel
theorem d_Rel_greatest_13 : decode c_Rel_greatest 13 = .ok (.iconst 0, 1) := by decide +kernel
theorem d_Rel_greatest_14 : decode c_Rel_greatest 14 = .ok (.iaload, 1) := by decide +kernel
theorem d_Rel_greatest_15 : decode c_Rel_greatest 15 = .ok (.istore_n 1, 1) := by decide +kernel
theorem d_Rel_greatest_16 : decode c_Rel_greatest 16 = .ok (.iconst 1, 1) := by decide +kernel
theorem d_Rel_greatest_17 : decode c_Rel_greatest 17 = .ok (.istore_n 2, 1) := by decide +kernel
theorem d_Rel_greatest_18 : decode c_Rel_greatest 18 = .ok (.iload_n 2, 1) := by decide +kernel
theorem d_Rel_greatest_19 : decode c_Rel_greatest 19 = .ok (.aload_n 0, 1) := by decide +kernel
theorem d_Rel_greatest_20 : decode c_Rel_greatest 20 = .ok (.getfield 22, 3) := by decide +kernel
theorem d_Rel_greatest_23 : decode c_Rel_greatest 23 = .ok (.if_icmp .ge 20, 3) := by decide +kernel
theorem d_Rel_greatest_26 : decode c_Rel_greatest 26 = .ok (.iload_n 1, 1) := by decide +kernel
theorem d_Rel_greatest_27 : decode c_Rel_greatest 27 = .ok (.aload_n 0, 1) := by decide +kernel
theorem d_Rel_greatest_28 : decode c_Rel_greatest 28 = .ok (.getfield 15, 3) := by decide +kernel
theorem d_Rel_greatest_31 : decode c_Rel_greatest 31 = .ok (.iload_n 2, 1) := by decide +kernel
theorem d_Rel_greatest_32 : decode c_Rel_greatest 32 = .ok (.iaload, 1) := by decide +kernel
theorem d_Rel_greatest_33 : decode c_Rel_greatest 33 = .ok (.invokestatic 50, 3) := by decide +kernel
theorem d_Rel_greatest_36 : decode c_Rel_greatest 36 = .ok (.istore_n 1, 1) := by decide +kernel
theorem d_Rel_greatest_37 : decode c_Rel_greatest 37 = .ok (.iinc 2 1, 3) := by decide +kernel
theorem d_Rel_greatest_40 : decode c_Rel_greatest 40 = .ok (.goto (-22), 3) := by decide +kernel
theorem d_Rel_greatest_43 : decode c_Rel_greatest 43 = .ok (.iload_n 1, 1) := by decide +kernel
theorem d_Rel_greatest_44 : decode c_Rel_greatest 44 = .ok (.ireturn, 1) := by decide +kernel
theorem d_Sh_same_0 : decode c_Sh_same 0 = .ok (.aload_n 0, 1) := by decide +kernel
theorem d_Sh_same_1 : decode c_Sh_same 1 = .ok (.iload_n 1, 1) := by decide +kernel
theorem d_Sh_same_2 : decode c_Sh_same 2 = .ok (.invokevirtual 24, 3) := by decide +kernel
theorem d_Sh_same_5 : decode c_Sh_same 5 = .ok (.astore_n 3, 1) := by decide +kernel
theorem d_Sh_same_6 : decode c_Sh_same 6 = .ok (.aload_n 0, 1) := by decide +kernel
theorem d_Sh_same_7 : decode c_Sh_same 7 = .ok (.iload_n 2, 1) := by decide +kernel
theorem d_Sh_same_8 : decode c_Sh_same 8 = .ok (.invokevirtual 24, 3) := by decide +kernel
theorem d_Sh_same_11 : decode c_Sh_same 11 = .ok (.astore 4, 2) := by decide +kernel
theorem d_Sh_same_13 : decode c_Sh_same 13 = .ok (.aload_n 3, 1) := by decide +kernel
theorem d_Sh_same_14 : decode c_Sh_same 14 = .ok (.aload 4, 2) := by decide +kernel
theorem d_Sh_same_16 : decode c_Sh_same 16 = .ok (.invokevirtual 119, 3) := by decide +kernel
theorem d_Sh_same_19 : decode c_Sh_same 19 = .ok (.ireturn, 1) := by decide +kernel
theorem d_Rel_holdsWhat_0 : decode c_Rel_holdsWhat 0 = .ok (.aload_n 0, 1) := by decide +kernel
theorem d_Rel_holdsWhat_1 : decode c_Rel_holdsWhat 1 = .ok (.getfield 18, 3) := by decide +kernel
theorem d_Rel_holdsWhat_4 : decode c_Rel_holdsWhat 4 = .ok (.aload_n 1, 1) := by decide +kernel
theorem d_Rel_holdsWhat_5 : decode c_Rel_holdsWhat 5 = .ok (.getfield 18, 3) := by decide +kernel
theorem d_Rel_holdsWhat_8 : decode c_Rel_holdsWhat 8 = .ok (.if_icmp .ne 14, 3) := by decide +kernel
theorem d_Rel_holdsWhat_11 : decode c_Rel_holdsWhat 11 = .ok (.aload_n 0, 1) := by decide +kernel
theorem d_Rel_holdsWhat_12 : decode c_Rel_holdsWhat 12 = .ok (.getfield 22, 3) := by decide +kernel
theorem d_Rel_holdsWhat_15 : decode c_Rel_holdsWhat 15 = .ok (.aload_n 1, 1) := by decide +kernel
theorem d_Rel_holdsWhat_16 : decode c_Rel_holdsWhat 16 = .ok (.getfield 22, 3) := by decide +kernel
theorem d_Rel_holdsWhat_19 : decode c_Rel_holdsWhat 19 = .ok (.if_icmp .eq 5, 3) := by decide +kernel
theorem d_Rel_holdsWhat_22 : decode c_Rel_holdsWhat 22 = .ok (.iconst 0, 1) := by decide +kernel
theorem d_Rel_holdsWhat_23 : decode c_Rel_holdsWhat 23 = .ok (.ireturn, 1) := by decide +kernel
theorem d_Rel_holdsWhat_24 : decode c_Rel_holdsWhat 24 = .ok (.iconst 0, 1) := by decide +kernel
theorem d_Rel_holdsWhat_25 : decode c_Rel_holdsWhat 25 = .ok (.istore_n 2, 1) := by decide +kernel
theorem d_Rel_holdsWhat_26 : decode c_Rel_holdsWhat 26 = .ok (.iload_n 2, 1) := by decide +kernel
theorem d_Rel_holdsWhat_27 : decode c_Rel_holdsWhat 27 = .ok (.aload_n 0, 1) := by decide +kernel
theorem d_Rel_holdsWhat_28 : decode c_Rel_holdsWhat 28 = .ok (.getfield 22, 3) := by decide +kernel
theorem d_Rel_holdsWhat_31 : decode c_Rel_holdsWhat 31 = .ok (.if_icmp .ge 41, 3) := by decide +kernel
theorem d_Rel_holdsWhat_34 : decode c_Rel_holdsWhat 34 = .ok (.aload_n 0, 1) := by decide +kernel
theorem d_Rel_holdsWhat_35 : decode c_Rel_holdsWhat 35 = .ok (.getfield 9, 3) := by decide +kernel
theorem d_Rel_holdsWhat_38 : decode c_Rel_holdsWhat 38 = .ok (.iload_n 2, 1) := by decide +kernel
theorem d_Rel_holdsWhat_39 : decode c_Rel_holdsWhat 39 = .ok (.iaload, 1) := by decide +kernel
theorem d_Rel_holdsWhat_40 : decode c_Rel_holdsWhat 40 = .ok (.aload_n 1, 1) := by decide +kernel
theorem d_Rel_holdsWhat_41 : decode c_Rel_holdsWhat 41 = .ok (.getfield 9, 3) := by decide +kernel
theorem d_Rel_holdsWhat_44 : decode c_Rel_holdsWhat 44 = .ok (.iload_n 2, 1) := by decide +kernel
theorem d_Rel_holdsWhat_45 : decode c_Rel_holdsWhat 45 = .ok (.iaload, 1) := by decide +kernel
theorem d_Rel_holdsWhat_46 : decode c_Rel_holdsWhat 46 = .ok (.if_icmp .ne 18, 3) := by decide +kernel
theorem d_Rel_holdsWhat_49 : decode c_Rel_holdsWhat 49 = .ok (.aload_n 0, 1) := by decide +kernel
theorem d_Rel_holdsWhat_50 : decode c_Rel_holdsWhat 50 = .ok (.getfield 15, 3) := by decide +kernel
theorem d_Rel_holdsWhat_53 : decode c_Rel_holdsWhat 53 = .ok (.iload_n 2, 1) := by decide +kernel
theorem d_Rel_holdsWhat_54 : decode c_Rel_holdsWhat 54 = .ok (.iaload, 1) := by decide +kernel
theorem d_Rel_holdsWhat_55 : decode c_Rel_holdsWhat 55 = .ok (.aload_n 1, 1) := by decide +kernel
theorem d_Rel_holdsWhat_56 : decode c_Rel_holdsWhat 56 = .ok (.getfield 15, 3) := by decide +kernel
theorem d_Rel_holdsWhat_59 : decode c_Rel_holdsWhat 59 = .ok (.iload_n 2, 1) := by decide +kernel
theorem d_Rel_holdsWhat_60 : decode c_Rel_holdsWhat 60 = .ok (.iaload, 1) := by decide +kernel
theorem d_Rel_holdsWhat_61 : decode c_Rel_holdsWhat 61 = .ok (.if_icmp .eq 5, 3) := by decide +kernel
theorem d_Rel_holdsWhat_64 : decode c_Rel_holdsWhat 64 = .ok (.iconst 0, 1) := by decide +kernel
theorem d_Rel_holdsWhat_65 : decode c_Rel_holdsWhat 65 = .ok (.ireturn, 1) := by decide +kernel
theorem d_Rel_holdsWhat_66 : decode c_Rel_holdsWhat 66 = .ok (.iinc 2 1, 3) := by decide +kernel
theorem d_Rel_holdsWhat_69 : decode c_Rel_holdsWhat 69 = .ok (.goto (-43), 3) := by decide +kernel
theorem d_Rel_holdsWhat_72 : decode c_Rel_holdsWhat 72 = .ok (.iconst 1, 1) := by decide +kernel
theorem d_Rel_holdsWhat_73 : decode c_Rel_holdsWhat 73 = .ok (.ireturn, 1) := by decide +kernel
end
section
/-! THE WORLD AS ROWS OF NUMBERS. Cell number q (0: the shelf, 1: its array of relations, 2+3i: relation i, then its tuples and counts, 29: reached, 30: the reference, 31: its widths, 32: counts, 33: made, 34: way, 35: the law's out) lies at the address zad G q; row q of the state is what it holds. -/
abbrev zS : Type := (Nat → Nat → Int32) × (Nat → Int64)
def zu (σ : zS) (k : Nat) (f : Nat → Int32) : zS := (fun q => if q = k then f else σ.1 q, σ.2)
def zul (σ : zS) (f : Nat → Int64) : zS := (σ.1, f)
abbrev zG : Type := va_G × (Nat → Nat) × Heap × ClassId × ClassId × ClassId × ClassId
def zD (G : zG) : va_G := G.1
def zad (G : zG) : Nat → Nat := G.2.1
def zH (G : zG) : Heap := G.2.2.1
def zcI (G : zG) : ClassId := G.2.2.2.1
def zcJ (G : zG) : ClassId := G.2.2.2.2.1
def zcZ (G : zG) : ClassId := G.2.2.2.2.2.1
def zcR (G : zG) : ClassId := G.2.2.2.2.2.2
def zT (G : zG) : List (ClassId × FieldType) := [(zcI G, .int), (zcJ G, .long), (zcZ G, .boolean), (zcR G, .object R_Rel)]
def zA (G : zG) : Nat → Prop := fun q => (zH G).size ≤ q
def zn (q : Nat) : Nat := if q < 29 then 300 else if q = 29 then 16 else if q = 31 then 8 else if q = 32 then 32768 else 4096
def zF (G : zG) (q : Nat) (r : Nat → Int32) (x : Nat → Int64) : va_E :=
  if q = 0 then .inr (n_Shelf, [.ref (zad G 1), .ref (zad G (r 0).toNatClampNeg), .ref (zad G 29)])
  else if q = 1 then .inl (zcR G, 8, .inr (.inr (.inr (.inr (fun j => some (zad G (r j).toNatClampNeg))))))
  else if q < 29 ∧ q % 3 = 2 then .inr (n_Rel, [.ref (zad G (q + 1)), .ref (zad G (q + 2)), .int (r 0), .int (r 1)])
  else if q = 30 then .inr (n_Model, [.int (r 0), .ref (zad G 31), .ref (zad G 32), .ref (zad G 33), .ref (zad G 34)])
  else if q = 34 then .inl (zcZ G, 256, .inl r)
  else if q = 35 then .inl (zcJ G, 1, .inr (.inl x))
  else .inl (zcI G, zn q, .inl r)
def zW (G : zG) (σ : zS) : va_W := (List.range 36).map fun q => (zad G q, zF G q (σ.1 q) σ.2)
/-- an int array; a relation -/
def zia (q : Nat) : Prop := (2 ≤ q ∧ q < 29 ∧ q % 3 ≠ 2) ∨ q = 29 ∨ q = 31 ∨ q = 32 ∨ q = 33
def zrl (q : Nat) : Prop := 2 ≤ q ∧ q < 29 ∧ q % 3 = 2
theorem zF_int {G : zG} {q : Nat} {r : Nat → Int32} {x : Nat → Int64} (h : zia q) : zF G q r x = .inl (zcI G, zn q, .inl r) := by
  unfold zia at h
  unfold zF
  rw [if_neg (by omega), if_neg (by omega), if_neg (by omega), if_neg (by omega), if_neg (by omega), if_neg (by omega)]
theorem zF_rel {G : zG} {q : Nat} {r : Nat → Int32} {x : Nat → Int64} (h : zrl q) : zF G q r x = .inr (n_Rel, [.ref (zad G (q + 1)), .ref (zad G (q + 2)), .int (r 0), .int (r 1)]) := by
  unfold zrl at h
  unfold zF
  rw [if_neg (by omega), if_neg (by omega), if_pos ⟨h.2.1, h.2.2⟩]
theorem zia.lt {q : Nat} (h : zia q) : q < 36 := by unfold zia at h; omega
theorem zrl.lt {q : Nat} (h : zrl q) : q < 36 := by unfold zrl at h; omega
theorem zrl.t {q : Nat} (h : zrl q) : zia (q + 1) := by unfold zrl at h; unfold zia; omega
theorem zrl.c {q : Nat} (h : zrl q) : zia (q + 2) := by unfold zrl at h; unfold zia; omega
theorem zrl.nt {q : Nat} (h : zrl q) : zn (q + 1) = 300 := by unfold zrl at h; unfold zn; rw [if_pos (by omega)]
theorem zrl.nc {q : Nat} (h : zrl q) : zn (q + 2) = 300 := by unfold zrl at h; unfold zn; rw [if_pos (by omega)]
theorem zW_at {G : zG} {σ : zS} {q : Nat} (h : q < 36) : (zW G σ)[q]? = some (zad G q, zF G q (σ.1 q) σ.2) := by
  unfold zW
  rw [List.getElem?_map, List.getElem?_range h]
  rfl
theorem zW_none {G : zG} {σ : zS} {q : Nat} (h : ¬ q < 36) : (zW G σ)[q]? = none := by
  apply List.getElem?_eq_none
  simp [zW]
  omega
theorem zW_set {G : zG} {σ σ' : zS} {q : Nat} {e : va_E} (h : q < 36) (he : zF G q (σ'.1 q) σ'.2 = e) (ho : ∀ k, k ≠ q → zF G k (σ'.1 k) σ'.2 = zF G k (σ.1 k) σ.2) : (zW G σ).set q (zad G q, e) = zW G σ' := by
  apply List.ext_getElem?
  intro k
  by_cases hk : k = q
  · subst hk
    rw [List.getElem?_set_self (by simp [zW]; exact h), zW_at h, he]
  · rw [List.getElem?_set_ne (Ne.symm hk)]
    by_cases h36 : k < 36
    · rw [zW_at h36, zW_at h36, ho k hk]
    · rw [zW_none h36, zW_none h36]
theorem zu_self (σ : zS) (k : Nat) (f : Nat → Int32) : (zu σ k f).1 k = f := by simp [zu]
theorem zu_ne (σ : zS) {k q : Nat} (f : Nat → Int32) (h : q ≠ k) : (zu σ k f).1 q = σ.1 q := by simp [zu, h]
theorem zW_zu {G : zG} {σ : zS} {q : Nat} {f : Nat → Int32} {e : va_E} (h : q < 36) (he : zF G q f σ.2 = e) : (zW G σ).set q (zad G q, e) = zW G (zu σ q f) :=
  zW_set h (by rw [zu_self]; exact he) (fun k hk => by rw [zu_ne σ f hk]; rfl)
def zNS : String := "java/util/NoSuchElementException"
def zIA : String := "java/lang/IllegalArgumentException"
def zIS : String := "java/lang/IllegalStateException"
/-- words that no list keeps: of the exceptions' chain, of the handlers, of a nest mate's method; and what the two statics of Throwable hold -/
def zSt (G : zG) (U : State) : Prop := (vx_Zq Bundle.tN "UNASSIGNED_STACK" Bundle.steD (zA G) U (zH G) ∧ vx_Zq Bundle.tN "SUPPRESSED_SENTINEL" Bundle.listD (zA G) U (zH G)) ∧
  (va_Nw (.declares (Bundle.init0 "java/lang/RuntimeException")) U ∧ va_Nw (.declares (Bundle.init0 "java/lang/Exception")) U ∧ va_Nw (.declares (Bundle.init0 Bundle.tN)) U) ∧
  (va_Nw (.castable zNS zNS) U ∧ va_Nw (.castable zIA zIA) U ∧ va_Nw (.castable zIS zIS) U) ∧ (va_Nc zIA zNS U ∧ va_Nc zIS zNS U ∧ va_Nc zIS zIA U) ∧ va_Nw (.methodLinkNest R_Rel 41 y_Sh_numberAt R_Sh) U
theorem zSt.moved {G : zG} {u U : State} (hW : u.WarmedH U.vm) (h : zSt G u) : zSt G U := by
  obtain ⟨⟨a1, a2⟩, ⟨b1, b2, b3⟩, ⟨c1, c2, c3⟩, ⟨d1, d2, d3⟩, e1⟩ := h
  exact ⟨⟨a1.moved hW.alike, a2.moved hW.alike⟩, ⟨va_Nw.warmD hW b1, va_Nw.warmD hW b2, va_Nw.warmD hW b3⟩, ⟨va_Nw.warmC hW c1, va_Nw.warmC hW c2, va_Nw.warmC hW c3⟩, ⟨d1.moved hW.alike, d2.moved hW.alike, d3.moved hW.alike⟩, va_Nw.warmM hW e1⟩
/-- the world holds the state, its cells apart; what was there before the law began is as it was -/
def zJ (G : zG) (σ : zS) (U : State) : Prop := va_P (zD G) vwCl (zW G σ) U.heap ∧ va_D (zA G) (zW G σ) ∧ va_S (zA G) (zH G) U.heap []
/-- .. and the tables are as they must be -/
def zI (G : zG) (σ : zS) (U : State) : Prop := zJ G σ U ∧ va_K (zD G) vwCl (zT G) U ∧ zSt G U
/-- a method's end: it returned, with an answer and a state as φ has it -/
def zQ (G : zG) (φ : Option Value → zS → Prop) : Array Value → State → Outcome → State → Prop := fun _ _ o t => ∃ (v : Option Value) (σ : zS), o = .returned v ∧ φ v σ ∧ zJ G σ t
def zC (l : Launch) (G : zG) (y : MethodName) (ws : List Cond) (rm : Room) (mc ms : Nat) (as : List Value) (σ : zS) (φ : Option Value → zS → Prop) : Prop := Met l y ws rm (va_Pc as (zI G σ)) (zQ G φ) mc ms (zA G)
theorem zI.blind {G : zG} {σ : zS} {as : List Value} : FrameBlind (va_Pc as (zI G σ)) := fun a U g mk q => by
  obtain ⟨q0, qJ, qK, qs⟩ := q
  exact ⟨q0, qJ, va_K.moved (u := U) (U := U.calling g mk a) (Vm.Alike.refl U.vm) qK, zSt.moved (u := U) (U := U.calling g mk a) (State.WarmedH.refl U) qs⟩
/-- what stands fixed during one call of a method -/
def zCx (G : zG) (Ts : List Cond) (own : String) (cc : ByteArray) (nL : Nat) (ret : Option FieldType) (xt : List ExceptionTableEntry) (p : Program) (s : State) (m : MethodId) (args : Array Value) (meth : Method) (c : Code) : Prop :=
  p.tables.exec = Jvm.exec ∧ c.code = cc ∧ c.maxLocals = nL ∧ meth.sig.returnType = ret ∧ meth.locks = false ∧ (∀ w ∈ Ts, w.before args s = true) ∧ (∀ w ∈ zws, w ∈ Ts) ∧ s.vm.findClass own = some m.cls ∧ va_K (zD G) vwCl (zT G) s ∧ zSt G s ∧ c.exceptionTable.toList = xt ∧ va_S (zA G) (zH G) s.heap []
section ZCX
variable {G : zG} {Ts : List Cond} {own : String} {cc : ByteArray} {nL : Nat} {ret : Option FieldType} {xt : List ExceptionTableEntry} {p : Program} {s : State} {m : MethodId} {args : Array Value} {meth : Method} {c : Code}
theorem zCx.ex (C : zCx G Ts own cc nL ret xt p s m args meth c) : p.tables.exec = Jvm.exec := C.1
theorem zCx.bt (C : zCx G Ts own cc nL ret xt p s m args meth c) : c.code = cc := C.2.1
theorem zCx.ml (C : zCx G Ts own cc nL ret xt p s m args meth c) : c.maxLocals = nL := C.2.2.1
theorem zCx.re (C : zCx G Ts own cc nL ret xt p s m args meth c) : meth.sig.returnType = ret := C.2.2.2.1
theorem zCx.lk (C : zCx G Ts own cc nL ret xt p s m args meth c) : meth.locks = false := C.2.2.2.2.1
theorem zCx.ts (C : zCx G Ts own cc nL ret xt p s m args meth c) : ∀ w ∈ Ts, w.before args s = true := C.2.2.2.2.2.1
theorem zCx.zs (C : zCx G Ts own cc nL ret xt p s m args meth c) : ∀ w ∈ zws, w.before args s = true := fun w h => C.ts w (C.2.2.2.2.2.2.1 w h)
theorem zCx.ow (C : zCx G Ts own cc nL ret xt p s m args meth c) : s.vm.findClass own = some m.cls := C.2.2.2.2.2.2.2.1
theorem zCx.K (C : zCx G Ts own cc nL ret xt p s m args meth c) : va_K (zD G) vwCl (zT G) s := C.2.2.2.2.2.2.2.2.1
theorem zCx.st (C : zCx G Ts own cc nL ret xt p s m args meth c) : zSt G s := C.2.2.2.2.2.2.2.2.2.1
theorem zCx.tb (C : zCx G Ts own cc nL ret xt p s m args meth c) : c.exceptionTable.toList = xt := C.2.2.2.2.2.2.2.2.2.2.1
theorem zCx.w0 (C : zCx G Ts own cc nL ret xt p s m args meth c) : va_S (zA G) (zH G) s.heap [] := C.2.2.2.2.2.2.2.2.2.2.2
end ZCX
/-- THE JUDGEMENT: from pc, with these locals, stack and state, whatever the call, the method comes to its end Fin -/
def zB (l : Launch) (G : zG) (Ts : List Cond) (own : String) (cc : ByteArray) (nL : Nat) (ret : Option FieldType) (xt : List ExceptionTableEntry) (R : Room) (Fin : List Frame → Array Value → State → State → Prop) (cs sl : Nat) (pc : Nat) (lv : List (Nat × Value)) (st : List Value) (σ : zS) : Prop :=
  ∀ (p : Program) (e : Env) (s : State) (m : MethodId) (args : Array Value) (below : List Frame) (meth : Method) (c : Code), zCx G Ts own cc nL ret xt p s m args meth c →
    ∀ (H : Heap) (locs : List Loc) (ls : Array Slot), lv_has ls nL lv → va_P (zD G) vwCl (zW G σ) H → va_D (zA G) (zW G σ) → va_S (zA G) (zH G) H locs → W p l e R s m args below meth c H locs cs sl (Fin below args s) (F0 m pc ls st)
/-- the end of a method that returns -/
def zR (G : zG) (φ : Option Value → zS → Prop) (mc ms : Nat) : List Frame → Array Value → State → State → Prop := fun below args s => MQ below (zQ G φ) args s mc ms (zA G)
def zl : List (Nat × Value) → Nat → Option Value
  | [], _ => none
  | q :: t, i => bif Nat.beq q.1 i then some q.2 else zl t i
theorem zl_mem : ∀ {lv : List (Nat × Value)} {i : Nat} {v : Value}, zl lv i = some v → (i, v) ∈ lv
  | [], _, _, h => by cases h
  | (k, x) :: t, i, v, h => by
    unfold zl at h
    cases hb : Nat.beq k i with
    | true =>
      rw [hb] at h
      have e : k = i := Nat.eq_of_beq_eq_true hb
      subst e
      cases h
      exact List.mem_cons_self
    | false =>
      rw [hb] at h
      exact List.mem_cons_of_mem _ (zl_mem h)
theorem zl_at {ls : Array Slot} {nL : Nat} {lv : List (Nat × Value)} {i : Nat} {v : Value} (h : lv_has ls nL lv) (hv : zl lv i = some v) : ls[i]? = some (.val v) := h.2.2 (i, v) (zl_mem hv)
theorem zl_idx : ∀ {lv : List (Nat × Value)} {i : Nat} {v : Value}, zl lv i = some v → ∃ k : Nat, lv[k]? = some (i, v) := fun h => List.getElem?_of_mem (zl_mem h)
/-- the locals behind a store -/
def zs1 (lv : List (Nat × Value)) (i : Nat) (v : Value) : List (Nat × Value) := (i, v) :: lv.filter (fun q => !(q.1 == i) && !(q.1 + 1 == i && q.2.category == 2))
def zs2 (lv : List (Nat × Value)) (i : Nat) (v : Value) : List (Nat × Value) := (i, v) :: lv.filter (fun q => !(q.1 == i) && (!(q.1 == i + 1) && !(q.1 + 1 == i && q.2.category == 2)))
section ZB
variable {l : Launch} {G : zG} {Ts : List Cond} {own : String} {cc : ByteArray} {nL : Nat} {ret : Option FieldType} {xt : List ExceptionTableEntry} {R : Room} {Fin : List Frame → Array Value → State → State → Prop} {cs sl : Nat} {pc : Nat} {lv lv' : List (Nat × Value)} {st : List Value} {σ : zS}
theorem zC_of {y : MethodName} {as : List Value} {φ : Option Value → zS → Prop} {mc ms : Nat} (hy : plainName y.cls = true) (hw : Ts = zwy y cc nL ret) (ho : y.cls = own) (hn : (lg_sl as).length ≤ nL) (k : zB l G Ts own cc nL ret [] R (zR G φ mc ms) 0 0 0 (lv_args 0 as) [] σ) : zC l G y Ts R mc ms as σ φ := by
  refine Met.ofW (cc := cc) (maxL := nL) (ret := ret) hy hw ?_
  intro p e s m args below meth c s₁ B hml hv
  obtain ⟨rfl, ⟨hP, hD, hold⟩, hK, hst⟩ := hv
  have hx0 : c.exceptionTable.toList = [] := by
    have h0 : c.exceptionTable.size = 0 := by simpa [Array.isEmpty] using B.noHandlers (atoms_spec (ws := Ts) B.pre _ (by rw [hw]; exact List.mem_cons_self))
    exact List.eq_nil_of_length_eq_zero (by simpa using h0)
  rw [lg_entry_eq]
  exact k p e s m _ below meth c ⟨B.exec, B.bytes, hml, B.returns, B.notSynchronized, atoms_spec B.pre, fun w h => by rw [hw]; exact zwy_in h, by rw [← ho]; exact findClass_of_methodNamed B.named, hK, hst, hx0, hold⟩ s.heap [] _ (lv_entry as hn) hP hD hold
theorem zb_sub (ks : List Nat) (h : lv_pick lv ks = lv') (k : zB l G Ts own cc nL ret xt R Fin cs sl pc lv' st σ) : zB l G Ts own cc nL ret xt R Fin cs sl pc lv st σ :=
  fun p e s m args below meth c C H locs ls hl hP hD hS => k p e s m args below meth c C H locs ls (lv_sub hl ks h) hP hD hS
theorem zb_widen {k n : Nat} (h1 : cs ≤ k) (h2 : sl ≤ n) (kk : zB l G Ts own cc nL ret xt R Fin k n pc lv st σ) : zB l G Ts own cc nL ret xt R Fin cs sl pc lv st σ :=
  fun p e s m args below meth c C H locs ls hl hP hD hS => W.widen h1 h2 (kk p e s m args below meth c C H locs ls hl hP hD hS)
theorem zb_iconst {n : Int} {v : Int32} (d : decode cc pc = .ok (.iconst n, 1)) (hv : Int32.ofInt n = v) (k : zB l G Ts own cc nL ret xt R Fin cs sl (pc + 1) lv (.int v :: st) σ) : zB l G Ts own cc nL ret xt R Fin cs sl pc lv (st) σ :=
  fun p e s m args below meth c C H locs ls hl hP hD hS => lv_iconst C.1 C.2.1 d hv (k p e s m args below meth c C H locs ls hl hP hD hS)
theorem zb_bipush {n : Int} {v : Int32} (d : decode cc pc = .ok (.bipush n, 2)) (hv : (Int8.ofInt n).toInt32 = v) (k : zB l G Ts own cc nL ret xt R Fin cs sl (pc + 2) lv (.int v :: st) σ) : zB l G Ts own cc nL ret xt R Fin cs sl pc lv (st) σ :=
  fun p e s m args below meth c C H locs ls hl hP hD hS => lv_bipush C.1 C.2.1 d hv (k p e s m args below meth c C H locs ls hl hP hD hS)
theorem zb_sipush {n : Int} {v : Int32} (d : decode cc pc = .ok (.sipush n, 3)) (hv : (Int16.ofInt n).toInt32 = v) (k : zB l G Ts own cc nL ret xt R Fin cs sl (pc + 3) lv (.int v :: st) σ) : zB l G Ts own cc nL ret xt R Fin cs sl pc lv (st) σ :=
  fun p e s m args below meth c C H locs ls hl hP hD hS => lv_sipush C.1 C.2.1 d hv (k p e s m args below meth c C H locs ls hl hP hD hS)
theorem zb_lconst {n : _root_.Fin 2} {v : Int64} (d : decode cc pc = .ok (.lconst n, 1)) (hv : Int64.ofNat (n : Nat) = v) (k : zB l G Ts own cc nL ret xt R Fin cs sl (pc + 1) lv (.long v :: st) σ) : zB l G Ts own cc nL ret xt R Fin cs sl pc lv (st) σ :=
  fun p e s m args below meth c C H locs ls hl hP hD hS => lv_lconst C.1 C.2.1 d hv (k p e s m args below meth c C H locs ls hl hP hD hS)
theorem zb_iload_n {j : _root_.Fin 4} {i : Nat} {x : Int32} (d : decode cc pc = .ok (.iload_n j, 1)) (hi : (j : Nat) = i) (hv : zl lv i = some (.int x)) (k : zB l G Ts own cc nL ret xt R Fin cs sl (pc + 1) lv (.int x :: st) σ) : zB l G Ts own cc nL ret xt R Fin cs sl pc lv (st) σ :=
  fun p e s m args below meth c C H locs ls hl hP hD hS => lv_iload_n C.1 C.2.1 d hi (zl_at hl hv) (k p e s m args below meth c C H locs ls hl hP hD hS)
theorem zb_iload {i : Nat} {x : Int32} (d : decode cc pc = .ok (.iload i, 2)) (hv : zl lv i = some (.int x)) (k : zB l G Ts own cc nL ret xt R Fin cs sl (pc + 2) lv (.int x :: st) σ) : zB l G Ts own cc nL ret xt R Fin cs sl pc lv (st) σ :=
  fun p e s m args below meth c C H locs ls hl hP hD hS => lv_iload C.1 C.2.1 d (zl_at hl hv) (k p e s m args below meth c C H locs ls hl hP hD hS)
theorem zb_istore_n {j : _root_.Fin 4} {i : Nat} {x : Int32} (d : decode cc pc = .ok (.istore_n j, 1)) (hi : (j : Nat) = i) (hn : i < nL) (hl' : zs1 lv i (.int x) = lv') (k : zB l G Ts own cc nL ret xt R Fin cs sl (pc + 1) lv' st σ) : zB l G Ts own cc nL ret xt R Fin cs sl pc lv (.int x :: st) σ :=
  fun p e s m args below meth c C H locs ls hl hP hD hS => lv_istore_n C.1 C.2.1 d hi hl hn hl' (fun ls hl => k p e s m args below meth c C H locs ls hl hP hD hS)
theorem zb_istore {i : Nat} {x : Int32} (d : decode cc pc = .ok (.istore i, 2)) (hn : i < nL) (hl' : zs1 lv i (.int x) = lv') (k : zB l G Ts own cc nL ret xt R Fin cs sl (pc + 2) lv' st σ) : zB l G Ts own cc nL ret xt R Fin cs sl pc lv (.int x :: st) σ :=
  fun p e s m args below meth c C H locs ls hl hP hD hS => lv_istore C.1 C.2.1 d hl hn hl' (fun ls hl => k p e s m args below meth c C H locs ls hl hP hD hS)
theorem zb_lload_n {j : _root_.Fin 4} {i : Nat} {x : Int64} (d : decode cc pc = .ok (.lload_n j, 1)) (hi : (j : Nat) = i) (hv : zl lv i = some (.long x)) (k : zB l G Ts own cc nL ret xt R Fin cs sl (pc + 1) lv (.long x :: st) σ) : zB l G Ts own cc nL ret xt R Fin cs sl pc lv (st) σ :=
  fun p e s m args below meth c C H locs ls hl hP hD hS => lv_lload_n C.1 C.2.1 d hi (zl_at hl hv) (k p e s m args below meth c C H locs ls hl hP hD hS)
theorem zb_lload {i : Nat} {x : Int64} (d : decode cc pc = .ok (.lload i, 2)) (hv : zl lv i = some (.long x)) (k : zB l G Ts own cc nL ret xt R Fin cs sl (pc + 2) lv (.long x :: st) σ) : zB l G Ts own cc nL ret xt R Fin cs sl pc lv (st) σ :=
  fun p e s m args below meth c C H locs ls hl hP hD hS => lv_lload C.1 C.2.1 d (zl_at hl hv) (k p e s m args below meth c C H locs ls hl hP hD hS)
theorem zb_lstore_n {j : _root_.Fin 4} {i : Nat} {x : Int64} (d : decode cc pc = .ok (.lstore_n j, 1)) (hi : (j : Nat) = i) (hn : i + 1 < nL) (hl' : zs2 lv i (.long x) = lv') (k : zB l G Ts own cc nL ret xt R Fin cs sl (pc + 1) lv' st σ) : zB l G Ts own cc nL ret xt R Fin cs sl pc lv (.long x :: st) σ :=
  fun p e s m args below meth c C H locs ls hl hP hD hS => lv_lstore_n C.1 C.2.1 d hi hl hn hl' (fun ls hl => k p e s m args below meth c C H locs ls hl hP hD hS)
theorem zb_lstore {i : Nat} {x : Int64} (d : decode cc pc = .ok (.lstore i, 2)) (hn : i + 1 < nL) (hl' : zs2 lv i (.long x) = lv') (k : zB l G Ts own cc nL ret xt R Fin cs sl (pc + 2) lv' st σ) : zB l G Ts own cc nL ret xt R Fin cs sl pc lv (.long x :: st) σ :=
  fun p e s m args below meth c C H locs ls hl hP hD hS => lv_lstore C.1 C.2.1 d hl hn hl' (fun ls hl => k p e s m args below meth c C H locs ls hl hP hD hS)
theorem zb_aload_n {j : _root_.Fin 4} {i : Nat} {x : Nat} (d : decode cc pc = .ok (.aload_n j, 1)) (hi : (j : Nat) = i) (hv : zl lv i = some (.ref x)) (k : zB l G Ts own cc nL ret xt R Fin cs sl (pc + 1) lv (.ref x :: st) σ) : zB l G Ts own cc nL ret xt R Fin cs sl pc lv (st) σ :=
  fun p e s m args below meth c C H locs ls hl hP hD hS => lv_aload_n C.1 C.2.1 d hi (zl_at hl hv) (k p e s m args below meth c C H locs ls hl hP hD hS)
theorem zb_aload {i : Nat} {x : Nat} (d : decode cc pc = .ok (.aload i, 2)) (hv : zl lv i = some (.ref x)) (k : zB l G Ts own cc nL ret xt R Fin cs sl (pc + 2) lv (.ref x :: st) σ) : zB l G Ts own cc nL ret xt R Fin cs sl pc lv (st) σ :=
  fun p e s m args below meth c C H locs ls hl hP hD hS => lv_aload C.1 C.2.1 d (zl_at hl hv) (k p e s m args below meth c C H locs ls hl hP hD hS)
theorem zb_astore_n {j : _root_.Fin 4} {i : Nat} {x : Nat} (d : decode cc pc = .ok (.astore_n j, 1)) (hi : (j : Nat) = i) (hn : i < nL) (hl' : zs1 lv i (.ref x) = lv') (k : zB l G Ts own cc nL ret xt R Fin cs sl (pc + 1) lv' st σ) : zB l G Ts own cc nL ret xt R Fin cs sl pc lv (.ref x :: st) σ :=
  fun p e s m args below meth c C H locs ls hl hP hD hS => lv_astore_n C.1 C.2.1 d hi hl hn hl' (fun ls hl => k p e s m args below meth c C H locs ls hl hP hD hS)
theorem zb_astore {i : Nat} {x : Nat} (d : decode cc pc = .ok (.astore i, 2)) (hn : i < nL) (hl' : zs1 lv i (.ref x) = lv') (k : zB l G Ts own cc nL ret xt R Fin cs sl (pc + 2) lv' st σ) : zB l G Ts own cc nL ret xt R Fin cs sl pc lv (.ref x :: st) σ :=
  fun p e s m args below meth c C H locs ls hl hP hD hS => lv_astore C.1 C.2.1 d hl hn hl' (fun ls hl => k p e s m args below meth c C H locs ls hl hP hD hS)
theorem zb_iinc {i : Nat} {n : Int} {x v : Int32} (d : decode cc pc = .ok (.iinc i n, 3)) (hx : zl lv i = some (.int x)) (hv : x + Int32.ofInt n = v) (hn : i < nL) (hl' : zs1 lv i (.int v) = lv') (k : zB l G Ts own cc nL ret xt R Fin cs sl (pc + 3) lv' st σ) : zB l G Ts own cc nL ret xt R Fin cs sl pc lv st σ := by
  intro p e s m args below meth c C H locs ls hl hP hD hS
  obtain ⟨kk, hk⟩ := zl_idx hx
  exact lv_iinc C.1 C.2.1 d hl hk hv hn hl' (fun ls hl => k p e s m args below meth c C H locs ls hl hP hD hS)
theorem zb_iadd {x y : Int32} (d : decode cc pc = .ok (.iadd, 1)) (k : zB l G Ts own cc nL ret xt R Fin cs sl (pc + 1) lv (.int (x + y) :: st) σ) : zB l G Ts own cc nL ret xt R Fin cs sl pc lv (.int y :: .int x :: st) σ :=
  fun p e s m args below meth c C H locs ls hl hP hD hS => lv_iadd C.1 C.2.1 d (k p e s m args below meth c C H locs ls hl hP hD hS)
theorem zb_isub {x y : Int32} (d : decode cc pc = .ok (.isub, 1)) (k : zB l G Ts own cc nL ret xt R Fin cs sl (pc + 1) lv (.int (x - y) :: st) σ) : zB l G Ts own cc nL ret xt R Fin cs sl pc lv (.int y :: .int x :: st) σ :=
  fun p e s m args below meth c C H locs ls hl hP hD hS => lv_isub C.1 C.2.1 d (k p e s m args below meth c C H locs ls hl hP hD hS)
theorem zb_imul {x y : Int32} (d : decode cc pc = .ok (.imul, 1)) (k : zB l G Ts own cc nL ret xt R Fin cs sl (pc + 1) lv (.int (x * y) :: st) σ) : zB l G Ts own cc nL ret xt R Fin cs sl pc lv (.int y :: .int x :: st) σ :=
  fun p e s m args below meth c C H locs ls hl hP hD hS => lv_imul C.1 C.2.1 d (k p e s m args below meth c C H locs ls hl hP hD hS)
theorem zb_iand {x y : Int32} (d : decode cc pc = .ok (.iand, 1)) (k : zB l G Ts own cc nL ret xt R Fin cs sl (pc + 1) lv (.int (x &&& y) :: st) σ) : zB l G Ts own cc nL ret xt R Fin cs sl pc lv (.int y :: .int x :: st) σ :=
  fun p e s m args below meth c C H locs ls hl hP hD hS => lv_iand C.1 C.2.1 d (k p e s m args below meth c C H locs ls hl hP hD hS)
theorem zb_ior {x y : Int32} (d : decode cc pc = .ok (.ior, 1)) (k : zB l G Ts own cc nL ret xt R Fin cs sl (pc + 1) lv (.int (x ||| y) :: st) σ) : zB l G Ts own cc nL ret xt R Fin cs sl pc lv (.int y :: .int x :: st) σ :=
  fun p e s m args below meth c C H locs ls hl hP hD hS => lv_ior C.1 C.2.1 d (k p e s m args below meth c C H locs ls hl hP hD hS)
theorem zb_ishl {x y : Int32} (d : decode cc pc = .ok (.ishl, 1)) (k : zB l G Ts own cc nL ret xt R Fin cs sl (pc + 1) lv (.int (x <<< (y &&& 31)) :: st) σ) : zB l G Ts own cc nL ret xt R Fin cs sl pc lv (.int y :: .int x :: st) σ :=
  fun p e s m args below meth c C H locs ls hl hP hD hS => lv_ishl C.1 C.2.1 d (k p e s m args below meth c C H locs ls hl hP hD hS)
theorem zb_ishr {x y : Int32} (d : decode cc pc = .ok (.ishr, 1)) (k : zB l G Ts own cc nL ret xt R Fin cs sl (pc + 1) lv (.int (x >>> (y &&& 31)) :: st) σ) : zB l G Ts own cc nL ret xt R Fin cs sl pc lv (.int y :: .int x :: st) σ :=
  fun p e s m args below meth c C H locs ls hl hP hD hS => lv_ishr C.1 C.2.1 d (k p e s m args below meth c C H locs ls hl hP hD hS)
theorem zb_idiv {x y : Int32} (d : decode cc pc = .ok (.idiv, 1)) (hne : ¬ y = 0) (k : zB l G Ts own cc nL ret xt R Fin cs sl (pc + 1) lv (.int (x / y) :: st) σ) : zB l G Ts own cc nL ret xt R Fin cs sl pc lv (.int y :: .int x :: st) σ :=
  fun p e s m args below meth c C H locs ls hl hP hD hS => lv_idiv C.1 C.2.1 d hne (k p e s m args below meth c C H locs ls hl hP hD hS)
theorem zb_irem {x y : Int32} (d : decode cc pc = .ok (.irem, 1)) (hne : ¬ y = 0) (k : zB l G Ts own cc nL ret xt R Fin cs sl (pc + 1) lv (.int (x - x / y * y) :: st) σ) : zB l G Ts own cc nL ret xt R Fin cs sl pc lv (.int y :: .int x :: st) σ :=
  fun p e s m args below meth c C H locs ls hl hP hD hS => lv_irem C.1 C.2.1 d hne (k p e s m args below meth c C H locs ls hl hP hD hS)
theorem zb_ladd {x y : Int64} (d : decode cc pc = .ok (.ladd, 1)) (k : zB l G Ts own cc nL ret xt R Fin cs sl (pc + 1) lv (.long (x + y) :: st) σ) : zB l G Ts own cc nL ret xt R Fin cs sl pc lv (.long y :: .long x :: st) σ :=
  fun p e s m args below meth c C H locs ls hl hP hD hS => lv_ladd C.1 C.2.1 d (k p e s m args below meth c C H locs ls hl hP hD hS)
theorem zb_lcmp {x y : Int64} (d : decode cc pc = .ok (.lcmp, 1)) (k : zB l G Ts own cc nL ret xt R Fin cs sl (pc + 1) lv (.int (lg_cmp x y) :: st) σ) : zB l G Ts own cc nL ret xt R Fin cs sl pc lv (.long y :: .long x :: st) σ :=
  fun p e s m args below meth c C H locs ls hl hP hD hS => W.lcmp C.1 C.2.1 d (k p e s m args below meth c C H locs ls hl hP hD hS)
theorem zb_i2l {x : Int32} {v : Int64} (d : decode cc pc = .ok (.i2l, 1)) (hv : x.toInt64 = v) (k : zB l G Ts own cc nL ret xt R Fin cs sl (pc + 1) lv (.long v :: st) σ) : zB l G Ts own cc nL ret xt R Fin cs sl pc lv (.int x :: st) σ :=
  fun p e s m args below meth c C H locs ls hl hP hD hS => lv_i2l C.1 C.2.1 d hv (k p e s m args below meth c C H locs ls hl hP hD hS)
theorem zb_dup {va : Value} (d : decode cc pc = .ok (.dup, 1)) (hva : va.category = 1) (k : zB l G Ts own cc nL ret xt R Fin cs sl (pc + 1) lv (va :: va :: st) σ) : zB l G Ts own cc nL ret xt R Fin cs sl pc lv (va :: st) σ :=
  fun p e s m args below meth c C H locs ls hl hP hD hS => lv_dup C.1 C.2.1 d hva (k p e s m args below meth c C H locs ls hl hP hD hS)
theorem zb_dup2 {va vb : Value} (d : decode cc pc = .ok (.dup2, 1)) (hva : va.category = 1) (hvb : vb.category = 1) (k : zB l G Ts own cc nL ret xt R Fin cs sl (pc + 1) lv (va :: vb :: va :: vb :: st) σ) : zB l G Ts own cc nL ret xt R Fin cs sl pc lv (va :: vb :: st) σ :=
  fun p e s m args below meth c C H locs ls hl hP hD hS => lv_dup2_11 C.1 C.2.1 d hva hvb (k p e s m args below meth c C H locs ls hl hP hD hS)
theorem zb_pop {va : Value} (d : decode cc pc = .ok (.pop, 1)) (hva : va.category = 1) (k : zB l G Ts own cc nL ret xt R Fin cs sl (pc + 1) lv (st) σ) : zB l G Ts own cc nL ret xt R Fin cs sl pc lv (va :: st) σ :=
  fun p e s m args below meth c C H locs ls hl hP hD hS => lv_pop C.1 C.2.1 d hva (k p e s m args below meth c C H locs ls hl hP hD hS)
-- branches
theorem zb_if_eq {x : Int32} {off : Int} {tgt : Nat} (d : decode cc pc = .ok (.ifCond .eq off, 3)) (ht : (pc : Int) + off = (tgt : Int)) (kt : x = 0 → zB l G Ts own cc nL ret xt R Fin cs sl tgt lv st σ) (kf : ¬ x = 0 → zB l G Ts own cc nL ret xt R Fin cs sl (pc + 3) lv st σ) : zB l G Ts own cc nL ret xt R Fin cs sl pc lv (.int x :: st) σ :=
  fun p e s m args below meth c C H locs ls hl hP hD hS => lv_if_eq C.1 C.2.1 d ht (fun h => kt h p e s m args below meth c C H locs ls hl hP hD hS) (fun h => kf h p e s m args below meth c C H locs ls hl hP hD hS)
theorem zb_icmp_eq {x y : Int32} {off : Int} {tgt : Nat} (d : decode cc pc = .ok (.if_icmp .eq off, 3)) (ht : (pc : Int) + off = (tgt : Int)) (kt : x = y → zB l G Ts own cc nL ret xt R Fin cs sl tgt lv st σ) (kf : ¬ x = y → zB l G Ts own cc nL ret xt R Fin cs sl (pc + 3) lv st σ) : zB l G Ts own cc nL ret xt R Fin cs sl pc lv (.int y :: .int x :: st) σ :=
  fun p e s m args below meth c C H locs ls hl hP hD hS => lv_icmp_eq C.1 C.2.1 d ht (fun h => kt h p e s m args below meth c C H locs ls hl hP hD hS) (fun h => kf h p e s m args below meth c C H locs ls hl hP hD hS)
theorem zb_if_ne {x : Int32} {off : Int} {tgt : Nat} (d : decode cc pc = .ok (.ifCond .ne off, 3)) (ht : (pc : Int) + off = (tgt : Int)) (kt : ¬ x = 0 → zB l G Ts own cc nL ret xt R Fin cs sl tgt lv st σ) (kf : x = 0 → zB l G Ts own cc nL ret xt R Fin cs sl (pc + 3) lv st σ) : zB l G Ts own cc nL ret xt R Fin cs sl pc lv (.int x :: st) σ :=
  fun p e s m args below meth c C H locs ls hl hP hD hS => lv_if_ne C.1 C.2.1 d ht (fun h => kt h p e s m args below meth c C H locs ls hl hP hD hS) (fun h => kf h p e s m args below meth c C H locs ls hl hP hD hS)
theorem zb_icmp_ne {x y : Int32} {off : Int} {tgt : Nat} (d : decode cc pc = .ok (.if_icmp .ne off, 3)) (ht : (pc : Int) + off = (tgt : Int)) (kt : ¬ x = y → zB l G Ts own cc nL ret xt R Fin cs sl tgt lv st σ) (kf : x = y → zB l G Ts own cc nL ret xt R Fin cs sl (pc + 3) lv st σ) : zB l G Ts own cc nL ret xt R Fin cs sl pc lv (.int y :: .int x :: st) σ :=
  fun p e s m args below meth c C H locs ls hl hP hD hS => lv_icmp_ne C.1 C.2.1 d ht (fun h => kt h p e s m args below meth c C H locs ls hl hP hD hS) (fun h => kf h p e s m args below meth c C H locs ls hl hP hD hS)
theorem zb_if_lt {x : Int32} {off : Int} {tgt : Nat} (d : decode cc pc = .ok (.ifCond .lt off, 3)) (ht : (pc : Int) + off = (tgt : Int)) (kt : x < 0 → zB l G Ts own cc nL ret xt R Fin cs sl tgt lv st σ) (kf : ¬ x < 0 → zB l G Ts own cc nL ret xt R Fin cs sl (pc + 3) lv st σ) : zB l G Ts own cc nL ret xt R Fin cs sl pc lv (.int x :: st) σ :=
  fun p e s m args below meth c C H locs ls hl hP hD hS => lv_if_lt C.1 C.2.1 d ht (fun h => kt h p e s m args below meth c C H locs ls hl hP hD hS) (fun h => kf h p e s m args below meth c C H locs ls hl hP hD hS)
theorem zb_icmp_lt {x y : Int32} {off : Int} {tgt : Nat} (d : decode cc pc = .ok (.if_icmp .lt off, 3)) (ht : (pc : Int) + off = (tgt : Int)) (kt : x < y → zB l G Ts own cc nL ret xt R Fin cs sl tgt lv st σ) (kf : ¬ x < y → zB l G Ts own cc nL ret xt R Fin cs sl (pc + 3) lv st σ) : zB l G Ts own cc nL ret xt R Fin cs sl pc lv (.int y :: .int x :: st) σ :=
  fun p e s m args below meth c C H locs ls hl hP hD hS => lv_icmp_lt C.1 C.2.1 d ht (fun h => kt h p e s m args below meth c C H locs ls hl hP hD hS) (fun h => kf h p e s m args below meth c C H locs ls hl hP hD hS)
theorem zb_if_ge {x : Int32} {off : Int} {tgt : Nat} (d : decode cc pc = .ok (.ifCond .ge off, 3)) (ht : (pc : Int) + off = (tgt : Int)) (kt : 0 ≤ x → zB l G Ts own cc nL ret xt R Fin cs sl tgt lv st σ) (kf : ¬ 0 ≤ x → zB l G Ts own cc nL ret xt R Fin cs sl (pc + 3) lv st σ) : zB l G Ts own cc nL ret xt R Fin cs sl pc lv (.int x :: st) σ :=
  fun p e s m args below meth c C H locs ls hl hP hD hS => lv_if_ge C.1 C.2.1 d ht (fun h => kt h p e s m args below meth c C H locs ls hl hP hD hS) (fun h => kf h p e s m args below meth c C H locs ls hl hP hD hS)
theorem zb_icmp_ge {x y : Int32} {off : Int} {tgt : Nat} (d : decode cc pc = .ok (.if_icmp .ge off, 3)) (ht : (pc : Int) + off = (tgt : Int)) (kt : y ≤ x → zB l G Ts own cc nL ret xt R Fin cs sl tgt lv st σ) (kf : ¬ y ≤ x → zB l G Ts own cc nL ret xt R Fin cs sl (pc + 3) lv st σ) : zB l G Ts own cc nL ret xt R Fin cs sl pc lv (.int y :: .int x :: st) σ :=
  fun p e s m args below meth c C H locs ls hl hP hD hS => lv_icmp_ge C.1 C.2.1 d ht (fun h => kt h p e s m args below meth c C H locs ls hl hP hD hS) (fun h => kf h p e s m args below meth c C H locs ls hl hP hD hS)
theorem zb_if_gt {x : Int32} {off : Int} {tgt : Nat} (d : decode cc pc = .ok (.ifCond .gt off, 3)) (ht : (pc : Int) + off = (tgt : Int)) (kt : 0 < x → zB l G Ts own cc nL ret xt R Fin cs sl tgt lv st σ) (kf : ¬ 0 < x → zB l G Ts own cc nL ret xt R Fin cs sl (pc + 3) lv st σ) : zB l G Ts own cc nL ret xt R Fin cs sl pc lv (.int x :: st) σ :=
  fun p e s m args below meth c C H locs ls hl hP hD hS => lv_if_gt C.1 C.2.1 d ht (fun h => kt h p e s m args below meth c C H locs ls hl hP hD hS) (fun h => kf h p e s m args below meth c C H locs ls hl hP hD hS)
theorem zb_icmp_gt {x y : Int32} {off : Int} {tgt : Nat} (d : decode cc pc = .ok (.if_icmp .gt off, 3)) (ht : (pc : Int) + off = (tgt : Int)) (kt : y < x → zB l G Ts own cc nL ret xt R Fin cs sl tgt lv st σ) (kf : ¬ y < x → zB l G Ts own cc nL ret xt R Fin cs sl (pc + 3) lv st σ) : zB l G Ts own cc nL ret xt R Fin cs sl pc lv (.int y :: .int x :: st) σ :=
  fun p e s m args below meth c C H locs ls hl hP hD hS => lv_icmp_gt C.1 C.2.1 d ht (fun h => kt h p e s m args below meth c C H locs ls hl hP hD hS) (fun h => kf h p e s m args below meth c C H locs ls hl hP hD hS)
theorem zb_if_le {x : Int32} {off : Int} {tgt : Nat} (d : decode cc pc = .ok (.ifCond .le off, 3)) (ht : (pc : Int) + off = (tgt : Int)) (kt : x ≤ 0 → zB l G Ts own cc nL ret xt R Fin cs sl tgt lv st σ) (kf : ¬ x ≤ 0 → zB l G Ts own cc nL ret xt R Fin cs sl (pc + 3) lv st σ) : zB l G Ts own cc nL ret xt R Fin cs sl pc lv (.int x :: st) σ :=
  fun p e s m args below meth c C H locs ls hl hP hD hS => lv_if_le C.1 C.2.1 d ht (fun h => kt h p e s m args below meth c C H locs ls hl hP hD hS) (fun h => kf h p e s m args below meth c C H locs ls hl hP hD hS)
theorem zb_icmp_le {x y : Int32} {off : Int} {tgt : Nat} (d : decode cc pc = .ok (.if_icmp .le off, 3)) (ht : (pc : Int) + off = (tgt : Int)) (kt : x ≤ y → zB l G Ts own cc nL ret xt R Fin cs sl tgt lv st σ) (kf : ¬ x ≤ y → zB l G Ts own cc nL ret xt R Fin cs sl (pc + 3) lv st σ) : zB l G Ts own cc nL ret xt R Fin cs sl pc lv (.int y :: .int x :: st) σ :=
  fun p e s m args below meth c C H locs ls hl hP hD hS => lv_icmp_le C.1 C.2.1 d ht (fun h => kt h p e s m args below meth c C H locs ls hl hP hD hS) (fun h => kf h p e s m args below meth c C H locs ls hl hP hD hS)
theorem zb_goto {off : Int} {tgt : Nat} (d : decode cc pc = .ok (.goto off, 3)) (ht : (pc : Int) + off = (tgt : Int)) (k : zB l G Ts own cc nL ret xt R Fin cs sl tgt lv st σ) : zB l G Ts own cc nL ret xt R Fin cs sl pc lv st σ :=
  fun p e s m args below meth c C H locs ls hl hP hD hS => lv_goto C.1 C.2.1 d ht (k p e s m args below meth c C H locs ls hl hP hD hS)
theorem zb_tableOut {dflt lo hi : Int} {offs : Array Int} {len : Nat} {x : Int32} {tgt : Nat} (d : decode cc pc = .ok (.tableswitch dflt lo hi offs, len)) (h : x.toInt < lo ∨ hi < x.toInt) (ht : (pc : Int) + dflt = (tgt : Int)) (k : zB l G Ts own cc nL ret xt R Fin cs sl tgt lv st σ) : zB l G Ts own cc nL ret xt R Fin cs sl pc lv (.int x :: st) σ :=
  fun p e s m args below meth c C H locs ls hl hP hD hS => lv_tableOut C.1 C.2.1 d h ht (k p e s m args below meth c C H locs ls hl hP hD hS)
theorem zb_tableIn {dflt lo hi : Int} {offs : Array Int} {len : Nat} {x : Int32} {off : Int} {tgt : Nat} (d : decode cc pc = .ok (.tableswitch dflt lo hi offs, len)) (h1 : ¬ x.toInt < lo) (h2 : ¬ hi < x.toInt) (ho : offs[(x.toInt - lo).toNat]? = some off) (ht : (pc : Int) + off = (tgt : Int)) (k : zB l G Ts own cc nL ret xt R Fin cs sl tgt lv st σ) : zB l G Ts own cc nL ret xt R Fin cs sl pc lv (.int x :: st) σ :=
  fun p e s m args below meth c C H locs ls hl hP hD hS => lv_tableIn C.1 C.2.1 d h1 h2 ho ht (k p e s m args below meth c C H locs ls hl hP hD hS)
-- arrays
theorem zb_iald {q : Nat} {j : Int32} (d : decode cc pc = .ok (.iaload, 1)) (hq : zia q) (hin : vp_in j (zn q)) (k : zB l G Ts own cc nL ret xt R Fin cs sl (pc + 1) lv (.int (σ.1 q j.toNatClampNeg) :: st) σ) : zB l G Ts own cc nL ret xt R Fin cs sl pc lv (.int j :: .ref (zad G q) :: st) σ :=
  fun p e s m args below meth c C H locs ls hl hP hD hS => va_iald C.1 C.2.1 C.K hP q 0 (by rw [zW_at hq.lt, zF_int hq]) rfl hin d (k p e s m args below meth c C H locs ls hl hP hD hS)
theorem zb_iast {q : Nat} {j x : Int32} (d : decode cc pc = .ok (.iastore, 1)) (hq : zia q) (hin : vp_in j (zn q)) (k : zB l G Ts own cc nL ret xt R Fin cs sl (pc + 1) lv st (zu σ q (upd (σ.1 q) j.toNatClampNeg x))) : zB l G Ts own cc nL ret xt R Fin cs sl pc lv (.int x :: .int j :: .ref (zad G q) :: st) σ :=
  fun p e s m args below meth c C H locs ls hl hP hD hS => va_iast C.1 C.2.1 C.K hP hD hS q 0 (by rw [zW_at hq.lt, zF_int hq]) rfl hin d (fun H1 locs1 hP hD hS => by
    rw [zW_zu hq.lt (zF_int hq)] at hP hD
    exact k p e s m args below meth c C H1 locs1 ls hl hP hD hS)
theorem zb_zald {j : Int32} (d : decode cc pc = .ok (.baload, 1)) (hin : vp_in j 256) (k : zB l G Ts own cc nL ret xt R Fin cs sl (pc + 1) lv (.int (σ.1 34 j.toNatClampNeg) :: st) σ) : zB l G Ts own cc nL ret xt R Fin cs sl pc lv (.int j :: .ref (zad G 34) :: st) σ :=
  fun p e s m args below meth c C H locs ls hl hP hD hS => va_zald C.1 C.2.1 C.K hP 34 2 (by rw [zW_at (by decide)]; rfl) rfl hin d (k p e s m args below meth c C H locs ls hl hP hD hS)
theorem zb_lald {j : Int32} (d : decode cc pc = .ok (.laload, 1)) (hin : vp_in j 1) (k : zB l G Ts own cc nL ret xt R Fin cs sl (pc + 1) lv (.long (σ.2 j.toNatClampNeg) :: st) σ) : zB l G Ts own cc nL ret xt R Fin cs sl pc lv (.int j :: .ref (zad G 35) :: st) σ :=
  fun p e s m args below meth c C H locs ls hl hP hD hS => va_lald C.1 C.2.1 C.K hP 35 1 (by rw [zW_at (by decide)]; rfl) rfl hin d (k p e s m args below meth c C H locs ls hl hP hD hS)
-- names for what stands there
theorem zb_top {x y : Int32} (h : x = y) (k : zB l G Ts own cc nL ret xt R Fin cs sl pc lv (.int y :: st) σ) : zB l G Ts own cc nL ret xt R Fin cs sl pc lv (.int x :: st) σ := by rw [h]; exact k
theorem zb_lv (h : lv = lv') (k : zB l G Ts own cc nL ret xt R Fin cs sl pc lv' st σ) : zB l G Ts own cc nL ret xt R Fin cs sl pc lv st σ := by rw [h]; exact k
theorem zb_sg {σ' : zS} (h : σ = σ') (k : zB l G Ts own cc nL ret xt R Fin cs sl pc lv st σ') : zB l G Ts own cc nL ret xt R Fin cs sl pc lv st σ := by rw [h]; exact k
theorem zb_st {st' : List Value} (h : st = st') (k : zB l G Ts own cc nL ret xt R Fin cs sl pc lv st' σ) : zB l G Ts own cc nL ret xt R Fin cs sl pc lv st σ := by rw [h]; exact k
-- fields
theorem zb_getf {q ci N index : Nat} {C0 ref : String} {T0 : u_T} {fs : List Value} {v : Value} (j : Nat) (d : decode cc pc = .ok (.getfield index, 3)) (hin : ∀ w ∈ u_ws C0 T0 N, w ∈ zws) (hlk : Cond.fieldLink own index ref (T0 j).2.1 (T0 j).2.2.1 ∈ zws) (hsame : ref = (T0 j).1) (hq : (zW G σ)[q]? = some (zad G q, .inr (ci, fs))) (hc : vwCl[ci]? = some (C0, T0, N)) (hj : j < N) (hv : fs[j]? = some v) (k : zB l G Ts own cc nL ret xt R Fin cs sl (pc + 3) lv (v :: st) σ) : zB l G Ts own cc nL ret xt R Fin cs sl pc lv (.ref (zad G q) :: st) σ :=
  fun p e s m args below meth c C H locs ls hl hP hD hS => va_get C.ex C.bt C.zs hin C.ow C.K hP q hq hc j hj (C.zs _ hlk) (fun x h => by rw [hsame]; exact h) hv d (k p e s m args below meth c C H locs ls hl hP hD hS)
theorem zb_putf {q ci N index : Nat} {C0 ref : String} {T0 : u_T} {fs : List Value} {v : Value} {ty : FieldType} {σ' : zS} (j : Nat) (ty0 : Nat → FieldType) (hty : ∀ k, k < N → parseFieldDescriptor (T0 k).2.2.1 = some (ty0 k)) (hnm : ∀ a, a < N → ∀ b, b < N → a ≠ b → (T0 a).2.1 ≠ (T0 b).2.1) (d : decode cc pc = .ok (.putfield index, 3)) (hin : ∀ w ∈ u_ws C0 T0 N, w ∈ zws) (hlk : Cond.fieldLink own index ref (T0 j).2.1 (T0 j).2.2.1 ∈ zws) (hsame : ref = (T0 j).1) (hq : (zW G σ)[q]? = some (zad G q, .inr (ci, fs))) (hc : vwCl[ci]? = some (C0, T0, N)) (hj : j < N) (hfin : (T0 j).2.2.2 = false) (hd : parseFieldDescriptor (T0 j).2.2.1 = some ty) (hn : narrow ty v = v) (hfit : fits ty v = true) (hl0 : j < fs.length)
    (hw : (zW G σ).set q (zad G q, .inr (ci, fs.set j v)) = zW G σ') (k : zB l G Ts own cc nL ret xt R Fin cs sl (pc + 3) lv st σ') : zB l G Ts own cc nL ret xt R Fin cs sl pc lv (v :: .ref (zad G q) :: st) σ :=
  fun p e s m args below meth c C H locs ls hl hP hD hS => va_put C.ex C.bt C.zs hin ty0 hty hnm C.ow C.K hP hD hS q hq hc j hj (C.zs _ hlk) (fun x h => by rw [hsame]; exact h) hfin hd hn hfit hl0 d (fun H1 locs1 hP hD hS => by
    rw [hw] at hP hD
    exact k p e s m args below meth c C H1 locs1 ls hl hP hD hS)
theorem zb_copy {q0 q1 index : Nat} {sp dp n : Int32} (hlk : Cond.methodLink own index arraycopyName ∈ zws) (hnat : Cond.native arraycopyName ∈ zws) (hstat : Cond.static arraycopyName ∈ zws) (hini : Cond.initialized "java/lang/System" ∈ zws) (h0 : zia q0) (h1 : zia q1) (hs : ¬ sp < 0) (hd : ¬ dp < 0) (hn : ¬ n < 0) (h4 : sp.toNatClampNeg + n.toNatClampNeg ≤ zn q0) (h5 : dp.toNatClampNeg + n.toNatClampNeg ≤ zn q1)
    (hfr : 1 ≤ R.frames) (hlo : (st.map fun v => v.category).sum + (nativeFrameWords "java/lang/System" "arraycopy" 5 + 11) ≤ R.locals) (d : decode cc pc = .ok (.invokestatic index, 3)) (k : zB l G Ts own cc nL ret xt R Fin cs sl (pc + 3) lv st (zu σ q1 (va_cpy (σ.1 q0) (σ.1 q1) sp.toNatClampNeg dp.toNatClampNeg n.toNatClampNeg))) : zB l G Ts own cc nL ret xt R Fin cs sl pc lv (.int n :: .int dp :: .ref (zad G q1) :: .int sp :: .ref (zad G q0) :: st) σ :=
  fun p e s m args below meth c C H locs ls hl hP hD hS => va_copyi C.ex C.bt (C.ml.trans hl.1.symm) C.ow (C.zs _ hlk) (C.zs _ hnat) (C.zs _ hstat) (C.zs _ hini) C.K hP hD hS q0 q1 0 0 (by rw [zW_at h0.lt, zF_int h0]) (by rw [zW_at h1.lt, zF_int h1]) rfl rfl rfl hs hd hn h4 h5 (fun _ _ => rfl) hfr hlo d (fun H1 locs1 hP hD hS => by
    rw [zW_zu h1.lt (zF_int h1)] at hP hD
    exact k p e s m args below meth c C H1 locs1 ls hl hP hD hS)
-- ends
theorem zb_iret {φ : Option Value → zS → Prop} {v : Int32} (d : decode cc pc = .ok (.ireturn, 1)) (hr : ret = some .int) (hφ : φ (some (.int v)) σ) : zB l G Ts own cc nL ret xt R (zR G φ cs sl) cs sl pc lv [.int v] σ :=
  fun p e s m args below meth c C H locs ls hl hP hD hS => W.iret C.1 C.2.1 (C.re.trans hr) (fun t ht hW => ⟨_, σ, rfl, hφ, by rw [ht]; exact hP, hD, by rw [ht]; exact ⟨hS.1, hS.2.1, fun q h => by cases h⟩⟩) hS.2.2 d C.lk
theorem zb_lret {φ : Option Value → zS → Prop} {v : Int64} (d : decode cc pc = .ok (.lreturn, 1)) (hr : ret = some .long) (hφ : φ (some (.long v)) σ) : zB l G Ts own cc nL ret xt R (zR G φ cs sl) cs sl pc lv [.long v] σ :=
  fun p e s m args below meth c C H locs ls hl hP hD hS => W.lret C.1 C.2.1 (C.re.trans hr) (fun t ht hW => ⟨_, σ, rfl, hφ, by rw [ht]; exact hP, hD, by rw [ht]; exact ⟨hS.1, hS.2.1, fun q h => by cases h⟩⟩) hS.2.2 d C.lk
theorem zb_vret {φ : Option Value → zS → Prop} (d : decode cc pc = .ok (.return_, 1)) (hr : ret = none) (hφ : φ (none) σ) : zB l G Ts own cc nL ret xt R (zR G φ cs sl) cs sl pc lv [] σ :=
  fun p e s m args below meth c C H locs ls hl hP hD hS => W.vret C.1 C.2.1 (C.re.trans hr) (fun t ht hW => ⟨_, σ, rfl, hφ, by rw [ht]; exact hP, hD, by rw [ht]; exact ⟨hS.1, hS.2.1, fun q h => by cases h⟩⟩) hS.2.2 d C.lk
theorem zb_zret {φ : Option Value → zS → Prop} {v : Int32} {ty : FieldType} (d : decode cc pc = .ok (.ireturn, 1)) (hr : ret = some ty) (hn : narrow ty (.int v) = .int v) (hφ : φ (some (.int v)) σ) : zB l G Ts own cc nL ret xt R (zR G φ cs sl) cs sl pc lv [.int v] σ :=
  fun p e s m args below meth c C H locs ls hl hP hD hS => W.zret C.1 C.2.1 (C.re.trans hr) hn (fun t ht hW => ⟨_, σ, rfl, hφ, by rw [ht]; exact hP, hD, by rw [ht]; exact ⟨hS.1, hS.2.1, fun q h => by cases h⟩⟩) hS.2.2 d C.lk
theorem zb_aret {φ : Option Value → zS → Prop} {v : Nat} {rt : FieldType} (d : decode cc pc = .ok (.areturn, 1)) (hr : ret = some rt) (hrt : (∃ n, rt = .object n) ∨ ∃ t, rt = .array t) (hφ : φ (some (.ref v)) σ) : zB l G Ts own cc nL ret xt R (zR G φ cs sl) cs sl pc lv [.ref v] σ :=
  fun p e s m args below meth c C H locs ls hl hP hD hS => W.aret C.1 C.2.1 (C.re.trans hr) hrt (Or.inr ⟨_, rfl⟩) (fun t ht hW => ⟨_, σ, rfl, hφ, by rw [ht]; exact hP, hD, by rw [ht]; exact ⟨hS.1, hS.2.1, fun q h => by cases h⟩⟩) hS.2.2 d C.lk
-- calls of methods that return
theorem zI.pre {p : Program} {s : State} {m : MethodId} {args : Array Value} {meth : Method} {c : Code} (C : zCx G Ts own cc nL ret xt p s m args meth c) {H : Heap} {locs : List Loc} (hP : va_P (zD G) vwCl (zW G σ) H) (hD : va_D (zA G) (zW G σ)) (hS : va_S (zA G) (zH G) H locs) (U : State) (hU : U.heap = H) (hW : s.WarmedH U.vm) : zI G σ U :=
  ⟨⟨by rw [hU]; exact hP, hD, by rw [hU]; exact ⟨hS.1, hS.2.1, fun q h => by cases h⟩⟩, va_K.moved hW.alike C.K, C.st.moved hW⟩
theorem zb_run {mc ms : Nat} {rest : List Value} {a : Array Value} {φ : Option Value → zS → Prop} {p : Program} {e : Env} {s : State} {m : MethodId} {args : Array Value} {below : List Frame} {meth : Method} {c : Code} {H : Heap} {locs : List Loc} {ls : Array Slot} (C : zCx G Ts own cc nL ret xt p s m args meth c) (hl : lv_has ls nL lv) (hS : va_S (zA G) (zH G) H locs)
    (run : va_Run p l e R s m args below meth c H locs cs sl mc ms (F0 m pc ls st) rest (zQ G φ a) (zA G)) (k : ∀ (v : Option Value) (σ' : zS), φ v σ' → zB l G Ts own cc nL ret xt R Fin (cs + mc) (sl + ms) (pc + 3) lv (v.toList ++ rest) σ') : W p l e R s m args below meth c H locs cs sl (Fin below args s) (F0 m pc ls st) := by
  intro T hT X
  obtain ⟨v, st₀, t, T', L, h0, X', hL, e1, e2, ⟨v', σ', hv, hφ, hP', hD', hold'⟩, stp⟩ := run T hT X
  cases hv
  obtain ⟨t2, a1, b1⟩ := k v σ' hφ p e s m args below meth c C T'.heap (locs ++ L) ls hl (by rw [e1]; exact hP') hD' ⟨by rw [e1]; exact hold'.1, by rw [e1]; exact hold'.2.1, fun q hq => by
      rcases List.mem_append.mp hq with h | h
      · exact hS.2.2 q h
      · exact hL q h⟩ T' rfl X'
  exact ⟨t2, stp t2 a1, b1⟩
theorem zb_callS {y : MethodName} {bytes : ByteArray} {maxL n index mc ms : Nat} {ret' : Option FieldType} {ws : List Cond} {rm : Room} {φ : Option Value → zS → Prop} {as rest : List Value} (hM : zC l G y ws rm mc ms as σ φ) (cw : ∀ (s : State) (args : Array Value), (∀ w ∈ Ts, w.before args s = true) → CallB R s args own index y bytes maxL ret' ws rm mc ms n ∧ (Cond.static y).before args s = true)
    (hn : as.length = n) (hst : st = as.reverse ++ rest) (hr : (rest.map fun v => v.category).sum ≤ 8) (d : decode cc pc = .ok (.invokestatic index, 3)) (hf : cs + mc ≤ R.cells ∧ sl + ms ≤ R.slots) (k : ∀ (v : Option Value) (σ' : zS), φ v σ' → zB l G Ts own cc nL ret xt R Fin (cs + mc) (sl + ms) (pc + 3) lv (v.toList ++ rest) σ') : zB l G Ts own cc nL ret xt R Fin cs sl pc lv st σ := by
  subst hst
  intro p e s m args below meth c C H locs ls hl hP hD hS
  exact zb_run C hl hS (va_runS (As := as) (rest := rest) ⟨C.1, C.2.1, C.ml, C.ow, C.ts⟩ hM (cw s args C.ts) ⟨zI.blind, fun U hU hW => ⟨rfl, zI.pre C hP hD hS U hU hW⟩⟩ rfl hn hl.1 rfl (lv_room hr) d hf) k
theorem zb_callV {y : MethodName} {bytes : ByteArray} {maxL n index mc ms q ci : Nat} {ret' : Option FieldType} {ws : List Cond} {rm : Room} {φ : Option Value → zS → Prop} {as rest : List Value} {C0 : String} {fs : List Value} {kc : vw_C} (hM : zC l G y ws rm mc ms (.ref (zad G q) :: as) σ φ) (cw : ∀ (s : State) (args : Array Value), (∀ w ∈ Ts, w.before args s = true) → CallW R s args own C0 index y bytes maxL ret' ws rm mc ms n)
    (hq : (zW G σ)[q]? = some (zad G q, .inr (ci, fs))) (hc : vwCl[ci]? = some kc) (hC0 : kc.1 = C0) (hn : as.length = n) (hst : st = as.reverse ++ .ref (zad G q) :: rest) (hr : (rest.map fun v => v.category).sum ≤ 8) (d : decode cc pc = .ok (.invokevirtual index, 3)) (hf : cs + mc ≤ R.cells ∧ sl + ms ≤ R.slots) (k : ∀ (v : Option Value) (σ' : zS), φ v σ' → zB l G Ts own cc nL ret xt R Fin (cs + mc) (sl + ms) (pc + 3) lv (v.toList ++ rest) σ') : zB l G Ts own cc nL ret xt R Fin cs sl pc lv st σ := by
  subst hst
  subst hC0
  intro p e s m args below meth c C H locs ls hl hP hD hS
  exact zb_run C hl hS (va_runV (As := as) (rest := rest) ⟨C.1, C.2.1, C.ml, C.ow, C.ts⟩ hM (cw s args C.ts) ⟨zI.blind, va_recv C.K hP hc hq, fun U hU hW => ⟨rfl, zI.pre C hP hD hS U hU hW⟩⟩ rfl hn hl.1 rfl (lv_room hr) d hf) k
end ZB
end
section
/-! METHODS THAT MAY THROW, in the words of the rows -/
def zXC (G : zG) (ψ : String → zS → Prop) : String → State → State → Prop := fun E _ t => ∃ σ : zS, ψ E σ ∧ zJ G σ t
def zCX (l : Launch) (G : zG) (y : MethodName) (ws : List Cond) (rm : Room) (mc ms : Nat) (as : List Value) (σ : zS) (φ : Option Value → zS → Prop) (ψ : String → zS → Prop) : Prop := vx_Met l y ws rm (va_Pc as (zI G σ)) (zQ G φ) (zXC G ψ) mc ms (zA G)
def zX (G : zG) (φ : Option Value → zS → Prop) (ψ : String → zS → Prop) (mc ms : Nat) : List Frame → Array Value → State → State → Prop := fun below args s => vx_MQ below (zQ G φ) (zXC G ψ) args s mc ms (zA G)
/-- an exception, an object of E, is thrown over the frame -/
def zBx (l : Launch) (G : zG) (Ts : List Cond) (own : String) (cc : ByteArray) (nL : Nat) (ret : Option FieldType) (xt : List ExceptionTableEntry) (R : Room) (Fin : List Frame → Array Value → State → State → Prop) (E : String) (cs sl : Nat) (pc : Nat) (lv : List (Nat × Value)) (st : List Value) (σ : zS) : Prop :=
  ∀ (p : Program) (e : Env) (s : State) (m : MethodId) (args : Array Value) (below : List Frame) (meth : Method) (c : Code), zCx G Ts own cc nL ret xt p s m args meth c →
    ∀ (H : Heap) (locs : List Loc) (ls : Array Slot), lv_has ls nL lv → va_P (zD G) vwCl (zW G σ) H → va_D (zA G) (zW G σ) → va_S (zA G) (zH G) H locs → ∀ (q : Addr) (ce : Cell), H[q]? = some ce → ce.vm = .none → s.vm.findClass E = some ce.cls → vx_W p l e R s m args below meth c H locs cs sl (Fin below args s) (F0 m pc ls st) q
section ZX
variable {l : Launch} {G : zG} {Ts : List Cond} {own : String} {cc : ByteArray} {nL : Nat} {ret : Option FieldType} {xt : List ExceptionTableEntry} {R : Room} {Fin : List Frame → Array Value → State → State → Prop} {cs sl : Nat} {pc : Nat} {lv lv' : List (Nat × Value)} {st : List Value} {σ : zS} {φ : Option Value → zS → Prop} {ψ : String → zS → Prop}
theorem zCX_of {y : MethodName} {as : List Value} {mc ms : Nat} (hy : plainName y.cls = true) (hw : Ts = zwy y cc nL ret) (ho : y.cls = own) (hn : (lg_sl as).length ≤ nL) (k : zB l G Ts own cc nL ret [] R (zX G φ ψ mc ms) 0 0 0 (lv_args 0 as) [] σ) : zCX l G y Ts R mc ms as σ φ ψ := by
  refine vx_ofW (cc := cc) (maxL := nL) (ret := ret) hy hw ?_
  intro p e s m args below meth c s₁ B hml hx0 hv
  obtain ⟨rfl, ⟨hP, hD, hold⟩, hK, hst⟩ := hv
  rw [lg_entry_eq]
  exact k p e s m _ below meth c ⟨B.exec, B.bytes, hml, B.returns, B.notSynchronized, atoms_spec B.pre, fun w h => by rw [hw]; exact zwy_in h, by rw [← ho]; exact findClass_of_methodNamed B.named, hK, hst, List.eq_nil_iff_forall_not_mem.mpr (fun x hx => hx0 x hx), hold⟩ s.heap [] _ (lv_entry as hn) hP hD hold
/-- a method that always returns is one that may throw -/
theorem zx_ret {mc ms : Nat} (k : zB l G Ts own cc nL ret xt R (zR G φ mc ms) cs sl pc lv st σ) : zB l G Ts own cc nL ret xt R (zX G φ ψ mc ms) cs sl pc lv st σ :=
  fun p e s m args below meth c C H locs ls hl hP hD hS => vx_ret (k p e s m args below meth c C H locs ls hl hP hD hS)
theorem zx_run {mc ms : Nat} {rest : List Value} {a : Array Value} {p : Program} {e : Env} {s : State} {m : MethodId} {args : Array Value} {below : List Frame} {meth : Method} {c : Code} {H : Heap} {locs : List Loc} {ls : Array Slot} (C : zCx G Ts own cc nL ret xt p s m args meth c) (hl : lv_has ls nL lv) (hS : va_S (zA G) (zH G) H locs)
    (run : vx_Run p l e R s m args below meth c H locs cs sl mc ms (F0 m pc ls st) rest (zQ G φ a) (zXC G ψ) (zA G)) (k : ∀ (v : Option Value) (σ' : zS), φ v σ' → zB l G Ts own cc nL ret xt R Fin (cs + mc) (sl + ms) (pc + 3) lv (v.toList ++ rest) σ') (kx : ∀ (E : String) (σ' : zS), ψ E σ' → zBx l G Ts own cc nL ret xt R Fin E (cs + mc) (sl + ms) pc lv rest σ') : W p l e R s m args below meth c H locs cs sl (Fin below args s) (F0 m pc ls st) := by
  intro T hT X
  have hlc : ∀ {L : List Loc}, (∀ q ∈ L, zA G q.base) → ∀ q ∈ locs ++ L, zA G q.base := fun hL q hq => by
    rcases List.mem_append.mp hq with h | h
    · exact hS.2.2 q h
    · exact hL q h
  rcases run T hT X with ⟨v, st₀, t, T', L, h0, X', hL, e1, e2, ⟨v', σ', hv, hφ, hP', hD', hold'⟩, stp⟩ | ⟨q, st₀, t, T', L, E, ce, h0, X', hL, e1, e2, ⟨σ', hψ, hP', hD', hold'⟩, hce, hcv, hcl, stp⟩
  · cases hv
    obtain ⟨t2, a1, b1⟩ := k v σ' hφ p e s m args below meth c C T'.heap (locs ++ L) ls hl (by rw [e1]; exact hP') hD' ⟨by rw [e1]; exact hold'.1, by rw [e1]; exact hold'.2.1, hlc hL⟩ T' rfl X'
    exact ⟨t2, stp t2 a1, b1⟩
  · obtain ⟨t2, a1, b1⟩ := kx E σ' hψ p e s m args below meth c C T'.heap (locs ++ L) ls hl (by rw [e1]; exact hP') hD' ⟨by rw [e1]; exact hold'.1, by rw [e1]; exact hold'.2.1, hlc hL⟩ q ce (by rw [e1]; exact hce) hcv hcl T' rfl X'
    exact ⟨t2, stp.trans a1, b1⟩
theorem zx_callS {y : MethodName} {bytes : ByteArray} {maxL n index mc ms : Nat} {ret' : Option FieldType} {ws : List Cond} {rm : Room} {as rest : List Value} (hM : zCX l G y ws rm mc ms as σ φ ψ) (cw : ∀ (s : State) (args : Array Value), (∀ w ∈ Ts, w.before args s = true) → CallB R s args own index y bytes maxL ret' ws rm mc ms n ∧ (Cond.static y).before args s = true)
    (hn : as.length = n) (hst : st = as.reverse ++ rest) (hr : (rest.map fun v => v.category).sum ≤ 8) (d : decode cc pc = .ok (.invokestatic index, 3)) (hf : cs + mc ≤ R.cells ∧ sl + ms ≤ R.slots) (k : ∀ (v : Option Value) (σ' : zS), φ v σ' → zB l G Ts own cc nL ret xt R Fin (cs + mc) (sl + ms) (pc + 3) lv (v.toList ++ rest) σ') (kx : ∀ (E : String) (σ' : zS), ψ E σ' → zBx l G Ts own cc nL ret xt R Fin E (cs + mc) (sl + ms) pc lv rest σ') : zB l G Ts own cc nL ret xt R Fin cs sl pc lv st σ := by
  subst hst
  intro p e s m args below meth c C H locs ls hl hP hD hS
  exact zx_run C hl hS (vx_runS (As := as) (rest := rest) ⟨C.ex, C.bt, C.ml, C.ow, C.ts⟩ hM (cw s args C.ts) ⟨zI.blind, fun U hU hW => ⟨rfl, zI.pre C hP hD hS U hU hW⟩⟩ rfl hn hl.1 rfl (lv_room hr) d hf) k kx
theorem zx_callV {y : MethodName} {bytes : ByteArray} {maxL n index mc ms q ci : Nat} {ret' : Option FieldType} {ws : List Cond} {rm : Room} {as rest : List Value} {C0 : String} {fs : List Value} {kc : vw_C} (hM : zCX l G y ws rm mc ms (.ref (zad G q) :: as) σ φ ψ) (cw : ∀ (s : State) (args : Array Value), (∀ w ∈ Ts, w.before args s = true) → CallW R s args own C0 index y bytes maxL ret' ws rm mc ms n)
    (hq : (zW G σ)[q]? = some (zad G q, .inr (ci, fs))) (hc : vwCl[ci]? = some kc) (hC0 : kc.1 = C0) (hn : as.length = n) (hst : st = as.reverse ++ .ref (zad G q) :: rest) (hr : (rest.map fun v => v.category).sum ≤ 8) (d : decode cc pc = .ok (.invokevirtual index, 3)) (hf : cs + mc ≤ R.cells ∧ sl + ms ≤ R.slots) (k : ∀ (v : Option Value) (σ' : zS), φ v σ' → zB l G Ts own cc nL ret xt R Fin (cs + mc) (sl + ms) (pc + 3) lv (v.toList ++ rest) σ') (kx : ∀ (E : String) (σ' : zS), ψ E σ' → zBx l G Ts own cc nL ret xt R Fin E (cs + mc) (sl + ms) pc lv rest σ') : zB l G Ts own cc nL ret xt R Fin cs sl pc lv st σ := by
  subst hst
  subst hC0
  intro p e s m args below meth c C H locs ls hl hP hD hS
  exact zx_run C hl hS (vx_runV (As := as) (rest := rest) ⟨C.ex, C.bt, C.ml, C.ow, C.ts⟩ hM (cw s args C.ts) ⟨zI.blind, va_recv C.K hP hc hq, fun U hU hW => ⟨rfl, zI.pre C hP hD hS U hU hW⟩⟩ rfl hn hl.1 rfl (lv_room hr) d hf) k kx
/-- it goes on out of this method -/
theorem zx_out {E : String} {mc ms : Nat} (hψ : ψ E σ) (hc : cs ≤ mc) (hs : sl ≤ ms) : zBx l G Ts own cc nL ret [] R (zX G φ ψ mc ms) E cs sl pc lv st σ :=
  fun p e s m args below meth c C H locs ls hl hP hD hS q ce hq hv hcl => vx_out (by rw [C.tb]; intro x hx; cases hx) C.lk hq hv hcl (fun t ht hA => ⟨σ, hψ, by rw [ht]; exact hP, hD, by rw [ht]; exact ⟨hS.1, hS.2.1, fun q h => by cases h⟩⟩) hS.2.2 hc hs
/-- the words of a new exception's chain -/
def zxw (own : String) (ik ic : Nat) (E : String) : Prop := Bundle.fit E = true ∧ Cond.classLink own ik E ∈ zws ∧ Cond.initialized E ∈ zws ∧ (∀ w ∈ (vx_at0 own ic E ["java/lang/RuntimeException", "java/lang/Exception"]).filter goodWord, w ∈ zws) ∧
  (∀ w ∈ (vx_at0 own ic E ["java/lang/RuntimeException", "java/lang/Exception"]).filter (fun w => !goodWord w), w ∈ ([.declares (Bundle.init0 "java/lang/RuntimeException"), .declares (Bundle.init0 "java/lang/Exception"), .declares (Bundle.init0 Bundle.tN), .castable E E] : List Cond)) ∧
  ∀ w ∈ Cond.classLink own ik E :: Cond.initialized E :: vx_at0 own ic E ["java/lang/RuntimeException", "java/lang/Exception"], vx_ot w = true
theorem zx_throw {E : String} {ik ic mc ms : Nat} (hE : zxw own ik ic E) (hcE : E = zNS ∨ E = zIA ∨ E = zIS) (htr : l.stackTraces = false) (d0 : decode cc pc = .ok (.new ik, 3)) (d3 : decode cc (pc + 3) = .ok (.dup, 1)) (d4 : decode cc (pc + 4) = .ok (.invokespecial ic, 3)) (d7 : decode cc (pc + 7) = .ok (.athrow, 1))
    (hRf : 5 < R.frames) (hRl : (st.map fun v => v.category).sum + 81 ≤ R.locals) (hRc : cs + 1 ≤ R.cells) (hRs : sl + 6 ≤ R.slots) (hc : cs + 1 ≤ mc) (hs : sl + 6 ≤ ms) (hψ : ψ E σ) : zB l G Ts own cc nL ret [] R (zX G φ ψ mc ms) cs sl pc lv st σ := by
  intro p e s m args below meth c C H locs ls hl hP hD hS T hT X
  obtain ⟨h1, h2, h3, h4, h5, h6⟩ := hE
  obtain ⟨⟨z1, z2⟩, ⟨b1, b2, b3⟩, ⟨c1, c2, c3⟩, -, -⟩ := C.st
  have hkp : ∀ a : Nat, a < (zH G).size → ¬ zA G a → s.heap[a]? = (zH G)[a]? := C.w0.2.1
  have hca : va_Nw (.castable E E) s := by
    rcases hcE with rfl | rfl | rfl
    · exact c1
    · exact c2
    · exact c3
  have hsz : s.heap.size ≤ H.size := by rw [← hT]; exact X.same.2.1
  exact vx_throw0 C.ex C.bt htr (names := ["java/lang/RuntimeException", "java/lang/Exception"]) (A := zA G) C.ow h1 (by decide +kernel) (C.zs _ h2) (C.zs _ h3)
    (vx_hat (fun w hw => C.zs w (h4 w hw)) h5 (vx_c (b1.use rfl) (vx_c (b2.use rfl) (vx_c (b3.use rfl) (vx_c (hca.use rfl) vx_n))))) h6 (z1.kept hkp) (z2.kept hkp)
    ⟨hsz, fun q q1 q2 => (hS.2.1 q (Nat.not_le.mp q2) q2).trans (hkp q (Nat.not_le.mp q2) q2).symm, hS.2.2⟩ (hl.1.trans C.ml.symm) d0 d3 d4 d7 (by rw [C.tb]; intro x hx; cases hx) hRf (by show _ + (13 * 3 + 42) ≤ _; omega) hRc hRs C.lk
    (fun t hA q1 q2 => ⟨σ, hψ, hP.kept (fun k q hk => q2 q.1 (hP k q hk).lt), hD, Nat.le_trans hS.1 q1, fun q g1 g2 => (q2 q (Nat.lt_of_lt_of_le g1 hS.1)).trans (hS.2.1 q g1 g2), fun q h => by cases h⟩) hS.2.2 hc hs T hT X
end ZX
theorem xw_NS : zxw R_Sh 57 59 zNS := ⟨by decide +kernel, by decide +kernel, by decide +kernel, by decide +kernel, by decide +kernel, by decide +kernel⟩
theorem xw_IA : zxw R_Sh 123 125 zIA := ⟨by decide +kernel, by decide +kernel, by decide +kernel, by decide +kernel, by decide +kernel, by decide +kernel⟩
theorem xw_IS : zxw R_Sh 126 128 zIS := ⟨by decide +kernel, by decide +kernel, by decide +kernel, by decide +kernel, by decide +kernel, by decide +kernel⟩
end
section
/-! PURE ROWS: a relation as n tuples in order with counts (T, C), and the count of every tuple (m) -/
abbrev zN (x : Int32) : Nat := x.toNatClampNeg
def zp (T C : Nat → Int32) (n : Nat) (m : Nat → Int32) : Prop :=
  n ≤ 300 ∧ (∀ i, i < n → zN (T i) < 4096 ∧ T i = nI (zN (T i))) ∧ (∀ i j, i < j → j < n → zN (T i) < zN (T j)) ∧ (∀ i, i < n → C i ≠ 0 ∧ m (zN (T i)) = C i) ∧ ∀ t, m t ≠ 0 → ∃ i, i < n ∧ zN (T i) = t
def srt (T : Nat → Int32) (n : Nat) : Prop := ∀ i j, i < j → j < n → T i < T j
/-- a window in which the place of t lies -/
def plI (T : Nat → Int32) (n : Nat) (t : Int32) (a w : Nat) : Prop := a ≤ n ∧ (∀ i, i < a → T i < t) ∧ ∀ i, a + w ≤ i → i < n → ¬ T i < t
def pl (T : Nat → Int32) (n : Nat) (t : Int32) (a : Nat) : Prop := plI T n t a 0
theorem i_tr {a b c : Int32} (h : a < b) (h2 : b < c) : a < c := by
  rw [Int32.lt_iff_toInt_lt] at *
  omega
theorem srt_up {T : Nat → Int32} {n j i : Nat} {t : Int32} (h : srt T n) (hj : ¬ T j < t) (hji : j ≤ i) (hi : i < n) : ¬ T i < t := by
  rcases Nat.lt_or_eq_of_le hji with h1 | rfl
  · exact fun h2 => hj (i_tr (h j i h1 hi) h2)
  · exact hj
theorem srt_dn {T : Nat → Int32} {n j i : Nat} {t : Int32} (h : srt T n) (hj : T j < t) (hji : i ≤ j) (hi : j < n) : T i < t := by
  rcases Nat.lt_or_eq_of_le hji with h1 | rfl
  · exact i_tr (h i j h1 hi) hj
  · exact hj
theorem plI_yes {T : Nat → Int32} {n a s w : Nat} {t : Int32} (hs : srt T n) (h : plI T n t a w) (hw : w = 2 * s - 1) (h1 : 1 ≤ s) (ha : a + s ≤ n) (ht : T (a + s - 1) < t) : plI T n t (a + s) (s - 1) :=
  ⟨ha, fun i hi => srt_dn hs ht (by omega) (by omega), fun i h2 h3 => h.2.2 i (by omega) h3⟩
theorem plI_no {T : Nat → Int32} {n a s : Nat} {t : Int32} (hs : srt T n) {w : Nat} (h : plI T n t a w) (h1 : 1 ≤ s) (ht : n < a + s ∨ ¬ T (a + s - 1) < t) : plI T n t a (s - 1) := by
  refine ⟨h.1, h.2.1, fun i h2 h3 => ?_⟩
  rcases ht with ht | ht
  · omega
  · exact srt_up hs ht (by omega) h3
theorem zN_nI {t : Nat} (h : t < 2 ^ 31) : zN (nI t) = t := nI_clamp h
theorem zp.srt {T C : Nat → Int32} {n : Nat} {m : Nat → Int32} (h : zp T C n m) : srt T n := fun i j hij hj => by
  rw [(h.2.1 i (by omega)).2, (h.2.1 j hj).2]
  have h1 := h.2.2.1 i j hij hj
  have h2 := (h.2.1 j hj).1
  exact nI_lt h1 (by omega)
theorem zp.lt {T C : Nat → Int32} {n : Nat} {m : Nat → Int32} (h : zp T C n m) {i t : Nat} (hi : i < n) (ht : t < 2 ^ 31) : T i < nI t ↔ zN (T i) < t := by
  have h2 := (h.2.1 i hi).1
  rw [(h.2.1 i hi).2, nI_ltI (by omega) ht, zN_nI (by omega)]
theorem zp.eq {T C : Nat → Int32} {n : Nat} {m : Nat → Int32} (h : zp T C n m) {i t : Nat} (hi : i < n) (ht : t < 2 ^ 31) : T i = nI t ↔ zN (T i) = t := by
  have h2 := (h.2.1 i hi).1
  rw [(h.2.1 i hi).2, nI_eq (by omega) ht, zN_nI (by omega)]
/-- at its place, or nowhere -/
theorem zp.at {T C : Nat → Int32} {n p t : Nat} {m : Nat → Int32} (h : zp T C n m) (ht : t < 2 ^ 31) (hp : pl T n (nI t) p) : (p < n ∧ T p = nI t ∧ m t = C p ∧ C p ≠ 0) ∨ (¬ (p < n ∧ T p = nI t) ∧ m t = 0) := by
  by_cases hc : p < n ∧ T p = nI t
  · have h1 := (h.eq hc.1 ht).mp hc.2
    have h2 := h.2.2.2.1 p hc.1
    rw [h1] at h2
    exact Or.inl ⟨hc.1, hc.2, h2.2, h2.1⟩
  · refine Or.inr ⟨hc, ?_⟩
    by_cases hm : m t = 0
    · exact hm
    · obtain ⟨i, hi, hit⟩ := h.2.2.2.2 t hm
      have e1 := (h.eq hi ht).mpr hit
      exfalso
      by_cases hip : i < p
      · have := hp.2.1 i hip
        rw [h.lt hi ht] at this
        omega
      · have h3 := hp.2.2 p (by omega) (by omega)
        by_cases hpi : p = i
        · subst hpi; exact hc ⟨hi, e1⟩
        · have h4 := h.2.2.1 p i (by omega) hi
          rw [h.lt (by omega) ht] at h3
          omega
theorem zp_upd {T C : Nat → Int32} {n p t : Nat} {m : Nat → Int32} {x : Int32} (h : zp T C n m) (hp : p < n) (hT : zN (T p) = t) (hx : x ≠ 0) : zp T (upd C p x) n (upd m t x) := by
  refine ⟨h.1, h.2.1, h.2.2.1, fun i hi => ?_, fun u hu => ?_⟩
  · by_cases hip : i = p
    · subst hip
      rw [pk_us, hT, pk_us]
      exact ⟨hx, rfl⟩
    · have hne : zN (T i) ≠ t := by
        intro e
        rcases Nat.lt_or_gt_of_ne hip with q | q
        · have := h.2.2.1 i p q hp; omega
        · have := h.2.2.1 p i q hi; omega
      rw [pk_un hip, pk_un hne]
      exact h.2.2.2.1 i hi
  · by_cases e : u = t
    · exact ⟨p, hp, by rw [e]; exact hT⟩
    · rw [pk_un e] at hu
      exact h.2.2.2.2 u hu
theorem zp_rem {T C C1 : Nat → Int32} {n p t : Nat} {m : Nat → Int32} (h : zp T C n m) (hp : p < n) (hT : zN (T p) = t) (hC : ∀ i, i ≠ p → C1 i = C i) : zp (va_cpy T T (p + 1) p (n - 1 - p)) (va_cpy C1 C1 (p + 1) p (n - 1 - p)) (n - 1) (upd m t 0) := by
  have eT : ∀ i, i < n - 1 → va_cpy T T (p + 1) p (n - 1 - p) i = T (if i < p then i else i + 1) := by
    intro i hi
    by_cases q : i < p
    · rw [pk_cpy_out (Or.inl q), if_pos q]
    · rw [pk_cpy_in (by omega) (by omega), if_neg q]
      congr 1; omega
  have eC : ∀ i, i < n - 1 → va_cpy C1 C1 (p + 1) p (n - 1 - p) i = C (if i < p then i else i + 1) := by
    intro i hi
    by_cases q : i < p
    · rw [pk_cpy_out (Or.inl q), if_pos q, hC i (by omega)]
    · rw [pk_cpy_in (by omega) (by omega), if_neg q, hC _ (by omega)]
      congr 1; omega
  have hne : ∀ i, i < n → i ≠ p → zN (T i) ≠ t := by
    intro i hi hip e
    rcases Nat.lt_or_gt_of_ne hip with q | q
    · have := h.2.2.1 i p q hp; omega
    · have := h.2.2.1 p i q hi; omega
  refine ⟨by have := h.1; omega, fun i hi => ?_, fun i j hij hj => ?_, fun i hi => ?_, fun u hu => ?_⟩
  · rw [eT i hi]
    exact h.2.1 _ (by split <;> omega)
  · rw [eT i (by omega), eT j hj]
    exact h.2.2.1 _ _ (by split <;> split <;> omega) (by split <;> omega)
  · rw [eT i hi, eC i hi, pk_un (hne _ (by split <;> omega) (by split <;> omega))]
    exact h.2.2.2.1 _ (by split <;> omega)
  · by_cases e : u = t
    · subst e
      rw [pk_us] at hu
      exact absurd rfl hu
    · rw [pk_un e] at hu
      obtain ⟨i, hi, hit⟩ := h.2.2.2.2 u hu
      have hip : i ≠ p := fun q => e (by rw [← hit, q]; exact hT)
      by_cases q : i < p
      · exact ⟨i, by omega, by rw [eT i (by omega), if_pos q]; exact hit⟩
      · refine ⟨i - 1, by omega, ?_⟩
        rw [eT (i - 1) (by omega), if_neg (by omega), show i - 1 + 1 = i by omega]
        exact hit
theorem zp_ins {T C : Nat → Int32} {n p t : Nat} {m : Nat → Int32} {x : Int32} (h : zp T C n m) (hpl : pl T n (nI t) p) (ht : t < 4096) (hm : m t = 0) (hn : n < 300) (hx : x ≠ 0) :
    zp (upd (va_cpy T T p (p + 1) (n - p)) p (nI t)) (upd (va_cpy C C p (p + 1) (n - p)) p x) (n + 1) (upd m t x) := by
  have hpn : p ≤ n := hpl.1
  have eT : ∀ i, i < n + 1 → i ≠ p → upd (va_cpy T T p (p + 1) (n - p)) p (nI t) i = T (if i < p then i else i - 1) := by
    intro i hi hip
    rw [pk_un hip]
    by_cases q : i < p
    · rw [pk_cpy_out (Or.inl (by omega)), if_pos q]
    · rw [pk_cpy_in (by omega) (by omega), if_neg q]
      congr 1; omega
  have eC : ∀ i, i < n + 1 → i ≠ p → upd (va_cpy C C p (p + 1) (n - p)) p x i = C (if i < p then i else i - 1) := by
    intro i hi hip
    rw [pk_un hip]
    by_cases q : i < p
    · rw [pk_cpy_out (Or.inl (by omega)), if_pos q]
    · rw [pk_cpy_in (by omega) (by omega), if_neg q]
      congr 1; omega
  have ht' : zN (nI t) = t := zN_nI (by omega)
  have hne : ∀ i, i < n → zN (T i) ≠ t := by
    intro i hi e
    have := h.2.2.2.1 i hi
    rw [e, hm] at this
    exact this.1 this.2.symm
  have lo : ∀ i, i < p → zN (T i) < t := fun i hi => (h.lt (by omega) (by omega)).mp (hpl.2.1 i hi)
  have hi' : ∀ i, p ≤ i → i < n → t < zN (T i) := fun i h1 h2 => by
    have h3 := hpl.2.2 i (by omega) h2
    rw [h.lt h2 (by omega)] at h3
    have := hne i h2
    omega
  refine ⟨by omega, fun i hi => ?_, fun i j hij hj => ?_, fun i hi => ?_, fun u hu => ?_⟩
  · by_cases hip : i = p
    · subst hip
      rw [pk_us, ht']
      exact ⟨ht, rfl⟩
    · rw [eT i hi hip]
      exact h.2.1 _ (by split <;> omega)
  · by_cases hip : i = p
    · subst hip
      rw [pk_us, ht', eT j hj (by omega), if_neg (by omega)]
      exact hi' _ (by omega) (by omega)
    · by_cases hjp : j = p
      · subst hjp
        rw [pk_us, ht', eT i (by omega) hip, if_pos hij]
        exact lo _ hij
      · rw [eT i (by omega) hip, eT j hj hjp]
        exact h.2.2.1 _ _ (by split <;> split <;> omega) (by split <;> omega)
  · by_cases hip : i = p
    · subst hip
      rw [pk_us, pk_us, ht', pk_us]
      exact ⟨hx, rfl⟩
    · rw [eT i hi hip, eC i hi hip, pk_un (hne _ (by split <;> omega))]
      exact h.2.2.2.1 _ (by split <;> omega)
  · by_cases e : u = t
    · exact ⟨p, by omega, by rw [pk_us, ht', e]⟩
    · rw [pk_un e] at hu
      obtain ⟨i, hi, hit⟩ := h.2.2.2.2 u hu
      by_cases q : i < p
      · exact ⟨i, by omega, by rw [eT i (by omega) (by omega), if_pos q]; exact hit⟩
      · refine ⟨i + 1, by omega, ?_⟩
        rw [eT (i + 1) (by omega) (by omega), if_neg (by omega), show i + 1 - 1 = i by omega]
        exact hit
end
section
abbrev w_Sh_init : List Cond := zwy y_Sh_init c_Sh_init 2 none
abbrev w_Rel_init : List Cond := zwy y_Rel_init c_Rel_init 1 none
abbrev w_Sh_width : List Cond := zwy y_Sh_width c_Sh_width 5 (some .int)
abbrev w_Sh_relationOf : List Cond := zwy y_Sh_relationOf c_Sh_relationOf 2 (some (.object "TupleShelf$Relation"))
abbrev w_Sh_mustBeRelation : List Cond := zwy y_Sh_mustBeRelation c_Sh_mustBeRelation 1 none
abbrev w_Sh_refuseUnless : List Cond := zwy y_Sh_refuseUnless c_Sh_refuseUnless 1 none
abbrev w_Rel_startAnew : List Cond := zwy y_Rel_startAnew c_Rel_startAnew 2 none
abbrev w_Sh_put : List Cond := zwy y_Sh_put c_Sh_put 5 (some .int)
abbrev w_Sh_isTuple : List Cond := zwy y_Sh_isTuple c_Sh_isTuple 2 (some .boolean)
abbrev w_Sh_bitsBehind : List Cond := zwy y_Sh_bitsBehind c_Sh_bitsBehind 1 (some .int)
abbrev w_Rel_raise : List Cond := zwy y_Rel_raise c_Rel_raise 4 (some .boolean)
abbrev w_Rel_placeOf : List Cond := zwy y_Rel_placeOf c_Rel_placeOf 4 (some .int)
abbrev w_Rel_holdsAt : List Cond := zwy y_Rel_holdsAt c_Rel_holdsAt 3 (some .boolean)
abbrev w_Rel_raiseAt : List Cond := zwy y_Rel_raiseAt c_Rel_raiseAt 3 none
abbrev w_Rel_removeAt : List Cond := zwy y_Rel_removeAt c_Rel_removeAt 2 none
abbrev w_Rel_insertAt : List Cond := zwy y_Rel_insertAt c_Rel_insertAt 4 none
abbrev w_Sh_refuseIfFull : List Cond := zwy y_Sh_refuseIfFull c_Sh_refuseIfFull 1 none
abbrev w_Rel_countOf : List Cond := zwy y_Rel_countOf c_Rel_countOf 3 (some .int)
abbrev w_Sh_count : List Cond := zwy y_Sh_count c_Sh_count 4 (some .int)
abbrev w_Sh_at : List Cond := zwy y_Sh_at c_Sh_at 4 (some .int)
abbrev w_Sh_join : List Cond := zwy y_Sh_join c_Sh_join 10 (some .int)
abbrev w_Sh_joinOne : List Cond := zwy y_Sh_joinOne c_Sh_joinOne 12 (some .boolean)
abbrev w_Sh_lastNumbers : List Cond := zwy y_Sh_lastNumbers c_Sh_lastNumbers 3 (some .int)
abbrev w_Sh_keepSpareAs : List Cond := zwy y_Sh_keepSpareAs c_Sh_keepSpareAs 3 (some .int)
abbrev w_Sh_narrow : List Cond := zwy y_Sh_narrow c_Sh_narrow 6 (some .int)
abbrev w_Jint_bitCount : List Cond := zwy y_Jint_bitCount c_Jint_bitCount 1 (some .int)
abbrev w_Sh_narrowed : List Cond := zwy y_Sh_narrowed c_Sh_narrowed 5 (some .int)
abbrev w_Sh_numberAt : List Cond := zwy y_Sh_numberAt c_Sh_numberAt 2 (some .int)
abbrev w_Sh_withNumber : List Cond := zwy y_Sh_withNumber c_Sh_withNumber 2 (some .int)
abbrev w_Sh_pick : List Cond := zwy y_Sh_pick c_Sh_pick 7 (some .int)
abbrev w_Sh_alter : List Cond := zwy y_Sh_alter c_Sh_alter 10 (some .int)
abbrev w_Sh_altered : List Cond := zwy y_Sh_altered c_Sh_altered 3 (some .int)
abbrev w_Jmath_min : List Cond := zwy y_Jmath_min c_Jmath_min 2 (some .int)
abbrev w_Sh_reach : List Cond := zwy y_Sh_reach c_Sh_reach 6 (some .int)
abbrev w_Sh_takeSteps : List Cond := zwy y_Sh_takeSteps c_Sh_takeSteps 4 none
abbrev w_Sh_followSteps : List Cond := zwy y_Sh_followSteps c_Sh_followSteps 3 none
abbrev w_Sh_isReached : List Cond := zwy y_Sh_isReached c_Sh_isReached 3 (some .boolean)
abbrev w_Sh_turn : List Cond := zwy y_Sh_turn c_Sh_turn 5 (some .int)
abbrev w_Sh_turned : List Cond := zwy y_Sh_turned c_Sh_turned 4 (some .int)
abbrev w_Sh_about : List Cond := zwy y_Sh_about c_Sh_about 4 (some .long)
abbrev w_Rel_firstNumbers : List Cond := zwy y_Rel_firstNumbers c_Rel_firstNumbers 3 (some .int)
abbrev w_Rel_sum : List Cond := zwy y_Rel_sum c_Rel_sum 4 (some .long)
abbrev w_Rel_greatest : List Cond := zwy y_Rel_greatest c_Rel_greatest 3 (some .int)
abbrev w_Jmath_max : List Cond := zwy y_Jmath_max c_Jmath_max 2 (some .int)
abbrev w_Sh_same : List Cond := zwy y_Sh_same c_Sh_same 5 (some .boolean)
abbrev w_Rel_holdsWhat : List Cond := zwy y_Rel_holdsWhat c_Rel_holdsWhat 3 (some .boolean)
abbrev w_Mo_init : List Cond := zwy y_Mo_init c_Mo_init 2 none
abbrev w_Mo_thrown : List Cond := zwy y_Mo_thrown c_Mo_thrown 1 (some .int)
abbrev w_Mo_width : List Cond := zwy y_Mo_width c_Mo_width 5 (some .int)
abbrev w_Mo_none : List Cond := zwy y_Mo_none c_Mo_none 2 (some .boolean)
abbrev w_Mo_refuse : List Cond := zwy y_Mo_refuse c_Mo_refuse 3 (some .boolean)
abbrev w_Mo_in : List Cond := zwy y_Mo_in c_Mo_in 2 (some .int)
abbrev w_Mo_many : List Cond := zwy y_Mo_many c_Mo_many 4 (some .int)
abbrev w_Mo_put : List Cond := zwy y_Mo_put c_Mo_put 5 (some .int)
abbrev w_Mo_isTuple : List Cond := zwy y_Mo_isTuple c_Mo_isTuple 2 (some .boolean)
abbrev w_Mo_of : List Cond := zwy y_Mo_of c_Mo_of 3 (some .int)
abbrev w_Mo_count : List Cond := zwy y_Mo_count c_Mo_count 3 (some .int)
abbrev w_Mo_at : List Cond := zwy y_Mo_at c_Mo_at 5 (some .int)
abbrev w_Mo_join : List Cond := zwy y_Mo_join c_Mo_join 10 (some .int)
abbrev w_Mo_begin : List Cond := zwy y_Mo_begin c_Mo_begin 2 none
abbrev w_Mo_number : List Cond := zwy y_Mo_number c_Mo_number 2 (some .int)
abbrev w_Mo_keep : List Cond := zwy y_Mo_keep c_Mo_keep 6 (some .int)
abbrev w_Mo_narrow : List Cond := zwy y_Mo_narrow c_Mo_narrow 8 (some .int)
abbrev w_Mo_bits : List Cond := zwy y_Mo_bits c_Mo_bits 3 (some .int)
abbrev w_Mo_pick : List Cond := zwy y_Mo_pick c_Mo_pick 6 (some .int)
abbrev w_Mo_alter : List Cond := zwy y_Mo_alter c_Mo_alter 6 (some .int)
abbrev w_Mo_altered : List Cond := zwy y_Mo_altered c_Mo_altered 3 (some .int)
abbrev w_Mo_reach : List Cond := zwy y_Mo_reach c_Mo_reach 8 (some .int)
abbrev w_Mo_turn : List Cond := zwy y_Mo_turn c_Mo_turn 7 (some .int)
abbrev w_Mo_about : List Cond := zwy y_Mo_about c_Mo_about 10 (some .long)
abbrev w_Mo_same : List Cond := zwy y_Mo_same c_Mo_same 5 (some .boolean)
abbrev zrm (f lo : Nat) : Room := { frames := f, cells := 0, slots := 0, locals := lo }
abbrev zrx (f lo : Nat) : Room := { frames := f, cells := 1, slots := 6, locals := lo }
section ZFL
variable {l : Launch} {G : zG} {Ts : List Cond} {own : String} {cc : ByteArray} {nL : Nat} {ret : Option FieldType} {xt : List ExceptionTableEntry} {R : Room} {Fin : List Frame → Array Value → State → State → Prop} {cs sl : Nat} {pc : Nat} {lv lv' : List (Nat × Value)} {st : List Value} {σ : zS}
theorem zgR {q : Nat} (hq : zrl q) : (zW G σ)[q]? = some (zad G q, .inr (n_Rel, [.ref (zad G (q + 1)), .ref (zad G (q + 2)), .int (σ.1 q 0), .int (σ.1 q 1)])) := by rw [zW_at hq.lt, zF_rel hq]
theorem zgS : (zW G σ)[0]? = some (zad G 0, .inr (n_Shelf, [.ref (zad G 1), .ref (zad G (σ.1 0 0).toNatClampNeg), .ref (zad G 29)])) := by rw [zW_at (by decide)]; rfl
theorem zgM : (zW G σ)[30]? = some (zad G 30, .inr (n_Model, [.int (σ.1 30 0), .ref (zad G 31), .ref (zad G 32), .ref (zad G 33), .ref (zad G 34)])) := by rw [zW_at (by decide)]; rfl
theorem zr_tuples {q index : Nat} (d : decode cc pc = .ok (.getfield index, 3)) (hlk : Cond.fieldLink own index "TupleShelf$Relation" "tuples" "[I" ∈ zws) (hq : zrl q) (k : zB l G Ts own cc nL ret xt R Fin cs sl (pc + 3) lv (.ref (zad G (q + 1)) :: st) σ) : zB l G Ts own cc nL ret xt R Fin cs sl pc lv (.ref (zad G q) :: st) σ :=
  zb_getf (ci := n_Rel) (C0 := R_Rel) (T0 := T_Rel) (N := 4) (ref := "TupleShelf$Relation") 0 d zu_Rel hlk rfl (zgR hq) rfl (by decide) rfl k
theorem zr_counts {q index : Nat} (d : decode cc pc = .ok (.getfield index, 3)) (hlk : Cond.fieldLink own index "TupleShelf$Relation" "counts" "[I" ∈ zws) (hq : zrl q) (k : zB l G Ts own cc nL ret xt R Fin cs sl (pc + 3) lv (.ref (zad G (q + 2)) :: st) σ) : zB l G Ts own cc nL ret xt R Fin cs sl pc lv (.ref (zad G q) :: st) σ :=
  zb_getf (ci := n_Rel) (C0 := R_Rel) (T0 := T_Rel) (N := 4) (ref := "TupleShelf$Relation") 1 d zu_Rel hlk rfl (zgR hq) rfl (by decide) rfl k
theorem zr_width {q index : Nat} (d : decode cc pc = .ok (.getfield index, 3)) (hlk : Cond.fieldLink own index "TupleShelf$Relation" "width" "I" ∈ zws) (hq : zrl q) (k : zB l G Ts own cc nL ret xt R Fin cs sl (pc + 3) lv (.int (σ.1 q 0) :: st) σ) : zB l G Ts own cc nL ret xt R Fin cs sl pc lv (.ref (zad G q) :: st) σ :=
  zb_getf (ci := n_Rel) (C0 := R_Rel) (T0 := T_Rel) (N := 4) (ref := "TupleShelf$Relation") 2 d zu_Rel hlk rfl (zgR hq) rfl (by decide) rfl k
theorem zr_size {q index : Nat} (d : decode cc pc = .ok (.getfield index, 3)) (hlk : Cond.fieldLink own index "TupleShelf$Relation" "size" "I" ∈ zws) (hq : zrl q) (k : zB l G Ts own cc nL ret xt R Fin cs sl (pc + 3) lv (.int (σ.1 q 1) :: st) σ) : zB l G Ts own cc nL ret xt R Fin cs sl pc lv (.ref (zad G q) :: st) σ :=
  zb_getf (ci := n_Rel) (C0 := R_Rel) (T0 := T_Rel) (N := 4) (ref := "TupleShelf$Relation") 3 d zu_Rel hlk rfl (zgR hq) rfl (by decide) rfl k
theorem zr_put_width {q index : Nat} {x : Int32} (d : decode cc pc = .ok (.putfield index, 3)) (hlk : Cond.fieldLink own index "TupleShelf$Relation" "width" "I" ∈ zws) (hq : zrl q) (k : zB l G Ts own cc nL ret xt R Fin cs sl (pc + 3) lv st (zu σ q (upd (σ.1 q) 0 x))) : zB l G Ts own cc nL ret xt R Fin cs sl pc lv (.int x :: .ref (zad G q) :: st) σ :=
  zb_putf (ci := n_Rel) (C0 := R_Rel) (T0 := T_Rel) (N := 4) (ref := "TupleShelf$Relation") (ty := .int) 2 ty_Rel ty_Rel_ok nm_Rel d zu_Rel hlk rfl (zgR hq) rfl (by decide) rfl (by decide +kernel) rfl rfl (Nat.le_of_ble_eq_true rfl) (zW_zu hq.lt (by rw [zF_rel hq]; simp [upd])) k
theorem zr_put_size {q index : Nat} {x : Int32} (d : decode cc pc = .ok (.putfield index, 3)) (hlk : Cond.fieldLink own index "TupleShelf$Relation" "size" "I" ∈ zws) (hq : zrl q) (k : zB l G Ts own cc nL ret xt R Fin cs sl (pc + 3) lv st (zu σ q (upd (σ.1 q) 1 x))) : zB l G Ts own cc nL ret xt R Fin cs sl pc lv (.int x :: .ref (zad G q) :: st) σ :=
  zb_putf (ci := n_Rel) (C0 := R_Rel) (T0 := T_Rel) (N := 4) (ref := "TupleShelf$Relation") (ty := .int) 3 ty_Rel ty_Rel_ok nm_Rel d zu_Rel hlk rfl (zgR hq) rfl (by decide) rfl (by decide +kernel) rfl rfl (Nat.le_of_ble_eq_true rfl) (zW_zu hq.lt (by rw [zF_rel hq]; simp [upd])) k
theorem zs_relations {index : Nat} (d : decode cc pc = .ok (.getfield index, 3)) (hlk : Cond.fieldLink own index "TupleShelf" "relations" "[LTupleShelf$Relation;" ∈ zws) (k : zB l G Ts own cc nL ret xt R Fin cs sl (pc + 3) lv (.ref (zad G 1) :: st) σ) : zB l G Ts own cc nL ret xt R Fin cs sl pc lv (.ref (zad G 0) :: st) σ :=
  zb_getf (ci := n_Shelf) (C0 := R_Sh) (T0 := T_Sh) (N := 3) (ref := "TupleShelf") 0 d zu_Sh hlk rfl zgS rfl (by decide) rfl k
theorem zs_spare {index : Nat} (d : decode cc pc = .ok (.getfield index, 3)) (hlk : Cond.fieldLink own index "TupleShelf" "spare" "LTupleShelf$Relation;" ∈ zws) (k : zB l G Ts own cc nL ret xt R Fin cs sl (pc + 3) lv (.ref (zad G (σ.1 0 0).toNatClampNeg) :: st) σ) : zB l G Ts own cc nL ret xt R Fin cs sl pc lv (.ref (zad G 0) :: st) σ :=
  zb_getf (ci := n_Shelf) (C0 := R_Sh) (T0 := T_Sh) (N := 3) (ref := "TupleShelf") 1 d zu_Sh hlk rfl zgS rfl (by decide) rfl k
theorem zs_reached {index : Nat} (d : decode cc pc = .ok (.getfield index, 3)) (hlk : Cond.fieldLink own index "TupleShelf" "reached" "[I" ∈ zws) (k : zB l G Ts own cc nL ret xt R Fin cs sl (pc + 3) lv (.ref (zad G 29) :: st) σ) : zB l G Ts own cc nL ret xt R Fin cs sl pc lv (.ref (zad G 0) :: st) σ :=
  zb_getf (ci := n_Shelf) (C0 := R_Sh) (T0 := T_Sh) (N := 3) (ref := "TupleShelf") 2 d zu_Sh hlk rfl zgS rfl (by decide) rfl k
theorem zm_thrown {index : Nat} (d : decode cc pc = .ok (.getfield index, 3)) (hlk : Cond.fieldLink own index "TupleShelfModel" "thrown" "I" ∈ zws) (k : zB l G Ts own cc nL ret xt R Fin cs sl (pc + 3) lv (.int (σ.1 30 0) :: st) σ) : zB l G Ts own cc nL ret xt R Fin cs sl pc lv (.ref (zad G 30) :: st) σ :=
  zb_getf (ci := n_Model) (C0 := R_Mo) (T0 := T_Mo) (N := 5) (ref := "TupleShelfModel") 0 d zu_Mo hlk rfl zgM rfl (by decide) rfl k
theorem zm_width {index : Nat} (d : decode cc pc = .ok (.getfield index, 3)) (hlk : Cond.fieldLink own index "TupleShelfModel" "width" "[I" ∈ zws) (k : zB l G Ts own cc nL ret xt R Fin cs sl (pc + 3) lv (.ref (zad G 31) :: st) σ) : zB l G Ts own cc nL ret xt R Fin cs sl pc lv (.ref (zad G 30) :: st) σ :=
  zb_getf (ci := n_Model) (C0 := R_Mo) (T0 := T_Mo) (N := 5) (ref := "TupleShelfModel") 1 d zu_Mo hlk rfl zgM rfl (by decide) rfl k
theorem zm_counts {index : Nat} (d : decode cc pc = .ok (.getfield index, 3)) (hlk : Cond.fieldLink own index "TupleShelfModel" "counts" "[I" ∈ zws) (k : zB l G Ts own cc nL ret xt R Fin cs sl (pc + 3) lv (.ref (zad G 32) :: st) σ) : zB l G Ts own cc nL ret xt R Fin cs sl pc lv (.ref (zad G 30) :: st) σ :=
  zb_getf (ci := n_Model) (C0 := R_Mo) (T0 := T_Mo) (N := 5) (ref := "TupleShelfModel") 2 d zu_Mo hlk rfl zgM rfl (by decide) rfl k
theorem zm_made {index : Nat} (d : decode cc pc = .ok (.getfield index, 3)) (hlk : Cond.fieldLink own index "TupleShelfModel" "made" "[I" ∈ zws) (k : zB l G Ts own cc nL ret xt R Fin cs sl (pc + 3) lv (.ref (zad G 33) :: st) σ) : zB l G Ts own cc nL ret xt R Fin cs sl pc lv (.ref (zad G 30) :: st) σ :=
  zb_getf (ci := n_Model) (C0 := R_Mo) (T0 := T_Mo) (N := 5) (ref := "TupleShelfModel") 3 d zu_Mo hlk rfl zgM rfl (by decide) rfl k
theorem zm_way {index : Nat} (d : decode cc pc = .ok (.getfield index, 3)) (hlk : Cond.fieldLink own index "TupleShelfModel" "way" "[Z" ∈ zws) (k : zB l G Ts own cc nL ret xt R Fin cs sl (pc + 3) lv (.ref (zad G 34) :: st) σ) : zB l G Ts own cc nL ret xt R Fin cs sl pc lv (.ref (zad G 30) :: st) σ :=
  zb_getf (ci := n_Model) (C0 := R_Mo) (T0 := T_Mo) (N := 5) (ref := "TupleShelfModel") 4 d zu_Mo hlk rfl zgM rfl (by decide) rfl k
theorem zm_put_thrown {index : Nat} {x : Int32} (d : decode cc pc = .ok (.putfield index, 3)) (hlk : Cond.fieldLink own index "TupleShelfModel" "thrown" "I" ∈ zws) (k : zB l G Ts own cc nL ret xt R Fin cs sl (pc + 3) lv st (zu σ 30 (upd (σ.1 30) 0 x))) : zB l G Ts own cc nL ret xt R Fin cs sl pc lv (.int x :: .ref (zad G 30) :: st) σ :=
  zb_putf (ci := n_Model) (C0 := R_Mo) (T0 := T_Mo) (N := 5) (ref := "TupleShelfModel") (ty := .int) 0 ty_Mo ty_Mo_ok nm_Mo d zu_Mo hlk rfl zgM rfl (by decide) rfl (by decide +kernel) rfl rfl (Nat.le_of_ble_eq_true rfl) (zW_zu (by decide) (by simp [zF, upd])) k
theorem zn_lt (q : Nat) : zn q < 2 ^ 31 := by unfold zn; split <;> (try split) <;> (try split) <;> (try split) <;> decide
theorem zb_ialdN {q j : Nat} (d : decode cc pc = .ok (.iaload, 1)) (hq : zia q) (hj : j < zn q) (k : zB l G Ts own cc nL ret xt R Fin cs sl (pc + 1) lv (.int (σ.1 q j) :: st) σ) : zB l G Ts own cc nL ret xt R Fin cs sl pc lv (.int (nI j) :: .ref (zad G q) :: st) σ :=
  zb_iald d hq (vp_in_nI hj (zn_lt q)) (by rw [nI_clamp (Nat.lt_trans hj (zn_lt q))]; exact k)
theorem zb_iastN {q j : Nat} {x : Int32} (d : decode cc pc = .ok (.iastore, 1)) (hq : zia q) (hj : j < zn q) (k : zB l G Ts own cc nL ret xt R Fin cs sl (pc + 1) lv st (zu σ q (upd (σ.1 q) j x))) : zB l G Ts own cc nL ret xt R Fin cs sl pc lv (.int x :: .int (nI j) :: .ref (zad G q) :: st) σ :=
  zb_iast d hq (vp_in_nI hj (zn_lt q)) (by rw [nI_clamp (Nat.lt_trans hj (zn_lt q))]; exact k)
theorem zb_copyN {q a b c : Nat} (hq : zia q) (ha : a + c ≤ zn q) (hb : b + c ≤ zn q) (hfr : 1 ≤ R.frames) (hlo : (st.map fun v => v.category).sum + (nativeFrameWords "java/lang/System" "arraycopy" 5 + 11) ≤ R.locals) (ho : own = R_Rel) (d : decode cc pc = .ok (.invokestatic 59, 3)) (k : zB l G Ts own cc nL ret xt R Fin cs sl (pc + 3) lv st (zu σ q (va_cpy (σ.1 q) (σ.1 q) a b c))) : zB l G Ts own cc nL ret xt R Fin cs sl pc lv (.int (nI c) :: .int (nI b) :: .ref (zad G q) :: .int (nI a) :: .ref (zad G q) :: st) σ := by
  have hz := zn_lt q
  subst ho
  refine zb_copy (index := 59) (zin 191 (by decide +kernel) (by decide +kernel)) (zin 193 (by decide +kernel) (by decide +kernel)) (zin 192 (by decide +kernel) (by decide +kernel)) (zin 9 (by decide +kernel) (by decide +kernel)) hq hq (nI_pos (by omega)) (nI_pos (by omega)) (nI_pos (by omega)) (by rw [nI_clamp (by omega), nI_clamp (by omega)]; exact ha) (by rw [nI_clamp (by omega), nI_clamp (by omega)]; exact hb) hfr hlo d ?_
  rw [nI_clamp (by omega), nI_clamp (by omega), nI_clamp (by omega)]
  exact k
end ZFL
/-- a relation's rows and what they stand for; what a change of it leaves alone -/
def zr (σ : zS) (q n : Nat) (m : Nat → Int32) : Prop := zrl q ∧ σ.1 q 1 = nI n ∧ zp (σ.1 (q + 1)) (σ.1 (q + 2)) n m
def zf (σ σ' : zS) (q : Nat) : Prop := (∀ k, k ≠ q → k ≠ q + 1 → k ≠ q + 2 → σ'.1 k = σ.1 k) ∧ σ'.2 = σ.2 ∧ σ'.1 q 0 = σ.1 q 0
def zrw (σ σ' : zS) (q n : Nat) (T C : Nat → Int32) : Prop := zf σ σ' q ∧ σ'.1 q 1 = nI n ∧ σ'.1 (q + 1) = T ∧ σ'.1 (q + 2) = C
theorem zf.rf (σ : zS) (q : Nat) : zf σ σ q := ⟨fun _ _ _ _ => rfl, rfl, rfl⟩
theorem zf.tr {σ σ1 σ2 : zS} {q : Nat} (h : zf σ σ1 q) (h2 : zf σ1 σ2 q) : zf σ σ2 q := ⟨fun k a b c => (h2.1 k a b c).trans (h.1 k a b c), h2.2.1.trans h.2.1, h2.2.2.trans h.2.2⟩
end
section
set_option maxHeartbeats 4000000 in
set_option maxRecDepth 100000 in
/-- startAnew(w): the width, size 0 -/
theorem c_startAnew (l : Launch) (G : zG) {σ : zS} {q : Nat} {x : Int32} (hq : zrl q) : zC l G y_Rel_startAnew w_Rel_startAnew (zrm 0 0) 0 0 [.ref (zad G q), .int x] σ (fun v σ' => v = none ∧ zu (zu σ q (upd (σ.1 q) 0 x)) q (upd ((zu σ q (upd (σ.1 q) 0 x)).1 q) 1 0) = σ') := by
  refine zC_of (cc := c_Rel_startAnew) (nL := 2) (ret := none) (own := R_Rel) (by decide +kernel) rfl rfl (Nat.le_of_ble_eq_true rfl) ?_
  refine zb_lv (lv' := [(0, .ref (zad G q)), (1, .int x)]) rfl ?_
  refine zb_aload_n d_Rel_startAnew_0 rfl rfl ?_
  refine zb_iload_n d_Rel_startAnew_1 rfl rfl ?_
  refine zr_put_width (q := q) d_Rel_startAnew_2 fl_Rel_18 hq ?_
  refine zb_aload_n d_Rel_startAnew_5 rfl rfl ?_
  refine zb_iconst (v := 0) d_Rel_startAnew_6 rfl ?_
  refine zr_put_size (q := q) d_Rel_startAnew_7 fl_Rel_22 hq ?_
  exact zb_vret d_Rel_startAnew_10 rfl ⟨rfl, rfl⟩
set_option maxHeartbeats 4000000 in
set_option maxRecDepth 100000 in
/-- holdsAt(k, t) -/
theorem c_holdsAt (l : Launch) (G : zG) {σ : zS} {q n k : Nat} {t : Int32} (hq : zrl q) (hn : σ.1 q 1 = nI n) (hn3 : n ≤ 300) (hk : k < 2 ^ 31) : zC l G y_Rel_holdsAt w_Rel_holdsAt (zrm 0 0) 0 0 [.ref (zad G q), .int (nI k), .int t] σ (fun v σ' => v = some (.int (if k < n ∧ σ.1 (q + 1) k = t then 1 else 0)) ∧ σ = σ') := by
  refine zC_of (cc := c_Rel_holdsAt) (nL := 3) (ret := (some .boolean)) (own := R_Rel) (by decide +kernel) rfl rfl (Nat.le_of_ble_eq_true rfl) ?_
  refine zb_lv (lv' := [(0, .ref (zad G q)), (1, .int (nI k)), (2, .int t)]) rfl ?_
  refine zb_iload_n d_Rel_holdsAt_0 rfl rfl ?_
  refine zb_aload_n d_Rel_holdsAt_1 rfl rfl ?_
  refine zr_size (q := q) d_Rel_holdsAt_2 fl_Rel_22 hq ?_
  refine zb_top (y := nI n) (hn) ?_
  refine zb_icmp_ge (tgt := 22) d_Rel_holdsAt_5 rfl (fun h5 => ?_) (fun h5 => ?_)
  · refine zb_iconst (v := 0) d_Rel_holdsAt_22 rfl ?_
    exact zb_zret d_Rel_holdsAt_23 rfl rfl ⟨by rw [if_neg (fun hh => absurd (Nat.not_le.mpr hh.1) (fun z => z ((nI_leI (by omega) hk).mp h5)))], rfl⟩
  · have hkn : k < n := Nat.not_le.mp (fun hh => h5 (nI_le hh (by omega)))
    refine zb_aload_n d_Rel_holdsAt_8 rfl rfl ?_
    refine zr_tuples (q := q) d_Rel_holdsAt_9 fl_Rel_9 hq ?_
    refine zb_iload_n d_Rel_holdsAt_12 rfl rfl ?_
    refine zb_ialdN (q := q + 1) (j := k) d_Rel_holdsAt_13 (hq.t) (by rw [hq.nt]; omega) ?_
    refine zb_iload_n d_Rel_holdsAt_14 rfl rfl ?_
    refine zb_icmp_ne (tgt := 22) d_Rel_holdsAt_15 rfl (fun h15 => ?_) (fun h15 => ?_)
    · refine zb_iconst (v := 0) d_Rel_holdsAt_22 rfl ?_
      exact zb_zret d_Rel_holdsAt_23 rfl rfl ⟨by rw [if_neg (fun hh => h15 hh.2)], rfl⟩
    · refine zb_iconst (v := 1) d_Rel_holdsAt_18 rfl ?_
      refine zb_goto (tgt := 23) d_Rel_holdsAt_19 rfl ?_
      exact zb_zret d_Rel_holdsAt_23 rfl rfl ⟨by rw [if_pos ⟨hkn, h15⟩], rfl⟩
set_option maxHeartbeats 4000000 in
set_option maxRecDepth 100000 in
theorem lp_placeOf_0 (l : Launch) (G : zG) {σ : zS} {q n : Nat} {t : Int32} (hq : zrl q) (hn : σ.1 q 1 = nI n) (hn3 : n ≤ 300) (hs : srt (σ.1 (q + 1)) n) {a : Nat} (h : pl (σ.1 (q + 1)) n t a) : zB l G w_Rel_placeOf R_Rel c_Rel_placeOf 4 (some .int) [] (zrm 0 0) (zR G (fun v σ' => (∃ p : Nat, v = some (.int (nI p)) ∧ pl (σ.1 (q + 1)) n t p) ∧ σ = σ') 0 0) 0 0 6 [(3, .int (nI 0)), (2, .int (nI a)), (0, .ref (zad G q)), (1, .int t)] [] σ := by
  refine zb_iload_n d_Rel_placeOf_6 rfl rfl ?_
  refine zb_if_le (tgt := 45) d_Rel_placeOf_7 rfl (fun h7 => ?_) (fun h7 => absurd (by decide) h7)
  refine zb_iload_n d_Rel_placeOf_45 rfl rfl ?_
  exact zb_iret d_Rel_placeOf_46 rfl ⟨⟨a, rfl, h⟩, rfl⟩
theorem pw (k : Nat) (h : k ≤ 8) : 2 ^ k < 2 ^ 31 := Nat.pow_lt_pow_right (by decide) (by omega)
theorem pw2 (k : Nat) (h : k ≤ 8) : 2 ^ k ≤ 256 := Nat.pow_le_pow_right (n := 2) (by decide) h
set_option maxHeartbeats 4000000 in
set_option maxRecDepth 100000 in
theorem lp_placeOf_b (l : Launch) (G : zG) {σ : zS} {q n : Nat} {t : Int32} (hq : zrl q) (hn : σ.1 q 1 = nI n) (hn3 : n ≤ 300) (hs : srt (σ.1 (q + 1)) n) {k a : Nat} (hk : k ≤ 8) (h38 : ∀ b : Nat, plI (σ.1 (q + 1)) n t b (2 ^ k - 1) → zB l G w_Rel_placeOf R_Rel c_Rel_placeOf 4 (some .int) [] (zrm 0 0) (zR G (fun v σ' => (∃ p : Nat, v = some (.int (nI p)) ∧ pl (σ.1 (q + 1)) n t p) ∧ σ = σ') 0 0) 0 0 38 [(3, .int (nI (2 ^ k))), (2, .int (nI b)), (0, .ref (zad G q)), (1, .int t)] [] σ) (h : plI (σ.1 (q + 1)) n t a (2 ^ (k + 1) - 1)) : zB l G w_Rel_placeOf R_Rel c_Rel_placeOf 4 (some .int) [] (zrm 0 0) (zR G (fun v σ' => (∃ p : Nat, v = some (.int (nI p)) ∧ pl (σ.1 (q + 1)) n t p) ∧ σ = σ') 0 0) 0 0 6 [(3, .int (nI (2 ^ k))), (2, .int (nI a)), (0, .ref (zad G q)), (1, .int t)] [] σ := by
  have han : a ≤ n := h.1
  have hp2 := pw2 _ hk
  refine zb_iload_n d_Rel_placeOf_6 rfl rfl ?_
  refine zb_if_le (tgt := 45) d_Rel_placeOf_7 rfl (fun h7 => absurd h7 (nI_nle (Nat.two_pow_pos _) (pw _ hk))) (fun h7 => ?_)
  refine zb_iload_n d_Rel_placeOf_10 rfl rfl ?_
  refine zb_iload_n d_Rel_placeOf_11 rfl rfl ?_
  refine zb_iadd d_Rel_placeOf_12 ?_
  refine zb_top (y := nI (a + 2 ^ k)) (nI_add a _) ?_
  refine zb_aload_n d_Rel_placeOf_13 rfl rfl ?_
  refine zr_size (q := q) d_Rel_placeOf_14 fl_Rel_22 hq ?_
  refine zb_top (y := nI n) (hn) ?_
  refine zb_icmp_gt (tgt := 38) d_Rel_placeOf_17 rfl (fun h17 => ?_) (fun h17 => ?_)
  · refine zb_sub [0, 1, 2, 3] rfl (h38 a ?_)
    exact plI_no hs h Nat.one_le_two_pow (Or.inl ((nI_ltI (by omega) (by have := pw2 _ hk; have := h.1; omega)).mp h17))
  · have h17 : a + 2 ^ k ≤ n := Nat.not_lt.mp (fun hh => h17 (nI_lt hh (by have := pw2 _ hk; omega)))
    have h1 : 1 ≤ 2 ^ k := Nat.one_le_two_pow
    refine zb_aload_n d_Rel_placeOf_20 rfl rfl ?_
    refine zr_tuples (q := q) d_Rel_placeOf_21 fl_Rel_9 hq ?_
    refine zb_iload_n d_Rel_placeOf_24 rfl rfl ?_
    refine zb_iload_n d_Rel_placeOf_25 rfl rfl ?_
    refine zb_iadd d_Rel_placeOf_26 ?_
    refine zb_top (y := nI (a + 2 ^ k)) (nI_add a _) ?_
    refine zb_iconst (v := 1) d_Rel_placeOf_27 rfl ?_
    refine zb_isub d_Rel_placeOf_28 ?_
    refine zb_top (y := nI (a + 2 ^ k - 1)) ((pk_sub (a := a + 2 ^ k) (b := 1) (by omega))) ?_
    refine zb_ialdN (q := q + 1) (j := (a + 2 ^ k - 1)) d_Rel_placeOf_29 (hq.t) (by rw [hq.nt]; omega) ?_
    refine zb_iload_n d_Rel_placeOf_30 rfl rfl ?_
    refine zb_icmp_ge (tgt := 38) d_Rel_placeOf_31 rfl (fun h31 => ?_) (fun h31 => ?_)
    · refine zb_sub [0, 1, 2, 3] rfl (h38 a ?_)
      exact plI_no hs h h1 (Or.inr (Int32.not_lt.mpr h31))
    · refine zb_iload_n d_Rel_placeOf_34 rfl rfl ?_
      refine zb_iload_n d_Rel_placeOf_35 rfl rfl ?_
      refine zb_iadd d_Rel_placeOf_36 ?_
      refine zb_top (y := nI (a + 2 ^ k)) (nI_add a _) ?_
      refine zb_istore_n (lv' := [(2, .int (nI (a + 2 ^ k))), (3, .int (nI (2 ^ k))), (0, .ref (zad G q)), (1, .int t)]) d_Rel_placeOf_37 rfl (by decide) rfl ?_
      refine zb_sub [1, 0, 2, 3] rfl (h38 (a + 2 ^ k) ?_)
      exact plI_yes hs h (by rw [Nat.pow_succ]; omega) h1 h17 (Int32.not_le.mp h31)
set_option maxHeartbeats 4000000 in
set_option maxRecDepth 100000 in
theorem lp_placeOf (l : Launch) (G : zG) {σ : zS} {q n : Nat} {t : Int32} (hq : zrl q) (hn : σ.1 q 1 = nI n) (hn3 : n ≤ 300) (hs : srt (σ.1 (q + 1)) n) : ∀ (k : Nat), k ≤ 8 → ∀ a : Nat, plI (σ.1 (q + 1)) n t a (2 ^ (k + 1) - 1) → zB l G w_Rel_placeOf R_Rel c_Rel_placeOf 4 (some .int) [] (zrm 0 0) (zR G (fun v σ' => (∃ p : Nat, v = some (.int (nI p)) ∧ pl (σ.1 (q + 1)) n t p) ∧ σ = σ') 0 0) 0 0 6 [(3, .int (nI (2 ^ k))), (2, .int (nI a)), (0, .ref (zad G q)), (1, .int t)] [] σ := by
  intro k
  induction k with
  | zero =>
    intro hk a h
    refine lp_placeOf_b l G hq hn hn3 hs hk (fun b hb => ?_) h
    refine zb_iload_n d_Rel_placeOf_38 rfl rfl ?_
    refine zb_iconst (v := 2) d_Rel_placeOf_39 rfl ?_
    refine zb_idiv d_Rel_placeOf_40 (by decide) ?_
    refine zb_top (y := nI 0) (by decide) ?_
    refine zb_istore_n (lv' := [(3, .int (nI 0)), (2, .int (nI b)), (0, .ref (zad G q)), (1, .int t)]) d_Rel_placeOf_41 rfl (by decide) rfl ?_
    refine zb_goto (tgt := 6) d_Rel_placeOf_42 rfl ?_
    refine zb_sub [0, 1, 2, 3] rfl ?_
    exact lp_placeOf_0 l G hq hn hn3 hs hb
  | succ k ih =>
    intro hk a h
    refine lp_placeOf_b l G hq hn hn3 hs hk (fun b hb => ?_) h
    refine zb_iload_n d_Rel_placeOf_38 rfl rfl ?_
    refine zb_iconst (v := 2) d_Rel_placeOf_39 rfl ?_
    refine zb_idiv d_Rel_placeOf_40 (by decide) ?_
    refine zb_top (y := nI (2 ^ k)) ((pk_div (a := 2 ^ (k + 1)) (d := 2) (pw _ hk) (by decide) (by decide)).trans (by rw [Nat.pow_succ, Nat.mul_div_cancel _ (by decide)])) ?_
    refine zb_istore_n (lv' := [(3, .int (nI (2 ^ k))), (2, .int (nI b)), (0, .ref (zad G q)), (1, .int t)]) d_Rel_placeOf_41 rfl (by decide) rfl ?_
    refine zb_goto (tgt := 6) d_Rel_placeOf_42 rfl ?_
    refine zb_sub [0, 1, 2, 3] rfl ?_
    exact ih (by omega) b (by rw [Nat.pow_succ] at hb ⊢; exact hb)
set_option maxHeartbeats 4000000 in
set_option maxRecDepth 100000 in
/-- placeOf(t): the place of the first tuple that is not less -/
theorem c_placeOf (l : Launch) (G : zG) {σ : zS} {q n : Nat} {t : Int32} (hq : zrl q) (hn : σ.1 q 1 = nI n) (hn3 : n ≤ 300) (hs : srt (σ.1 (q + 1)) n) : zC l G y_Rel_placeOf w_Rel_placeOf (zrm 0 0) 0 0 [.ref (zad G q), .int t] σ (fun v σ' => (∃ p : Nat, v = some (.int (nI p)) ∧ pl (σ.1 (q + 1)) n t p) ∧ σ = σ') := by
  refine zC_of (cc := c_Rel_placeOf) (nL := 4) (ret := (some .int)) (own := R_Rel) (by decide +kernel) rfl rfl (Nat.le_of_ble_eq_true rfl) ?_
  refine zb_lv (lv' := [(0, .ref (zad G q)), (1, .int t)]) rfl ?_
  refine zb_iconst (v := 0) d_Rel_placeOf_0 rfl ?_
  refine zb_istore_n (lv' := [(2, .int 0), (0, .ref (zad G q)), (1, .int t)]) d_Rel_placeOf_1 rfl (by decide) rfl ?_
  refine zb_sipush (v := 256) d_Rel_placeOf_2 rfl ?_
  refine zb_istore_n (lv' := [(3, .int 256), (2, .int 0), (0, .ref (zad G q)), (1, .int t)]) d_Rel_placeOf_5 rfl (by decide) rfl ?_
  refine zb_sub [0, 1, 2, 3] rfl ?_
  exact lp_placeOf l G hq hn hn3 hs 8 (Nat.le_refl _) 0 ⟨Nat.zero_le _, fun i hi => absurd hi (Nat.not_lt_zero i), fun i h1 h2 => absurd (Nat.lt_of_le_of_lt h1 h2) (by omega)⟩
end
section
set_option maxHeartbeats 4000000 in
set_option maxRecDepth 100000 in
/-- countOf(t) -/
theorem c_countOf (l : Launch) (G : zG) {σ : zS} {q n t : Nat} {m : Nat → Int32} (h : zr σ q n m) (ht : t < 2 ^ 31) : zC l G y_Rel_countOf w_Rel_countOf (zrm 1 30) 0 0 [.ref (zad G q), .int (nI t)] σ (fun v σ' => v = some (.int (m t)) ∧ σ = σ') := by
  have hq := h.1
  have hn := h.2.1
  have hn3 := h.2.2.1
  refine zC_of (cc := c_Rel_countOf) (nL := 3) (ret := (some .int)) (own := R_Rel) (by decide +kernel) rfl rfl (Nat.le_of_ble_eq_true rfl) ?_
  refine zb_lv (lv' := [(0, .ref (zad G q)), (1, .int (nI t))]) rfl ?_
  refine zb_aload_n d_Rel_countOf_0 rfl rfl ?_
  refine zb_iload_n d_Rel_countOf_1 rfl rfl ?_
  refine zb_callV (rest := []) (c_placeOf l G hq hn hn3 h.2.2.srt) (lk_Rel_25.cw rfl rfl ⟨Nat.le_of_ble_eq_true rfl, Nat.le_of_ble_eq_true rfl⟩) (zgR hq) rfl rfl rfl rfl (Nat.le_of_ble_eq_true rfl) d_Rel_countOf_2 ⟨Nat.le_of_ble_eq_true rfl, Nat.le_of_ble_eq_true rfl⟩ ?_
  rintro _ _ ⟨⟨p, rfl, hp⟩, rfl⟩
  have hpn : p ≤ n := hp.1
  refine zb_st (st' := [.int (nI p)]) rfl ?_
  refine zb_istore_n (lv' := [(2, .int (nI p)), (0, .ref (zad G q)), (1, .int (nI t))]) d_Rel_countOf_5 rfl (by decide) rfl ?_
  refine zb_aload_n d_Rel_countOf_6 rfl rfl ?_
  refine zb_iload_n d_Rel_countOf_7 rfl rfl ?_
  refine zb_iload_n d_Rel_countOf_8 rfl rfl ?_
  refine zb_callV (rest := []) (c_holdsAt l G hq hn hn3 (k := p) (by omega)) (lk_Rel_29.cw rfl rfl ⟨Nat.le_of_ble_eq_true rfl, Nat.le_of_ble_eq_true rfl⟩) (zgR hq) rfl rfl rfl rfl (Nat.le_of_ble_eq_true rfl) d_Rel_countOf_9 ⟨Nat.le_of_ble_eq_true rfl, Nat.le_of_ble_eq_true rfl⟩ ?_
  rintro _ _ ⟨rfl, rfl⟩
  refine zb_st (st' := [.int (if p < n ∧ σ.1 (q + 1) p = nI t then 1 else 0)]) rfl ?_
  rcases h.2.2.at ht hp with ⟨h1, h2, h3, h4⟩ | ⟨h1, h2⟩
  · refine zb_top (y := 1) (if_pos ⟨h1, h2⟩) ?_
    refine zb_if_eq (tgt := 24) d_Rel_countOf_12 rfl (fun h12 => absurd h12 (by decide)) (fun h12 => ?_)
    refine zb_aload_n d_Rel_countOf_15 rfl rfl ?_
    refine zr_counts (q := q) d_Rel_countOf_16 fl_Rel_15 hq ?_
    refine zb_iload_n d_Rel_countOf_19 rfl rfl ?_
    refine zb_ialdN (q := q + 2) (j := p) d_Rel_countOf_20 (hq.c) (by rw [hq.nc]; omega) ?_
    refine zb_top (y := m t) (h3.symm) ?_
    refine zb_goto (tgt := 25) d_Rel_countOf_21 rfl ?_
    exact zb_iret d_Rel_countOf_25 rfl ⟨rfl, rfl⟩
  · refine zb_top (y := 0) (if_neg h1) ?_
    refine zb_if_eq (tgt := 24) d_Rel_countOf_12 rfl (fun h12 => ?_) (fun h12 => absurd rfl h12)
    refine zb_iconst (v := 0) d_Rel_countOf_24 rfl ?_
    exact zb_iret d_Rel_countOf_25 rfl ⟨by rw [h2], rfl⟩
set_option maxHeartbeats 4000000 in
set_option maxRecDepth 100000 in
/-- removeAt(p) -/
theorem c_removeAt (l : Launch) (G : zG) {σ : zS} {q n p : Nat} (hq : zrl q) (hn : σ.1 q 1 = nI n) (hn3 : n ≤ 300) (hp : p < n) : zC l G y_Rel_removeAt w_Rel_removeAt (zrm 1 60) 0 0 [.ref (zad G q), .int (nI p)] σ (fun v σ' => v = none ∧ zrw σ σ' q (n - 1) (va_cpy (σ.1 (q + 1)) (σ.1 (q + 1)) (p + 1) p (n - 1 - p)) (va_cpy (σ.1 (q + 2)) (σ.1 (q + 2)) (p + 1) p (n - 1 - p))) := by
  refine zC_of (cc := c_Rel_removeAt) (nL := 2) (ret := none) (own := R_Rel) (by decide +kernel) rfl rfl (Nat.le_of_ble_eq_true rfl) ?_
  refine zb_lv (lv' := [(0, .ref (zad G q)), (1, .int (nI p))]) rfl ?_
  refine zb_aload_n d_Rel_removeAt_0 rfl rfl ?_
  refine zb_dup d_Rel_removeAt_1 rfl ?_
  refine zr_size (q := q) d_Rel_removeAt_2 fl_Rel_22 hq ?_
  refine zb_top (y := nI n) (hn) ?_
  refine zb_iconst (v := 1) d_Rel_removeAt_5 rfl ?_
  refine zb_isub d_Rel_removeAt_6 ?_
  refine zb_top (y := nI (n - 1)) (pk_sub (a := n) (b := 1) (by omega)) ?_
  refine zr_put_size (q := q) d_Rel_removeAt_7 fl_Rel_22 hq ?_
  refine zb_aload_n d_Rel_removeAt_10 rfl rfl ?_
  refine zr_tuples (q := q) d_Rel_removeAt_11 fl_Rel_9 hq ?_
  refine zb_iload_n d_Rel_removeAt_14 rfl rfl ?_
  refine zb_iconst (v := 1) d_Rel_removeAt_15 rfl ?_
  refine zb_iadd d_Rel_removeAt_16 ?_
  refine zb_top (y := nI (p + 1)) (nI_1 p) ?_
  refine zb_aload_n d_Rel_removeAt_17 rfl rfl ?_
  refine zr_tuples (q := q) d_Rel_removeAt_18 fl_Rel_9 hq ?_
  refine zb_iload_n d_Rel_removeAt_21 rfl rfl ?_
  refine zb_aload_n d_Rel_removeAt_22 rfl rfl ?_
  refine zr_size (q := q) d_Rel_removeAt_23 fl_Rel_22 hq ?_
  refine zb_top (y := nI (n - 1)) (by simp [zu, upd]) ?_
  refine zb_iload_n d_Rel_removeAt_26 rfl rfl ?_
  refine zb_isub d_Rel_removeAt_27 ?_
  refine zb_top (y := nI (n - 1 - p)) (pk_sub (by omega)) ?_
  refine zb_copyN (q := q + 1) (a := (p + 1)) (b := p) (c := (n - 1 - p)) (hq.t) (by rw [hq.nt]; omega) (by rw [hq.nt]; omega) (Nat.le_of_ble_eq_true rfl) (by decide +kernel) rfl d_Rel_removeAt_28 ?_
  refine zb_aload_n d_Rel_removeAt_31 rfl rfl ?_
  refine zr_counts (q := q) d_Rel_removeAt_32 fl_Rel_15 hq ?_
  refine zb_iload_n d_Rel_removeAt_35 rfl rfl ?_
  refine zb_iconst (v := 1) d_Rel_removeAt_36 rfl ?_
  refine zb_iadd d_Rel_removeAt_37 ?_
  refine zb_top (y := nI (p + 1)) (nI_1 p) ?_
  refine zb_aload_n d_Rel_removeAt_38 rfl rfl ?_
  refine zr_counts (q := q) d_Rel_removeAt_39 fl_Rel_15 hq ?_
  refine zb_iload_n d_Rel_removeAt_42 rfl rfl ?_
  refine zb_aload_n d_Rel_removeAt_43 rfl rfl ?_
  refine zr_size (q := q) d_Rel_removeAt_44 fl_Rel_22 hq ?_
  refine zb_top (y := nI (n - 1)) (by simp [zu, upd]) ?_
  refine zb_iload_n d_Rel_removeAt_47 rfl rfl ?_
  refine zb_isub d_Rel_removeAt_48 ?_
  refine zb_top (y := nI (n - 1 - p)) (pk_sub (by omega)) ?_
  refine zb_copyN (q := q + 2) (a := (p + 1)) (b := p) (c := (n - 1 - p)) (hq.c) (by rw [hq.nc]; omega) (by rw [hq.nc]; omega) (Nat.le_of_ble_eq_true rfl) (by decide +kernel) rfl d_Rel_removeAt_49 ?_
  exact zb_vret d_Rel_removeAt_52 rfl ⟨rfl, ⟨fun k h1 h2 h3 => by simp [zu, h1, h2, h3], rfl, by simp [zu, upd]⟩, by simp [zu, upd], by simp [zu, upd], by simp [zu, upd]⟩
set_option maxHeartbeats 4000000 in
set_option maxRecDepth 100000 in
/-- insertAt(p, t, c) -/
theorem c_insertAt (l : Launch) (G : zG) {σ : zS} {q n p : Nat} {t c : Int32} (hq : zrl q) (hn : σ.1 q 1 = nI n) (hn3 : n < 300) (hp : p ≤ n) : zC l G y_Rel_insertAt w_Rel_insertAt (zrm 1 60) 0 0 [.ref (zad G q), .int (nI p), .int t, .int c] σ (fun v σ' => v = none ∧ zrw σ σ' q (n + 1) (upd (va_cpy (σ.1 (q + 1)) (σ.1 (q + 1)) p (p + 1) (n - p)) p t) (upd (va_cpy (σ.1 (q + 2)) (σ.1 (q + 2)) p (p + 1) (n - p)) p c)) := by
  refine zC_of (cc := c_Rel_insertAt) (nL := 4) (ret := none) (own := R_Rel) (by decide +kernel) rfl rfl (Nat.le_of_ble_eq_true rfl) ?_
  refine zb_lv (lv' := [(0, .ref (zad G q)), (1, .int (nI p)), (2, .int t), (3, .int c)]) rfl ?_
  refine zb_aload_n d_Rel_insertAt_0 rfl rfl ?_
  refine zr_tuples (q := q) d_Rel_insertAt_1 fl_Rel_9 hq ?_
  refine zb_iload_n d_Rel_insertAt_4 rfl rfl ?_
  refine zb_aload_n d_Rel_insertAt_5 rfl rfl ?_
  refine zr_tuples (q := q) d_Rel_insertAt_6 fl_Rel_9 hq ?_
  refine zb_iload_n d_Rel_insertAt_9 rfl rfl ?_
  refine zb_iconst (v := 1) d_Rel_insertAt_10 rfl ?_
  refine zb_iadd d_Rel_insertAt_11 ?_
  refine zb_top (y := nI (p + 1)) (nI_1 p) ?_
  refine zb_aload_n d_Rel_insertAt_12 rfl rfl ?_
  refine zr_size (q := q) d_Rel_insertAt_13 fl_Rel_22 hq ?_
  refine zb_top (y := nI n) (hn) ?_
  refine zb_iload_n d_Rel_insertAt_16 rfl rfl ?_
  refine zb_isub d_Rel_insertAt_17 ?_
  refine zb_top (y := nI (n - p)) (pk_sub (by omega)) ?_
  refine zb_copyN (q := q + 1) (a := p) (b := (p + 1)) (c := (n - p)) (hq.t) (by rw [hq.nt]; omega) (by rw [hq.nt]; omega) (Nat.le_of_ble_eq_true rfl) (by decide +kernel) rfl d_Rel_insertAt_18 ?_
  refine zb_aload_n d_Rel_insertAt_21 rfl rfl ?_
  refine zr_counts (q := q) d_Rel_insertAt_22 fl_Rel_15 hq ?_
  refine zb_iload_n d_Rel_insertAt_25 rfl rfl ?_
  refine zb_aload_n d_Rel_insertAt_26 rfl rfl ?_
  refine zr_counts (q := q) d_Rel_insertAt_27 fl_Rel_15 hq ?_
  refine zb_iload_n d_Rel_insertAt_30 rfl rfl ?_
  refine zb_iconst (v := 1) d_Rel_insertAt_31 rfl ?_
  refine zb_iadd d_Rel_insertAt_32 ?_
  refine zb_top (y := nI (p + 1)) (nI_1 p) ?_
  refine zb_aload_n d_Rel_insertAt_33 rfl rfl ?_
  refine zr_size (q := q) d_Rel_insertAt_34 fl_Rel_22 hq ?_
  refine zb_top (y := nI n) (by simp [zu, hn]) ?_
  refine zb_iload_n d_Rel_insertAt_37 rfl rfl ?_
  refine zb_isub d_Rel_insertAt_38 ?_
  refine zb_top (y := nI (n - p)) (pk_sub (by omega)) ?_
  refine zb_copyN (q := q + 2) (a := p) (b := (p + 1)) (c := (n - p)) (hq.c) (by rw [hq.nc]; omega) (by rw [hq.nc]; omega) (Nat.le_of_ble_eq_true rfl) (by decide +kernel) rfl d_Rel_insertAt_39 ?_
  refine zb_aload_n d_Rel_insertAt_42 rfl rfl ?_
  refine zr_tuples (q := q) d_Rel_insertAt_43 fl_Rel_9 hq ?_
  refine zb_iload_n d_Rel_insertAt_46 rfl rfl ?_
  refine zb_iload_n d_Rel_insertAt_47 rfl rfl ?_
  refine zb_iastN (q := q + 1) (j := p) d_Rel_insertAt_48 (hq.t) (by rw [hq.nt]; omega) ?_
  refine zb_aload_n d_Rel_insertAt_49 rfl rfl ?_
  refine zr_counts (q := q) d_Rel_insertAt_50 fl_Rel_15 hq ?_
  refine zb_iload_n d_Rel_insertAt_53 rfl rfl ?_
  refine zb_iload_n d_Rel_insertAt_54 rfl rfl ?_
  refine zb_iastN (q := q + 2) (j := p) d_Rel_insertAt_55 (hq.c) (by rw [hq.nc]; omega) ?_
  refine zb_aload_n d_Rel_insertAt_56 rfl rfl ?_
  refine zb_dup d_Rel_insertAt_57 rfl ?_
  refine zr_size (q := q) d_Rel_insertAt_58 fl_Rel_22 hq ?_
  refine zb_top (y := nI n) (by simp [zu, hn]) ?_
  refine zb_iconst (v := 1) d_Rel_insertAt_61 rfl ?_
  refine zb_iadd d_Rel_insertAt_62 ?_
  refine zb_top (y := nI (n + 1)) (nI_1 n) ?_
  refine zr_put_size (q := q) d_Rel_insertAt_63 fl_Rel_22 hq ?_
  exact zb_vret d_Rel_insertAt_66 rfl ⟨rfl, ⟨fun k h1 h2 h3 => by simp [zu, h1, h2, h3], rfl, by simp [zu, upd]⟩, by simp [zu, upd], by simp [zu], by simp [zu]⟩
set_option maxHeartbeats 4000000 in
set_option maxRecDepth 100000 in
/-- raiseAt(p, x) -/
theorem c_raiseAt (l : Launch) (G : zG) {σ : zS} {q n p : Nat} {m : Nat → Int32} {x : Int32} (h : zr σ q n m) (hp : p < n) : zC l G y_Rel_raiseAt w_Rel_raiseAt (zrm 2 90) 0 0 [.ref (zad G q), .int (nI p), .int x] σ (fun v σ' => v = none ∧ ∃ n' : Nat, zr σ' q n' (upd m (zN (σ.1 (q + 1) p)) (σ.1 (q + 2) p + x)) ∧ zf σ σ' q) := by
  have hq := h.1
  have hn := h.2.1
  have hn3 := h.2.2.1
  refine zC_of (cc := c_Rel_raiseAt) (nL := 3) (ret := none) (own := R_Rel) (by decide +kernel) rfl rfl (Nat.le_of_ble_eq_true rfl) ?_
  refine zb_lv (lv' := [(0, .ref (zad G q)), (1, .int (nI p)), (2, .int x)]) rfl ?_
  refine zb_aload_n d_Rel_raiseAt_0 rfl rfl ?_
  refine zr_counts (q := q) d_Rel_raiseAt_1 fl_Rel_15 hq ?_
  refine zb_iload_n d_Rel_raiseAt_4 rfl rfl ?_
  refine zb_dup2 d_Rel_raiseAt_5 rfl rfl ?_
  refine zb_ialdN (q := q + 2) (j := p) d_Rel_raiseAt_6 (hq.c) (by rw [hq.nc]; omega) ?_
  refine zb_iload_n d_Rel_raiseAt_7 rfl rfl ?_
  refine zb_iadd d_Rel_raiseAt_8 ?_
  refine zb_iastN (q := q + 2) (j := p) d_Rel_raiseAt_9 (hq.c) (by rw [hq.nc]; omega) ?_
  refine zb_aload_n d_Rel_raiseAt_10 rfl rfl ?_
  refine zr_counts (q := q) d_Rel_raiseAt_11 fl_Rel_15 hq ?_
  refine zb_iload_n d_Rel_raiseAt_14 rfl rfl ?_
  refine zb_ialdN (q := q + 2) (j := p) d_Rel_raiseAt_15 (hq.c) (by rw [hq.nc]; omega) ?_
  refine zb_top (y := σ.1 (q + 2) p + x) (by simp [zu, upd]) ?_
  refine zb_if_ne (tgt := 24) d_Rel_raiseAt_16 rfl (fun h16 => ?_) (fun h16 => ?_)
  · exact zb_vret d_Rel_raiseAt_24 rfl ⟨rfl, n, ⟨hq, by simp [zu, hn], by simpa [zu] using zp_upd h.2.2 hp rfl h16⟩, ⟨fun k h1 h2 h3 => by simp [zu, h3], rfl, by simp [zu]⟩⟩
  · refine zb_aload_n d_Rel_raiseAt_19 rfl rfl ?_
    refine zb_iload_n d_Rel_raiseAt_20 rfl rfl ?_
    refine zb_callV (rest := []) (c_removeAt l G (σ := zu σ (q + 2) (upd (σ.1 (q + 2)) p (σ.1 (q + 2) p + x))) hq (by simp [zu, hn]) hn3 hp) (lk_Rel_55.cw rfl rfl ⟨Nat.le_of_ble_eq_true rfl, Nat.le_of_ble_eq_true rfl⟩) (zgR hq) rfl rfl rfl rfl (Nat.le_of_ble_eq_true rfl) d_Rel_raiseAt_21 ⟨Nat.le_of_ble_eq_true rfl, Nat.le_of_ble_eq_true rfl⟩ ?_
    rintro _ _ ⟨rfl, w1, w2, w3, w4⟩
    rename_i σ9
    refine zb_st (st' := []) rfl ?_
    exact zb_vret d_Rel_raiseAt_24 rfl ⟨rfl, n - 1, ⟨hq, w2, by rw [w3, w4]; simpa [zu, h16] using zp_rem (C1 := upd (σ.1 (q + 2)) p (σ.1 (q + 2) p + x)) h.2.2 hp rfl (fun i hi => pk_un hi)⟩, zf.tr (σ1 := zu σ (q + 2) (upd (σ.1 (q + 2)) p (σ.1 (q + 2) p + x))) ⟨fun k h1 h2 h3 => by simp [zu, h3], rfl, by simp [zu]⟩ w1⟩
theorem upd_0 {m : Nat → Int32} {t : Nat} {x : Int32} (h : m t = 0) (hx : x = 0) : upd m t (m t + x) = m := by
  funext u
  by_cases e : u = t
  · subst e
    rw [pk_us, h, hx]
    rfl
  · rw [pk_un e]
set_option maxHeartbeats 4000000 in
set_option maxRecDepth 100000 in
/-- raise(t, x): whether there was room -/
theorem c_raise (l : Launch) (G : zG) {σ : zS} {q n t : Nat} {m : Nat → Int32} {x : Int32} (h : zr σ q n m) (ht : t < 4096) : zC l G y_Rel_raise w_Rel_raise (zrm 3 120) 0 0 [.ref (zad G q), .int (nI t), .int x] σ (fun v σ' => ((m t ≠ 0 ∨ x = 0 ∨ n < 300) → v = some (.int 1) ∧ ∃ n' : Nat, zr σ' q n' (upd m t (m t + x)) ∧ zf σ σ' q) ∧ (¬ (m t ≠ 0 ∨ x = 0 ∨ n < 300) → v = some (.int 0) ∧ σ = σ')) := by
  have hq := h.1
  have hn := h.2.1
  have hn3 := h.2.2.1
  refine zC_of (cc := c_Rel_raise) (nL := 4) (ret := (some .boolean)) (own := R_Rel) (by decide +kernel) rfl rfl (Nat.le_of_ble_eq_true rfl) ?_
  refine zb_lv (lv' := [(0, .ref (zad G q)), (1, .int (nI t)), (2, .int x)]) rfl ?_
  refine zb_aload_n d_Rel_raise_0 rfl rfl ?_
  refine zb_iload_n d_Rel_raise_1 rfl rfl ?_
  refine zb_callV (rest := []) (c_placeOf l G hq hn hn3 h.2.2.srt) (lk_Rel_25.cw rfl rfl ⟨Nat.le_of_ble_eq_true rfl, Nat.le_of_ble_eq_true rfl⟩) (zgR hq) rfl rfl rfl rfl (Nat.le_of_ble_eq_true rfl) d_Rel_raise_2 ⟨Nat.le_of_ble_eq_true rfl, Nat.le_of_ble_eq_true rfl⟩ ?_
  rintro _ _ ⟨⟨p, rfl, hp⟩, rfl⟩
  have hpn : p ≤ n := hp.1
  refine zb_st (st' := [.int (nI p)]) rfl ?_
  refine zb_istore_n (lv' := [(3, .int (nI p)), (0, .ref (zad G q)), (1, .int (nI t)), (2, .int x)]) d_Rel_raise_5 rfl (by decide) rfl ?_
  refine zb_aload_n d_Rel_raise_6 rfl rfl ?_
  refine zb_iload_n d_Rel_raise_7 rfl rfl ?_
  refine zb_iload_n d_Rel_raise_8 rfl rfl ?_
  refine zb_callV (rest := []) (c_holdsAt l G hq hn hn3 (k := p) (by omega)) (lk_Rel_29.cw rfl rfl ⟨Nat.le_of_ble_eq_true rfl, Nat.le_of_ble_eq_true rfl⟩) (zgR hq) rfl rfl rfl rfl (Nat.le_of_ble_eq_true rfl) d_Rel_raise_9 ⟨Nat.le_of_ble_eq_true rfl, Nat.le_of_ble_eq_true rfl⟩ ?_
  rintro _ _ ⟨rfl, rfl⟩
  refine zb_st (st' := [.int (if p < n ∧ σ.1 (q + 1) p = nI t then 1 else 0)]) rfl ?_
  rcases h.2.2.at (show t < 2 ^ 31 by omega) hp with ⟨h1, h2, h3, h4⟩ | ⟨h1, h2⟩
  · refine zb_top (y := 1) (if_pos ⟨h1, h2⟩) ?_
    refine zb_if_eq (tgt := 23) d_Rel_raise_12 rfl (fun h12 => absurd h12 (by decide)) (fun h12 => ?_)
    refine zb_aload_n d_Rel_raise_15 rfl rfl ?_
    refine zb_iload_n d_Rel_raise_16 rfl rfl ?_
    refine zb_iload_n d_Rel_raise_17 rfl rfl ?_
    refine zb_callV (rest := []) (c_raiseAt l G h h1) (lk_Rel_33.cw rfl rfl ⟨Nat.le_of_ble_eq_true rfl, Nat.le_of_ble_eq_true rfl⟩) (zgR hq) rfl rfl rfl rfl (Nat.le_of_ble_eq_true rfl) d_Rel_raise_18 ⟨Nat.le_of_ble_eq_true rfl, Nat.le_of_ble_eq_true rfl⟩ ?_
    rintro _ _ ⟨rfl, n2, w1, w2⟩
    rename_i σ9
    refine zb_st (st' := []) rfl ?_
    refine zb_iconst (v := 1) d_Rel_raise_21 rfl ?_
    exact zb_zret d_Rel_raise_22 rfl rfl ⟨fun _ => ⟨rfl, n2, by rw [h3, ← (h.2.2.eq h1 (by omega)).mp h2]; exact w1, w2⟩, fun hh => absurd (Or.inl (by rw [h3]; exact h4)) hh⟩
  · refine zb_top (y := 0) (if_neg h1) ?_
    refine zb_if_eq (tgt := 23) d_Rel_raise_12 rfl (fun h12 => ?_) (fun h12 => absurd rfl h12)
    refine zb_iload_n d_Rel_raise_23 rfl rfl ?_
    refine zb_if_ne (tgt := 29) d_Rel_raise_24 rfl (fun h24 => ?_) (fun h24 => ?_)
    · refine zb_aload_n d_Rel_raise_29 rfl rfl ?_
      refine zr_size (q := q) d_Rel_raise_30 fl_Rel_22 hq ?_
      refine zb_top (y := nI n) (hn) ?_
      refine zb_sipush (v := 300) d_Rel_raise_33 rfl ?_
      refine zb_icmp_lt (tgt := 41) d_Rel_raise_36 rfl (fun h36 => ?_) (fun h36 => ?_)
      · have hn4 : n < 300 := (nI_ltI (by omega) (by decide)).mp h36
        refine zb_aload_n d_Rel_raise_41 rfl rfl ?_
        refine zb_iload_n d_Rel_raise_42 rfl rfl ?_
        refine zb_iload_n d_Rel_raise_43 rfl rfl ?_
        refine zb_iload_n d_Rel_raise_44 rfl rfl ?_
        refine zb_callV (rest := []) (c_insertAt l G hq hn hn4 hpn) (lk_Rel_37.cw rfl rfl ⟨Nat.le_of_ble_eq_true rfl, Nat.le_of_ble_eq_true rfl⟩) (zgR hq) rfl rfl rfl rfl (Nat.le_of_ble_eq_true rfl) d_Rel_raise_45 ⟨Nat.le_of_ble_eq_true rfl, Nat.le_of_ble_eq_true rfl⟩ ?_
        rintro _ _ ⟨rfl, w1, w2, w3, w4⟩
        rename_i σ9
        refine zb_st (st' := []) rfl ?_
        refine zb_iconst (v := 1) d_Rel_raise_48 rfl ?_
        exact zb_zret d_Rel_raise_49 rfl rfl ⟨fun _ => ⟨rfl, n + 1, ⟨hq, w2, by rw [w3, w4, h2, Int32.zero_add]; exact zp_ins h.2.2 hp ht h2 hn4 h24⟩, w1⟩, fun hh => absurd (Or.inr (Or.inr hn4)) hh⟩
      · refine zb_iconst (v := 0) d_Rel_raise_39 rfl ?_
        exact zb_zret d_Rel_raise_40 rfl rfl ⟨fun hh => absurd hh (fun z => z.elim (fun z => z h2) (fun z => z.elim h24 (fun z => h36 (nI_lt z (by decide))))), fun _ => ⟨rfl, rfl⟩⟩
    · refine zb_iconst (v := 1) d_Rel_raise_27 rfl ?_
      exact zb_zret d_Rel_raise_28 rfl rfl ⟨fun _ => ⟨rfl, n, ⟨hq, hn, by rw [upd_0 h2 h24]; exact h.2.2⟩, zf.rf σ q⟩, fun hh => absurd (Or.inr (Or.inl h24)) hh⟩
end
section
/-! shelf's fields and array of relations; shifts by small naturals -/
section ZSH
variable {l : Launch} {G : zG} {Ts : List Cond} {own : String} {cc : ByteArray} {nL : Nat} {ret : Option FieldType} {xt : List ExceptionTableEntry} {R : Room} {Fin : List Frame → Array Value → State → State → Prop} {cs sl : Nat} {pc : Nat} {lv lv' : List (Nat × Value)} {st : List Value} {σ : zS}
theorem zb_aaldN {j : Nat} (d : decode cc pc = .ok (.aaload, 1)) (hj : j < 8) (k : zB l G Ts own cc nL ret xt R Fin cs sl (pc + 1) lv (.ref (zad G (zN (σ.1 1 j))) :: st) σ) : zB l G Ts own cc nL ret xt R Fin cs sl pc lv (.int (nI j) :: .ref (zad G 1) :: st) σ := by
  intro p e s m args below meth c C H locs ls hl hP hD hS
  refine va_aldq C.ex C.bt C.K hP 1 3 (by rw [zW_at (by decide)]; rfl) rfl (vp_in_nI hj (by decide)) d ?_
  rw [nI_clamp (by omega)]
  exact k p e s m args below meth c C H locs ls hl hP hD hS
theorem zb_aastN {j q : Nat} (d : decode cc pc = .ok (.aastore, 1)) (hj : j < 8) (hq : zrl q) (k : zB l G Ts own cc nL ret xt R Fin cs sl (pc + 1) lv st (zu σ 1 (upd (σ.1 1) j (nI q)))) : zB l G Ts own cc nL ret xt R Fin cs sl pc lv (.ref (zad G q) :: .int (nI j) :: .ref (zad G 1) :: st) σ := by
  intro p e s m args below meth c C H locs ls hl hP hD hS
  refine va_astq C.ex C.bt C.K hP hD hS 1 3 q n_Rel (r := (R_Rel, T_Rel, 4)) (by rw [zW_at (by decide)]; rfl) rfl (zgR hq) rfl (vp_in_nI hj (by decide)) d (fun H1 locs1 hP hD hS => ?_)
  have hq2 : q < 2 ^ 31 := by have := hq.lt; omega
  rw [nI_clamp (by omega)] at hP hD
  have he : zF G 1 (upd (σ.1 1) j (nI q)) σ.2 = .inl (zcR G, 8, .inr (.inr (.inr (.inr (va_up (fun j => some (zad G (σ.1 1 j).toNatClampNeg)) j (some (zad G q))))))) := by
    show (Sum.inl (zcR G, 8, Sum.inr (Sum.inr (Sum.inr (Sum.inr (fun i => some (zad G (upd (σ.1 1) j (nI q) i).toNatClampNeg)))))) : va_E) = _
    congr 7
    funext i
    by_cases e : i = j
    · subst e
      simp [va_up, upd, nI_clamp hq2]
    · simp [va_up, upd, e]
  rw [zW_zu (f := upd (σ.1 1) j (nI q)) (by decide) he] at hP hD
  exact k p e s m args below meth c C H1 locs1 ls hl hP hD hS
theorem zs_put_spare {index q : Nat} (d : decode cc pc = .ok (.putfield index, 3)) (hlk : Cond.fieldLink own index "TupleShelf" "spare" "LTupleShelf$Relation;" ∈ zws) (hq : zrl q) (k : zB l G Ts own cc nL ret xt R Fin cs sl (pc + 3) lv st (zu σ 0 (upd (σ.1 0) 0 (nI q)))) : zB l G Ts own cc nL ret xt R Fin cs sl pc lv (.ref (zad G q) :: .ref (zad G 0) :: st) σ :=
  zb_putf (ci := n_Shelf) (C0 := R_Sh) (T0 := T_Sh) (N := 3) (ref := "TupleShelf") (ty := .object "TupleShelf$Relation") 1 ty_Sh ty_Sh_ok nm_Sh d zu_Sh hlk rfl zgS rfl (by decide) rfl (by decide +kernel) rfl rfl (Nat.le_of_ble_eq_true rfl) (zW_zu (by decide) (by simp [zF, upd, nI_clamp (show q < 2 ^ 31 by have := hq.lt; omega)])) k
end ZSH
theorem sh_l : ∀ n, n < 32 → ((nI n &&& 31).toBitVec.smod 32).toNat = n := by decide +kernel
theorem sh_r {n b : Nat} (h : n < 2 ^ 31) (hb : b < 32) : nI n >>> (nI b &&& 31) = nI (n / 2 ^ b) := pk_shrN h _ b (sh_l b hb)
theorem sh_lN {n b : Nat} (hb : b < 32) (h : n * 2 ^ b < 2 ^ 32) : nI n <<< (nI b &&& 31) = nI (n * 2 ^ b) := pk_shlN _ b (sh_l b hb) h
theorem nI_m (a b : Nat) : nI a * nI b = nI (a * b) := pk_mul a b
end
section
/-- a relation's number -/
def zgr (r : Int32) : Prop := ∃ k : Nat, k < 8 ∧ r = nI k
theorem zgr_of {r : Int32} (h0 : ¬ r < 0) (h8 : r < 8) : zgr r := by
  obtain ⟨j, hj, rfl⟩ := nI_of h0
  exact ⟨j, (nI_ltI hj (by decide)).mp h8, rfl⟩
theorem zgr_lt {r : Int32} (h : zgr r) : ¬ r < 0 ∧ r < 8 := by
  obtain ⟨k, hk, rfl⟩ := h
  exact ⟨nI_pos (by omega), nI_lt hk (by decide)⟩
set_option maxHeartbeats 4000000 in
set_option maxRecDepth 100000 in
/-- mustBeRelation(r) -/
theorem c_mustBe (l : Launch) (G : zG) {σ : zS} {r : Int32} (hl : l.stackTraces = false) : zCX l G y_Sh_mustBeRelation w_Sh_mustBeRelation (zrx 6 81) 1 6 [.int r] σ (fun v σ' => v = none ∧ zgr r ∧ σ = σ') (fun E σ' => E = zNS ∧ ¬ zgr r ∧ σ = σ') := by
  refine zCX_of (cc := c_Sh_mustBeRelation) (nL := 1) (ret := none) (own := R_Sh) (by decide +kernel) rfl rfl (Nat.le_of_ble_eq_true rfl) ?_
  refine zb_lv (lv' := [(0, .int r)]) rfl ?_
  refine zb_iload_n d_Sh_mustBeRelation_0 rfl rfl ?_
  refine zb_if_lt (tgt := 10) d_Sh_mustBeRelation_1 rfl (fun h1 => ?_) (fun h1 => ?_)
  · exact zx_throw xw_NS (Or.inl rfl) hl d_Sh_mustBeRelation_10 d_Sh_mustBeRelation_13 d_Sh_mustBeRelation_14 d_Sh_mustBeRelation_17 (Nat.le_of_ble_eq_true rfl) (Nat.le_of_ble_eq_true rfl) (Nat.le_refl _) (Nat.le_refl _) (Nat.le_refl _) (Nat.le_refl _) (⟨rfl, fun z => (zgr_lt z).1 h1, rfl⟩)
  · refine zb_iload_n d_Sh_mustBeRelation_4 rfl rfl ?_
    refine zb_bipush (v := 8) d_Sh_mustBeRelation_5 rfl ?_
    refine zb_icmp_lt (tgt := 18) d_Sh_mustBeRelation_7 rfl (fun h7 => ?_) (fun h7 => ?_)
    · exact zb_widen (Nat.zero_le 1) (Nat.zero_le 6) (zx_ret (zb_vret d_Sh_mustBeRelation_18 rfl ⟨rfl, zgr_of h1 h7, rfl⟩))
    · exact zx_throw xw_NS (Or.inl rfl) hl d_Sh_mustBeRelation_10 d_Sh_mustBeRelation_13 d_Sh_mustBeRelation_14 d_Sh_mustBeRelation_17 (Nat.le_of_ble_eq_true rfl) (Nat.le_of_ble_eq_true rfl) (Nat.le_refl _) (Nat.le_refl _) (Nat.le_refl _) (Nat.le_refl _) (⟨rfl, fun z => h7 (zgr_lt z).2, rfl⟩)
set_option maxHeartbeats 4000000 in
set_option maxRecDepth 100000 in
/-- Sh_refuseUnless -/
theorem c_refuseUnless (l : Launch) (G : zG) {σ : zS} {x : Int32} (hl : l.stackTraces = false) : zCX l G y_Sh_refuseUnless w_Sh_refuseUnless (zrx 6 81) 1 6 [.int x] σ (fun v σ' => v = none ∧ ¬ x = 0 ∧ σ = σ') (fun E σ' => E = zIA ∧ x = 0 ∧ σ = σ') := by
  refine zCX_of (cc := c_Sh_refuseUnless) (nL := 1) (ret := none) (own := R_Sh) (by decide +kernel) rfl rfl (Nat.le_of_ble_eq_true rfl) ?_
  refine zb_lv (lv' := [(0, .int x)]) rfl ?_
  refine zb_iload_n d_Sh_refuseUnless_0 rfl rfl ?_
  refine zb_if_ne (tgt := 12) d_Sh_refuseUnless_1 rfl (fun h1 => ?_) (fun h1 => ?_)
  · exact zb_widen (Nat.zero_le 1) (Nat.zero_le 6) (zx_ret (zb_vret d_Sh_refuseUnless_12 rfl ⟨rfl, h1, rfl⟩))
  · exact zx_throw xw_IA (Or.inr (Or.inl rfl)) hl d_Sh_refuseUnless_4 d_Sh_refuseUnless_7 d_Sh_refuseUnless_8 d_Sh_refuseUnless_11 (Nat.le_of_ble_eq_true rfl) (Nat.le_of_ble_eq_true rfl) (Nat.le_refl _) (Nat.le_refl _) (Nat.le_refl _) (Nat.le_refl _) (⟨rfl, h1, rfl⟩)
set_option maxHeartbeats 4000000 in
set_option maxRecDepth 100000 in
/-- Sh_refuseIfFull -/
theorem c_refuseIfFull (l : Launch) (G : zG) {σ : zS} {x : Int32} (hl : l.stackTraces = false) : zCX l G y_Sh_refuseIfFull w_Sh_refuseIfFull (zrx 6 81) 1 6 [.int x] σ (fun v σ' => v = none ∧ ¬ x = 0 ∧ σ = σ') (fun E σ' => E = zIS ∧ x = 0 ∧ σ = σ') := by
  refine zCX_of (cc := c_Sh_refuseIfFull) (nL := 1) (ret := none) (own := R_Sh) (by decide +kernel) rfl rfl (Nat.le_of_ble_eq_true rfl) ?_
  refine zb_lv (lv' := [(0, .int x)]) rfl ?_
  refine zb_iload_n d_Sh_refuseIfFull_0 rfl rfl ?_
  refine zb_if_ne (tgt := 12) d_Sh_refuseIfFull_1 rfl (fun h1 => ?_) (fun h1 => ?_)
  · exact zb_widen (Nat.zero_le 1) (Nat.zero_le 6) (zx_ret (zb_vret d_Sh_refuseIfFull_12 rfl ⟨rfl, h1, rfl⟩))
  · exact zx_throw xw_IS (Or.inr (Or.inr rfl)) hl d_Sh_refuseIfFull_4 d_Sh_refuseIfFull_7 d_Sh_refuseIfFull_8 d_Sh_refuseIfFull_11 (Nat.le_of_ble_eq_true rfl) (Nat.le_of_ble_eq_true rfl) (Nat.le_refl _) (Nat.le_refl _) (Nat.le_refl _) (Nat.le_refl _) (⟨rfl, h1, rfl⟩)
set_option maxHeartbeats 4000000 in
set_option maxRecDepth 100000 in
/-- relationOf(r) -/
theorem c_relationOf (l : Launch) (G : zG) {σ : zS} {r : Int32} (hl : l.stackTraces = false) : zCX l G y_Sh_relationOf w_Sh_relationOf (zrx 7 101) 1 6 [.ref (zad G 0), .int r] σ (fun v σ' => ∃ k : Nat, k < 8 ∧ r = nI k ∧ v = some (.ref (zad G (zN (σ.1 1 k)))) ∧ σ = σ') (fun E σ' => E = zNS ∧ ¬ zgr r ∧ σ = σ') := by
  refine zCX_of (cc := c_Sh_relationOf) (nL := 2) (ret := (some (.object "TupleShelf$Relation"))) (own := R_Sh) (by decide +kernel) rfl rfl (Nat.le_of_ble_eq_true rfl) ?_
  refine zb_lv (lv' := [(0, .ref (zad G 0)), (1, .int r)]) rfl ?_
  refine zb_iload_n d_Sh_relationOf_0 rfl rfl ?_
  refine zx_callS (rest := []) (c_mustBe l G hl) (lk_Sh_63.cw rfl rfl ⟨Nat.le_of_ble_eq_true rfl, Nat.le_of_ble_eq_true rfl⟩) rfl rfl (Nat.le_of_ble_eq_true rfl) d_Sh_relationOf_1 ⟨Nat.le_of_ble_eq_true rfl, Nat.le_of_ble_eq_true rfl⟩ ?_ ?_
  rotate_left
  · rintro E _ ⟨rfl, hx, rfl⟩; exact zx_out ⟨rfl, hx, rfl⟩ (Nat.le_refl _) (Nat.le_refl _)
  rintro _ _ ⟨rfl, ⟨k, hk, rfl⟩, rfl⟩
  refine zb_st (st' := []) rfl ?_
  refine zb_aload_n d_Sh_relationOf_4 rfl rfl ?_
  refine zs_relations d_Sh_relationOf_5 fl_Sh_11 ?_
  refine zb_lv (lv' := [(0, .ref (zad G 0)), (1, .int (nI k))]) (rfl) ?_
  refine zb_iload_n d_Sh_relationOf_8 rfl rfl ?_
  refine zb_aaldN (j := k) d_Sh_relationOf_9 (hk) ?_
  exact zx_ret (zb_aret d_Sh_relationOf_10 rfl (Or.inl ⟨_, rfl⟩) ⟨k, hk, rfl, rfl, rfl⟩)
set_option maxHeartbeats 4000000 in
set_option maxRecDepth 100000 in
theorem c_bitsBehind (l : Launch) (G : zG) {σ : zS} {k : Nat} (hk : k ≤ 3) : zC l G y_Sh_bitsBehind w_Sh_bitsBehind (zrm 0 0) 0 0 [.int (nI k)] σ (fun v σ' => v = some (.int (nI (12 - 4 * k))) ∧ σ = σ') := by
  refine zC_of (cc := c_Sh_bitsBehind) (nL := 1) (ret := (some .int)) (own := R_Sh) (by decide +kernel) rfl rfl (Nat.le_of_ble_eq_true rfl) ?_
  refine zb_lv (lv' := [(0, .int (nI k))]) rfl ?_
  refine zb_bipush (v := 12) d_Sh_bitsBehind_0 rfl ?_
  refine zb_iconst (v := 4) d_Sh_bitsBehind_2 rfl ?_
  refine zb_iload_n d_Sh_bitsBehind_3 rfl rfl ?_
  refine zb_imul d_Sh_bitsBehind_4 ?_
  refine zb_top (y := nI (4 * k)) (pk_mul 4 k) ?_
  refine zb_isub d_Sh_bitsBehind_5 ?_
  refine zb_top (y := nI (12 - 4 * k)) (pk_sub (a := 12) (by omega)) ?_
  exact zb_iret d_Sh_bitsBehind_6 rfl ⟨rfl, rfl⟩
set_option maxHeartbeats 4000000 in
set_option maxRecDepth 100000 in
/-- numberAt(t, p) -/
theorem c_numberAt (l : Launch) (G : zG) {σ : zS} {t p : Nat} (ht : t < 4096) (hp : p < 3) : zC l G y_Sh_numberAt w_Sh_numberAt (zrm 1 20) 0 0 [.int (nI t), .int (nI p)] σ (fun v σ' => v = some (.int (nI (t / 2 ^ (12 - 4 * (p + 1)) % 16))) ∧ σ = σ') := by
  refine zC_of (cc := c_Sh_numberAt) (nL := 2) (ret := (some .int)) (own := R_Sh) (by decide +kernel) rfl rfl (Nat.le_of_ble_eq_true rfl) ?_
  refine zb_lv (lv' := [(0, .int (nI t)), (1, .int (nI p))]) rfl ?_
  refine zb_iload_n d_Sh_numberAt_0 rfl rfl ?_
  refine zb_iload_n d_Sh_numberAt_1 rfl rfl ?_
  refine zb_iconst (v := 1) d_Sh_numberAt_2 rfl ?_
  refine zb_iadd d_Sh_numberAt_3 ?_
  refine zb_top (y := nI (p + 1)) (nI_1 p) ?_
  refine zb_callS (rest := [.int (nI t)]) (c_bitsBehind l G (k := p + 1) (by omega)) (lk_Sh_132.cw rfl rfl ⟨Nat.le_of_ble_eq_true rfl, Nat.le_of_ble_eq_true rfl⟩) rfl rfl (Nat.le_of_ble_eq_true rfl) d_Sh_numberAt_4 ⟨Nat.le_of_ble_eq_true rfl, Nat.le_of_ble_eq_true rfl⟩ ?_
  rintro _ _ ⟨rfl, rfl⟩
  refine zb_st (st' := [.int (nI (12 - 4 * (p + 1))), .int (nI t)]) rfl ?_
  refine zb_ishr d_Sh_numberAt_7 ?_
  refine zb_top (y := nI (t / 2 ^ (12 - 4 * (p + 1)))) (sh_r (by omega) (by omega)) ?_
  refine zb_bipush (v := 15) d_Sh_numberAt_8 rfl ?_
  refine zb_iand d_Sh_numberAt_10 ?_
  refine zb_top (y := nI (t / 2 ^ (12 - 4 * (p + 1)) % 16)) (pk_andN (Nat.lt_of_le_of_lt (Nat.div_le_self _ _) (by omega)) 4 (by decide)) ?_
  exact zb_iret d_Sh_numberAt_11 rfl ⟨rfl, rfl⟩
set_option maxHeartbeats 4000000 in
set_option maxRecDepth 100000 in
/-- withNumber(x, p) -/
theorem c_withNumber (l : Launch) (G : zG) {σ : zS} {x p : Nat} (hx : x < 16) (hp : p < 3) : zC l G y_Sh_withNumber w_Sh_withNumber (zrm 1 20) 0 0 [.int (nI x), .int (nI p)] σ (fun v σ' => v = some (.int (nI (x * 2 ^ (12 - 4 * (p + 1))))) ∧ σ = σ') := by
  refine zC_of (cc := c_Sh_withNumber) (nL := 2) (ret := (some .int)) (own := R_Sh) (by decide +kernel) rfl rfl (Nat.le_of_ble_eq_true rfl) ?_
  refine zb_lv (lv' := [(0, .int (nI x)), (1, .int (nI p))]) rfl ?_
  refine zb_iload_n d_Sh_withNumber_0 rfl rfl ?_
  refine zb_iload_n d_Sh_withNumber_1 rfl rfl ?_
  refine zb_iconst (v := 1) d_Sh_withNumber_2 rfl ?_
  refine zb_iadd d_Sh_withNumber_3 ?_
  refine zb_top (y := nI (p + 1)) (nI_1 p) ?_
  refine zb_callS (rest := [.int (nI x)]) (c_bitsBehind l G (k := p + 1) (by omega)) (lk_Sh_132.cw rfl rfl ⟨Nat.le_of_ble_eq_true rfl, Nat.le_of_ble_eq_true rfl⟩) rfl rfl (Nat.le_of_ble_eq_true rfl) d_Sh_withNumber_4 ⟨Nat.le_of_ble_eq_true rfl, Nat.le_of_ble_eq_true rfl⟩ ?_
  rintro _ _ ⟨rfl, rfl⟩
  refine zb_st (st' := [.int (nI (12 - 4 * (p + 1))), .int (nI x)]) rfl ?_
  refine zb_ishl d_Sh_withNumber_7 ?_
  refine zb_top (y := nI (x * 2 ^ (12 - 4 * (p + 1)))) (sh_lN (by omega) (Nat.lt_of_le_of_lt (Nat.mul_le_mul (Nat.le_of_lt hx) (Nat.pow_le_pow_right (by decide) (show 12 - 4 * (p + 1) ≤ 8 by omega))) (by decide))) ?_
  exact zb_iret d_Sh_withNumber_8 rfl ⟨rfl, rfl⟩
theorem ln_m : ∀ k, k ≤ 3 → ((1 : Int32) <<< (nI (4 * k) &&& 31) - 1).toBitVec.toNat = 2 ^ (4 * k) - 1 := by decide +kernel
set_option maxHeartbeats 4000000 in
set_option maxRecDepth 100000 in
/-- lastNumbers(t, w, k) -/
theorem c_lastNumbers (l : Launch) (G : zG) {σ : zS} {t w k : Nat} (ht : t < 4096) (hw : w ≤ 3) (hk : k ≤ 3) : zC l G y_Sh_lastNumbers w_Sh_lastNumbers (zrm 1 20) 0 0 [.int (nI t), .int (nI w), .int (nI k)] σ (fun v σ' => v = some (.int (nI (t / 2 ^ (12 - 4 * w) % 2 ^ (4 * k)))) ∧ σ = σ') := by
  refine zC_of (cc := c_Sh_lastNumbers) (nL := 3) (ret := (some .int)) (own := R_Sh) (by decide +kernel) rfl rfl (Nat.le_of_ble_eq_true rfl) ?_
  refine zb_lv (lv' := [(0, .int (nI t)), (1, .int (nI w)), (2, .int (nI k))]) rfl ?_
  refine zb_iload_n d_Sh_lastNumbers_0 rfl rfl ?_
  refine zb_iload_n d_Sh_lastNumbers_1 rfl rfl ?_
  refine zb_callS (rest := [.int (nI t)]) (c_bitsBehind l G (k := w) hw) (lk_Sh_132.cw rfl rfl ⟨Nat.le_of_ble_eq_true rfl, Nat.le_of_ble_eq_true rfl⟩) rfl rfl (Nat.le_of_ble_eq_true rfl) d_Sh_lastNumbers_2 ⟨Nat.le_of_ble_eq_true rfl, Nat.le_of_ble_eq_true rfl⟩ ?_
  rintro _ _ ⟨rfl, rfl⟩
  refine zb_st (st' := [.int (nI (12 - 4 * w)), .int (nI t)]) rfl ?_
  refine zb_ishr d_Sh_lastNumbers_5 ?_
  refine zb_top (y := nI (t / 2 ^ (12 - 4 * w))) (sh_r (by omega) (by omega)) ?_
  refine zb_iconst (v := 1) d_Sh_lastNumbers_6 rfl ?_
  refine zb_iconst (v := 4) d_Sh_lastNumbers_7 rfl ?_
  refine zb_iload_n d_Sh_lastNumbers_8 rfl rfl ?_
  refine zb_imul d_Sh_lastNumbers_9 ?_
  refine zb_top (y := nI (4 * k)) (pk_mul 4 k) ?_
  refine zb_ishl d_Sh_lastNumbers_10 ?_
  refine zb_iconst (v := 1) d_Sh_lastNumbers_11 rfl ?_
  refine zb_isub d_Sh_lastNumbers_12 ?_
  refine zb_iand d_Sh_lastNumbers_13 ?_
  refine zb_top (y := nI (t / 2 ^ (12 - 4 * w) % 2 ^ (4 * k))) (pk_andN (Nat.lt_of_le_of_lt (Nat.div_le_self _ _) (by omega)) (4 * k) (ln_m k hk)) ?_
  exact zb_iret d_Sh_lastNumbers_14 rfl ⟨rfl, rfl⟩
/-- t is a tuple of width w -/
def ztp (t : Int32) (w : Nat) : Prop := ∃ u : Nat, u < 4096 ∧ t = nI u ∧ u % 2 ^ (12 - 4 * w) = 0
theorem it_m : ∀ w, w ≤ 3 → ((1 : Int32) <<< (nI (12 - 4 * w) &&& 31) - 1).toBitVec.toNat = 2 ^ (12 - 4 * w) - 1 := by decide +kernel
set_option maxHeartbeats 4000000 in
set_option maxRecDepth 100000 in
/-- isTuple(t, w) -/
theorem c_isTuple (l : Launch) (G : zG) {σ : zS} {t : Int32} {w : Nat} (hw : w ≤ 3) : zC l G y_Sh_isTuple w_Sh_isTuple (zrm 1 20) 0 0 [.int t, .int (nI w)] σ (fun v σ' => (ztp t w → v = some (.int 1)) ∧ (¬ ztp t w → v = some (.int 0)) ∧ σ = σ') := by
  refine zC_of (cc := c_Sh_isTuple) (nL := 2) (ret := (some .boolean)) (own := R_Sh) (by decide +kernel) rfl rfl (Nat.le_of_ble_eq_true rfl) ?_
  refine zb_lv (lv' := [(0, .int t), (1, .int (nI w))]) rfl ?_
  refine zb_iload_n d_Sh_isTuple_0 rfl rfl ?_
  refine zb_if_lt (tgt := 28) d_Sh_isTuple_1 rfl (fun h1 => ?_) (fun h1 => ?_)
  · refine zb_iconst (v := 0) d_Sh_isTuple_28 rfl ?_
    exact zb_zret d_Sh_isTuple_29 rfl rfl ⟨fun hh => by obtain ⟨u, hu, rfl, -⟩ := hh; exact absurd h1 (nI_pos (by omega)), fun _ => rfl, rfl⟩
  · refine zb_iload_n d_Sh_isTuple_4 rfl rfl ?_
    refine zb_sipush (v := 4096) d_Sh_isTuple_5 rfl ?_
    refine zb_icmp_ge (tgt := 28) d_Sh_isTuple_8 rfl (fun h8 => ?_) (fun h8 => ?_)
    · refine zb_iconst (v := 0) d_Sh_isTuple_28 rfl ?_
      exact zb_zret d_Sh_isTuple_29 rfl rfl ⟨fun hh => by obtain ⟨u, hu, rfl, -⟩ := hh; exact absurd h8 (Int32.not_le.mpr (nI_lt hu (by decide))), fun _ => rfl, rfl⟩
    · obtain ⟨u, hu31, rfl⟩ := nI_of h1
      have hu : u < 4096 := (nI_ltI hu31 (by decide)).mp (Int32.not_le.mp h8)
      refine zb_lv (lv' := [(0, .int (nI u)), (1, .int (nI w))]) (rfl) ?_
      refine zb_iload_n d_Sh_isTuple_11 rfl rfl ?_
      refine zb_iconst (v := 1) d_Sh_isTuple_12 rfl ?_
      refine zb_iload_n d_Sh_isTuple_13 rfl rfl ?_
      refine zb_callS (rest := [.int 1, .int (nI u)]) (c_bitsBehind l G (k := w) hw) (lk_Sh_132.cw rfl rfl ⟨Nat.le_of_ble_eq_true rfl, Nat.le_of_ble_eq_true rfl⟩) rfl rfl (Nat.le_of_ble_eq_true rfl) d_Sh_isTuple_14 ⟨Nat.le_of_ble_eq_true rfl, Nat.le_of_ble_eq_true rfl⟩ ?_
      rintro _ _ ⟨rfl, rfl⟩
      refine zb_st (st' := [.int (nI (12 - 4 * w)), .int 1, .int (nI u)]) rfl ?_
      refine zb_ishl d_Sh_isTuple_17 ?_
      refine zb_iconst (v := 1) d_Sh_isTuple_18 rfl ?_
      refine zb_isub d_Sh_isTuple_19 ?_
      refine zb_iand d_Sh_isTuple_20 ?_
      refine zb_top (y := nI (u % 2 ^ (12 - 4 * w))) (pk_andN (by omega) (12 - 4 * w) (it_m w hw)) ?_
      refine zb_if_ne (tgt := 28) d_Sh_isTuple_21 rfl (fun h21 => ?_) (fun h21 => ?_)
      · refine zb_iconst (v := 0) d_Sh_isTuple_28 rfl ?_
        exact zb_zret d_Sh_isTuple_29 rfl rfl ⟨fun hh => by obtain ⟨v, hv, e, hm⟩ := hh; rw [(nI_eq (by omega) (by omega)).mp e, hm] at h21; exact absurd rfl h21, fun _ => rfl, rfl⟩
      · refine zb_iconst (v := 1) d_Sh_isTuple_24 rfl ?_
        refine zb_goto (tgt := 29) d_Sh_isTuple_25 rfl ?_
        exact zb_zret d_Sh_isTuple_29 rfl rfl ⟨fun _ => rfl, fun hh => absurd ⟨u, hu, rfl, (nI_eq (Nat.lt_of_le_of_lt (Nat.mod_le _ _) (by omega)) (by decide)).mp h21⟩ hh, rfl⟩
set_option maxHeartbeats 4000000 in
set_option maxRecDepth 100000 in
/-- keepSpareAs(to) -/
theorem c_keepSpareAs (l : Launch) (G : zG) {σ : zS} {k : Nat} (hk : k < 8) (hs : zrl (zN (σ.1 0 0))) (hr : zrl (zN (σ.1 1 k))) : zC l G y_Sh_keepSpareAs w_Sh_keepSpareAs (zrm 0 0) 0 0 [.ref (zad G 0), .int (nI k)] σ (fun v σ' => v = some (.int (σ.1 (zN (σ.1 0 0)) 1)) ∧ σ'.1 0 0 = nI (zN (σ.1 1 k)) ∧ σ'.1 1 = upd (σ.1 1) k (nI (zN (σ.1 0 0))) ∧ (∀ q, q ≠ 0 → q ≠ 1 → σ'.1 q = σ.1 q) ∧ σ'.2 = σ.2) := by
  have hs0 : zN (σ.1 0 0) ≠ 0 := by have := hs.1; omega
  have hs1 : zN (σ.1 0 0) ≠ 1 := by have := hs.1; omega
  refine zC_of (cc := c_Sh_keepSpareAs) (nL := 3) (ret := (some .int)) (own := R_Sh) (by decide +kernel) rfl rfl (Nat.le_of_ble_eq_true rfl) ?_
  refine zb_lv (lv' := [(0, .ref (zad G 0)), (1, .int (nI k))]) rfl ?_
  refine zb_aload_n d_Sh_keepSpareAs_0 rfl rfl ?_
  refine zs_spare d_Sh_keepSpareAs_1 fl_Sh_16 ?_
  refine zb_astore_n (lv' := [(2, .ref (zad G (σ.1 0 0).toNatClampNeg)), (0, .ref (zad G 0)), (1, .int (nI k))]) d_Sh_keepSpareAs_4 rfl (by decide) rfl ?_
  refine zb_aload_n d_Sh_keepSpareAs_5 rfl rfl ?_
  refine zb_aload_n d_Sh_keepSpareAs_6 rfl rfl ?_
  refine zs_relations d_Sh_keepSpareAs_7 fl_Sh_11 ?_
  refine zb_iload_n d_Sh_keepSpareAs_10 rfl rfl ?_
  refine zb_aaldN (j := k) d_Sh_keepSpareAs_11 (hk) ?_
  refine zs_put_spare (q := zN (σ.1 1 k)) d_Sh_keepSpareAs_12 fl_Sh_16 hr ?_
  refine zb_aload_n d_Sh_keepSpareAs_15 rfl rfl ?_
  refine zs_relations d_Sh_keepSpareAs_16 fl_Sh_11 ?_
  refine zb_iload_n d_Sh_keepSpareAs_19 rfl rfl ?_
  refine zb_aload_n d_Sh_keepSpareAs_20 rfl rfl ?_
  refine zb_aastN (j := k) (q := (σ.1 0 0).toNatClampNeg) d_Sh_keepSpareAs_21 (hk) (hs) ?_
  refine zb_aload_n d_Sh_keepSpareAs_22 rfl rfl ?_
  refine zr_size (q := (σ.1 0 0).toNatClampNeg) d_Sh_keepSpareAs_23 fl_Sh_32 hs ?_
  refine zb_top (y := σ.1 (zN (σ.1 0 0)) 1) (by simp [zu, hs0, hs1]) ?_
  exact zb_iret d_Sh_keepSpareAs_26 rfl ⟨rfl, by simp [zu, upd], by simp [zu], fun q h0 h1 => by simp [zu, h0, h1], rfl⟩
end
section
/-! THE SHELF: its eight relations and the spare one, each with its rows apart; M r: the counts of relation r, w r: its width -/
def uM {α : Type} (M : Nat → α) (r : Nat) (m : α) : Nat → α := fun k => if k = r then m else M k
theorem uM_s {α : Type} (M : Nat → α) (r : Nat) (m : α) : uM M r m r = m := if_pos rfl
theorem uM_n {α : Type} (M : Nat → α) {r k : Nat} (m : α) (h : k ≠ r) : uM M r m k = M k := if_neg h
def zok (σ : zS) (q u : Nat) (m : Nat → Int32) : Prop := σ.1 q 0 = nI u ∧ 1 ≤ u ∧ u ≤ 3 ∧ (∃ n, zr σ q n m) ∧ ∀ t, m t ≠ 0 → t % 2 ^ (12 - 4 * u) = 0
def zwf (σ : zS) (M : Nat → Nat → Int32) (w : Nat → Nat) : Prop :=
  (zrl (zN (σ.1 0 0)) ∧ ∀ r, r < 8 → zrl (zN (σ.1 1 r)) ∧ zN (σ.1 1 r) ≠ zN (σ.1 0 0)) ∧
  (∀ r r', r < 8 → r' < 8 → zN (σ.1 1 r) = zN (σ.1 1 r') → r = r') ∧ ∀ r, r < 8 → zok σ (zN (σ.1 1 r)) (w r) (M r)
/-- what no method of the shelf touches -/
def zk (σ σ' : zS) : Prop := (∀ q, 30 ≤ q → σ'.1 q = σ.1 q) ∧ σ'.2 = σ.2
theorem zk.rf (σ : zS) : zk σ σ := ⟨fun _ _ => rfl, rfl⟩
theorem zk.tr {a b c : zS} (h : zk a b) (h2 : zk b c) : zk a c := ⟨fun q hq => (h2.1 q hq).trans (h.1 q hq), h2.2.trans h.2⟩
theorem zf.k {σ σ' : zS} {q : Nat} (hq : zrl q) (h : zf σ σ' q) : zk σ σ' := ⟨fun k hk => h.1 k (by have := hq.2.1; omega) (by have := hq; unfold zrl at this; omega) (by have := hq; unfold zrl at this; omega), h.2.1⟩
theorem zwf.rl {σ : zS} {M : Nat → Nat → Int32} {w : Nat → Nat} (h : zwf σ M w) {r : Nat} (hr : r < 8) : zrl (zN (σ.1 1 r)) := (h.1.2 r hr).1
theorem zwf.sp {σ : zS} {M : Nat → Nat → Int32} {w : Nat → Nat} (h : zwf σ M w) : zrl (zN (σ.1 0 0)) := h.1.1
theorem zwf.at {σ : zS} {M : Nat → Nat → Int32} {w : Nat → Nat} (h : zwf σ M w) {r : Nat} (hr : r < 8) : zok σ (zN (σ.1 1 r)) (w r) (M r) := h.2.2 r hr
theorem zrl.apart {a b : Nat} (ha : zrl a) (hb : zrl b) (h : a ≠ b) : a ≠ b ∧ a ≠ b + 1 ∧ a ≠ b + 2 ∧ a + 1 ≠ b ∧ a + 1 ≠ b + 1 ∧ a + 1 ≠ b + 2 ∧ a + 2 ≠ b ∧ a + 2 ≠ b + 1 ∧ a + 2 ≠ b + 2 := by
  unfold zrl at ha hb
  omega
theorem zr.same {σ σ' : zS} {q n : Nat} {m : Nat → Int32} (h : zr σ q n m) (h0 : σ'.1 q = σ.1 q) (h1 : σ'.1 (q + 1) = σ.1 (q + 1)) (h2 : σ'.1 (q + 2) = σ.1 (q + 2)) : zr σ' q n m := ⟨h.1, by rw [h0]; exact h.2.1, by rw [h1, h2]; exact h.2.2⟩
theorem zok.same {σ σ' : zS} {q u : Nat} {m : Nat → Int32} (h : zok σ q u m) (h0 : σ'.1 q = σ.1 q) (h1 : σ'.1 (q + 1) = σ.1 (q + 1)) (h2 : σ'.1 (q + 2) = σ.1 (q + 2)) : zok σ' q u m := by
  obtain ⟨a, b, c, ⟨n, d⟩, e⟩ := h
  exact ⟨by rw [h0]; exact a, b, c, ⟨n, d.same h0 h1 h2⟩, e⟩
/-- relation r is changed, all else stays -/
theorem zwf_set {σ σ' : zS} {M : Nat → Nat → Int32} {w : Nat → Nat} {r u : Nat} {m' : Nat → Int32} (h : zwf σ M w) (hr : r < 8) (hf : ∀ k, k ≠ zN (σ.1 1 r) → k ≠ zN (σ.1 1 r) + 1 → k ≠ zN (σ.1 1 r) + 2 → σ'.1 k = σ.1 k) (hz : zok σ' (zN (σ.1 1 r)) u m') : zwf σ' (uM M r m') (uM w r u) := by
  have hq := h.rl hr
  have e0 : σ'.1 0 = σ.1 0 := hf 0 (by have := hq.1; omega) (by omega) (by omega)
  have e1 : σ'.1 1 = σ.1 1 := hf 1 (by have := hq.1; omega) (by have := hq.1; omega) (by omega)
  refine ⟨?_, ?_, ?_⟩
  · rw [e0, e1]; exact h.1
  · rw [e1]; exact h.2.1
  · intro k hk
    rw [e1]
    by_cases e : k = r
    · subst e
      rw [uM_s, uM_s]
      exact hz
    · rw [uM_n _ _ e, uM_n _ _ e]
      have a := (h.rl hk).apart hq (fun z => e (h.2.1 k r hk hr z))
      exact (h.at hk).same (hf _ a.1 a.2.1 a.2.2.1) (hf _ a.2.2.2.1 a.2.2.2.2.1 a.2.2.2.2.2.1) (hf _ a.2.2.2.2.2.2.1 a.2.2.2.2.2.2.2.1 a.2.2.2.2.2.2.2.2)
/-- the spare relation is changed -/
theorem zwf_spare {σ σ' : zS} {M : Nat → Nat → Int32} {w : Nat → Nat} (h : zwf σ M w) (hf : ∀ k, k ≠ zN (σ.1 0 0) → k ≠ zN (σ.1 0 0) + 1 → k ≠ zN (σ.1 0 0) + 2 → k ≤ 28 → σ'.1 k = σ.1 k) : zwf σ' M w := by
  have hq := h.sp
  have e0 : σ'.1 0 = σ.1 0 := hf 0 (by have := hq.1; omega) (by omega) (by omega) (by omega)
  have e1 : σ'.1 1 = σ.1 1 := hf 1 (by have := hq.1; omega) (by have := hq.1; omega) (by omega) (by omega)
  refine ⟨?_, ?_, ?_⟩
  · rw [e0, e1]; exact h.1
  · rw [e1]; exact h.2.1
  · intro k hk
    rw [e1]
    have a := (h.rl hk).apart hq (h.1.2 k hk).2
    have b := h.rl hk
    unfold zrl at b
    exact (h.at hk).same (hf _ a.1 a.2.1 a.2.2.1 (by omega)) (hf _ a.2.2.2.1 a.2.2.2.2.1 a.2.2.2.2.2.1 (by omega)) (hf _ a.2.2.2.2.2.2.1 a.2.2.2.2.2.2.2.1 a.2.2.2.2.2.2.2.2 (by omega))
/-- the spare relation becomes relation r -/
theorem zwf_swap {σ σ' : zS} {M : Nat → Nat → Int32} {w : Nat → Nat} {r u : Nat} {m' : Nat → Int32} (h : zwf σ M w) (hr : r < 8) (hz : zok σ (zN (σ.1 0 0)) u m') (h0 : σ'.1 0 0 = nI (zN (σ.1 1 r))) (h1 : σ'.1 1 = upd (σ.1 1) r (nI (zN (σ.1 0 0)))) (hf : ∀ q, q ≠ 0 → q ≠ 1 → σ'.1 q = σ.1 q) : zwf σ' (uM M r m') (uM w r u) := by
  have hq := h.sp
  have hp := h.rl hr
  have z0 : zN (σ'.1 0 0) = zN (σ.1 1 r) := by rw [h0]; exact nI_clamp (by have := hp.lt; omega)
  have zs : zN (nI (zN (σ.1 0 0))) = zN (σ.1 0 0) := nI_clamp (by have := hq.lt; omega)
  have z1 : ∀ k, zN (σ'.1 1 k) = if k = r then zN (σ.1 0 0) else zN (σ.1 1 k) := by
    intro k
    rw [h1]
    by_cases e : k = r
    · subst e; rw [pk_us, if_pos rfl]; exact zs
    · rw [pk_un e, if_neg e]
  refine ⟨⟨by rw [z0]; exact hp, fun k hk => ?_⟩, fun a b ha hb hab => ?_, fun k hk => ?_⟩
  · rw [z0, z1]
    by_cases e : k = r
    · subst e; rw [if_pos rfl]; exact ⟨hq, fun z => (h.1.2 k hk).2 z.symm⟩
    · rw [if_neg e]; exact ⟨h.rl hk, fun z => e (h.2.1 k r hk hr z)⟩
  · rw [z1, z1] at hab
    by_cases e : a = r
    · by_cases e2 : b = r
      · rw [e, e2]
      · rw [if_pos e, if_neg e2] at hab
        exact absurd hab.symm (h.1.2 b hb).2
    · by_cases e2 : b = r
      · rw [if_neg e, if_pos e2] at hab
        exact absurd hab (h.1.2 a ha).2
      · rw [if_neg e, if_neg e2] at hab
        exact h.2.1 a b ha hb hab
  · rw [z1]
    have nn : ∀ {q : Nat}, zrl q → q ≠ 0 ∧ q ≠ 1 ∧ q + 1 ≠ 0 ∧ q + 1 ≠ 1 ∧ q + 2 ≠ 0 ∧ q + 2 ≠ 1 := fun h => by unfold zrl at h; omega
    by_cases e : k = r
    · subst e
      rw [if_pos rfl, uM_s, uM_s]
      obtain ⟨a, b, c, d, e, f⟩ := nn hq
      exact hz.same (hf _ a b) (hf _ c d) (hf _ e f)
    · rw [if_neg e, uM_n _ _ e, uM_n _ _ e]
      obtain ⟨a, b, c, d, e, f⟩ := nn (h.rl hk)
      exact (h.at hk).same (hf _ a b) (hf _ c d) (hf _ e f)
end
section
theorem zC.mono {l : Launch} {G : zG} {y : MethodName} {ws : List Cond} {rm : Room} {mc ms : Nat} {as : List Value} {σ : zS} {φ φ' : Option Value → zS → Prop} (h : zC l G y ws rm mc ms as σ φ) (hh : ∀ v σ', φ v σ' → φ' v σ') : zC l G y ws rm mc ms as σ φ' := by
  intro p e h1 h2 h3 s m args below h4 h5 h6 h7
  obtain ⟨n, o, a1, a2, a3, ⟨v, σ', b1, b2, b3⟩, a5⟩ := h p e h1 h2 h3 s m args below h4 h5 h6 h7
  exact ⟨n, o, a1, a2, a3, ⟨v, σ', b1, hh v σ' b2, b3⟩, a5⟩
theorem c_raise_y (l : Launch) (G : zG) {σ : zS} {q n t : Nat} {m : Nat → Int32} {x : Int32} (h : zr σ q n m) (ht : t < 4096) (hc : m t ≠ 0 ∨ x = 0 ∨ n < 300) : zC l G y_Rel_raise w_Rel_raise (zrm 3 120) 0 0 [.ref (zad G q), .int (nI t), .int x] σ (fun v σ' => v = some (.int 1) ∧ ∃ n' : Nat, zr σ' q n' (upd m t (m t + x)) ∧ zf σ σ' q) :=
  (c_raise l G h ht).mono (fun v σ' h => h.1 hc)
theorem c_raise_n (l : Launch) (G : zG) {σ : zS} {q n t : Nat} {m : Nat → Int32} {x : Int32} (h : zr σ q n m) (ht : t < 4096) (hc : ¬ (m t ≠ 0 ∨ x = 0 ∨ n < 300)) : zC l G y_Rel_raise w_Rel_raise (zrm 3 120) 0 0 [.ref (zad G q), .int (nI t), .int x] σ (fun v σ' => v = some (.int 0) ∧ σ = σ') :=
  (c_raise l G h ht).mono (fun v σ' h => h.2 hc)
theorem c_isTuple_y (l : Launch) (G : zG) {σ : zS} {t : Int32} {w : Nat} (hw : w ≤ 3) (h : ztp t w) : zC l G y_Sh_isTuple w_Sh_isTuple (zrm 1 20) 0 0 [.int t, .int (nI w)] σ (fun v σ' => v = some (.int 1) ∧ σ = σ') := (c_isTuple l G hw).mono (fun v σ' q => ⟨q.1 h, q.2.2⟩)
theorem c_isTuple_n (l : Launch) (G : zG) {σ : zS} {t : Int32} {w : Nat} (hw : w ≤ 3) (h : ¬ ztp t w) : zC l G y_Sh_isTuple w_Sh_isTuple (zrm 1 20) 0 0 [.int t, .int (nI w)] σ (fun v σ' => v = some (.int 0) ∧ σ = σ') := (c_isTuple l G hw).mono (fun v σ' q => ⟨q.2.1 h, q.2.2⟩)
abbrev zrz (f lo c : Nat) : Room := { frames := f, cells := c, slots := 6 * c, locals := lo }
def zgw (x : Int32) : Prop := ∃ u : Nat, 1 ≤ u ∧ u ≤ 3 ∧ x = nI u
theorem zgw_of {x : Int32} (h1 : ¬ x < 1) (h3 : ¬ (3 : Int32) < x) : zgw x := by
  have h0 : ¬ x < 0 := fun z => h1 (i_tr z (by decide))
  obtain ⟨j, hj, rfl⟩ := nI_of h0
  have a := Int32.not_lt.mp h3
  have b := Int32.not_lt.mp h1
  exact ⟨j, (nI_leI (a := 1) (by decide) hj).mp b, (nI_leI (b := 3) hj (by decide)).mp a, rfl⟩
theorem zgw_lt {x : Int32} (h : zgw x) : ¬ x < 1 ∧ ¬ (3 : Int32) < x := by
  obtain ⟨u, h1, h3, rfl⟩ := h
  exact ⟨nI_nlt h1 (by omega), nI_nlt h3 (by decide)⟩
theorem uM_id {α : Type} (M : Nat → α) (r : Nat) : uM M r (M r) = M := funext fun k => by
  by_cases e : k = r
  · subst e; rw [uM_s]
  · rw [uM_n _ _ e]
theorem zp_nil (T C : Nat → Int32) : zp T C 0 (fun _ => 0) := ⟨Nat.zero_le _, fun i h => absurd h (Nat.not_lt_zero i), fun i j _ h => absurd h (Nat.not_lt_zero j), fun i h => absurd h (Nat.not_lt_zero i), fun t h => absurd rfl h⟩
theorem zr_start {σ : zS} {q : Nat} {x : Int32} (hq : zrl q) : zr (zu (zu σ q (upd (σ.1 q) 0 x)) q (upd ((zu σ q (upd (σ.1 q) 0 x)).1 q) 1 0)) q 0 (fun _ => 0) := ⟨hq, by simp [zu, upd]; rfl, zp_nil _ _⟩
theorem zk_zu (σ : zS) {q : Nat} (f : Nat → Int32) (hq : q < 30) : zk σ (zu σ q f) := ⟨fun k hk => zu_ne σ f (by omega), rfl⟩
theorem zrl.l30 {q : Nat} (h : zrl q) : q < 30 := by unfold zrl at h; omega
end
section
set_option maxHeartbeats 4000000 in
set_option maxRecDepth 100000 in
/-- width(r, w) -/
theorem c_width (l : Launch) (G : zG) {σ : zS} {x y : Int32} {M : Nat → Nat → Int32} {w : Nat → Nat} (hl : l.stackTraces = false) (hw : zwf σ M w) : zCX l G y_Sh_width w_Sh_width (zrz 8 130 2) 2 12 [.ref (zad G 0), .int x, .int y] σ (fun v σ' => ∃ r u n : Nat, r < 8 ∧ x = nI r ∧ (1 ≤ u ∧ u ≤ 3) ∧ y = nI u ∧ zr σ (zN (σ.1 1 r)) n (M r) ∧ v = some (.int (nI n)) ∧ zwf σ' (uM M r (fun _ => 0)) (uM w r u) ∧ zk σ σ') (fun E σ' => (E = zNS ∧ ¬ zgr x ∨ E = zIA ∧ zgr x ∧ ¬ zgw y) ∧ σ = σ') := by
  refine zCX_of (cc := c_Sh_width) (nL := 5) (ret := (some .int)) (own := R_Sh) (by decide +kernel) rfl rfl (Nat.le_of_ble_eq_true rfl) ?_
  refine zb_lv (lv' := [(0, .ref (zad G 0)), (1, .int x), (2, .int y)]) rfl ?_
  refine zb_aload_n d_Sh_width_0 rfl rfl ?_
  refine zb_iload_n d_Sh_width_1 rfl rfl ?_
  refine zx_callV (rest := []) (c_relationOf l G hl) (lk_Sh_24.cw rfl rfl ⟨Nat.le_of_ble_eq_true rfl, Nat.le_of_ble_eq_true rfl⟩) zgS rfl rfl rfl rfl (Nat.le_of_ble_eq_true rfl) d_Sh_width_2 ⟨Nat.le_of_ble_eq_true rfl, Nat.le_of_ble_eq_true rfl⟩ ?_ ?_
  rotate_left
  · rintro E _ ⟨rfl, hx, rfl⟩; exact zx_out ⟨Or.inl ⟨rfl, hx⟩, rfl⟩ (Nat.le_of_ble_eq_true rfl) (Nat.le_of_ble_eq_true rfl)
  rintro _ _ ⟨r, hr, rfl, rfl, rfl⟩
  refine zb_lv (lv' := [(0, .ref (zad G 0)), (1, .int (nI r)), (2, .int y)]) rfl ?_
  refine zb_st (st' := [.ref (zad G (zN (σ.1 1 r)))]) rfl ?_
  refine zb_astore_n (lv' := [(3, .ref (zad G (zN (σ.1 1 r)))), (0, .ref (zad G 0)), (1, .int (nI r)), (2, .int y)]) d_Sh_width_5 rfl (by decide) rfl ?_
  refine zb_iload_n d_Sh_width_6 rfl rfl ?_
  refine zb_iconst (v := 1) d_Sh_width_7 rfl ?_
  refine zb_icmp_lt (tgt := 20) d_Sh_width_8 rfl (fun h8 => ?_) (fun h8 => ?_)
  · refine zb_iconst (v := 0) d_Sh_width_20 rfl ?_
    refine zx_callS (rest := []) (c_refuseUnless l G hl) (lk_Sh_28.cw rfl rfl ⟨Nat.le_of_ble_eq_true rfl, Nat.le_of_ble_eq_true rfl⟩) rfl rfl (Nat.le_of_ble_eq_true rfl) d_Sh_width_21 ⟨Nat.le_of_ble_eq_true rfl, Nat.le_of_ble_eq_true rfl⟩ ?_ ?_
    rotate_left
    · rintro E _ ⟨rfl, -, rfl⟩; exact zx_out ⟨Or.inr ⟨rfl, ⟨r, hr, rfl⟩, fun z => (zgw_lt z).1 h8⟩, rfl⟩ (Nat.le_of_ble_eq_true rfl) (Nat.le_of_ble_eq_true rfl)
    rintro _ _ ⟨-, h0, -⟩
    exact absurd rfl h0
  · refine zb_iload_n d_Sh_width_11 rfl rfl ?_
    refine zb_iconst (v := 3) d_Sh_width_12 rfl ?_
    refine zb_icmp_gt (tgt := 20) d_Sh_width_13 rfl (fun h13 => ?_) (fun h13 => ?_)
    · refine zb_iconst (v := 0) d_Sh_width_20 rfl ?_
      refine zx_callS (rest := []) (c_refuseUnless l G hl) (lk_Sh_28.cw rfl rfl ⟨Nat.le_of_ble_eq_true rfl, Nat.le_of_ble_eq_true rfl⟩) rfl rfl (Nat.le_of_ble_eq_true rfl) d_Sh_width_21 ⟨Nat.le_of_ble_eq_true rfl, Nat.le_of_ble_eq_true rfl⟩ ?_ ?_
      rotate_left
      · rintro E _ ⟨rfl, -, rfl⟩; exact zx_out ⟨Or.inr ⟨rfl, ⟨r, hr, rfl⟩, fun z => (zgw_lt z).2 h13⟩, rfl⟩ (Nat.le_of_ble_eq_true rfl) (Nat.le_of_ble_eq_true rfl)
      rintro _ _ ⟨-, h0, -⟩
      exact absurd rfl h0
    · refine zb_iconst (v := 1) d_Sh_width_16 rfl ?_
      refine zb_goto (tgt := 21) d_Sh_width_17 rfl ?_
      refine zx_callS (rest := []) (c_refuseUnless l G hl) (lk_Sh_28.cw rfl rfl ⟨Nat.le_of_ble_eq_true rfl, Nat.le_of_ble_eq_true rfl⟩) rfl rfl (Nat.le_of_ble_eq_true rfl) d_Sh_width_21 ⟨Nat.le_of_ble_eq_true rfl, Nat.le_of_ble_eq_true rfl⟩ ?_ ?_
      rotate_left
      · rintro E _ ⟨-, h0, -⟩; exact absurd h0 (by decide)
      rintro _ _ ⟨rfl, -, rfl⟩
      refine zb_st (st' := []) rfl ?_
      obtain ⟨u, hu1, hu3, rfl⟩ := zgw_of h8 h13
      obtain ⟨n, hn⟩ := (hw.at hr).2.2.2.1
      refine zb_lv (lv' := [(3, .ref (zad G (zN (σ.1 1 r)))), (0, .ref (zad G 0)), (1, .int (nI r)), (2, .int (nI u))]) (rfl) ?_
      refine zb_aload_n d_Sh_width_24 rfl rfl ?_
      refine zr_size (q := zN (σ.1 1 r)) d_Sh_width_25 fl_Sh_32 (hw.rl hr) ?_
      refine zb_top (y := nI n) (hn.2.1) ?_
      refine zb_istore (lv' := [(4, .int (nI n)), (3, .ref (zad G (zN (σ.1 1 r)))), (0, .ref (zad G 0)), (1, .int (nI r)), (2, .int (nI u))]) d_Sh_width_28 (by decide) rfl ?_
      refine zb_aload_n d_Sh_width_30 rfl rfl ?_
      refine zb_iload_n d_Sh_width_31 rfl rfl ?_
      refine zb_callV (rest := []) (c_startAnew l G (hw.rl hr)) (lk_Sh_36.cw rfl rfl ⟨Nat.le_of_ble_eq_true rfl, Nat.le_of_ble_eq_true rfl⟩) (zgR (hw.rl hr)) rfl rfl rfl rfl (Nat.le_of_ble_eq_true rfl) d_Sh_width_32 ⟨Nat.le_of_ble_eq_true rfl, Nat.le_of_ble_eq_true rfl⟩ ?_
      rintro _ _ ⟨rfl, rfl⟩
      refine zb_st (st' := []) rfl ?_
      refine zb_iload d_Sh_width_35 rfl ?_
      exact zx_ret (zb_iret d_Sh_width_37 rfl ⟨r, u, n, hr, rfl, ⟨hu1, hu3⟩, rfl, hn, rfl, zwf_set hw hr (fun k h1 h2 h3 => by simp [zu, h1]) ⟨by simp [zu, upd], hu1, hu3, ⟨0, zr_start (hw.rl hr)⟩, fun t h => absurd rfl h⟩, (zk_zu σ _ (hw.rl hr).l30).tr (zk_zu _ _ (hw.rl hr).l30)⟩)
set_option maxHeartbeats 4000000 in
set_option maxRecDepth 100000 in
/-- count(r, t) -/
theorem c_count (l : Launch) (G : zG) {σ : zS} {x y : Int32} {M : Nat → Nat → Int32} {w : Nat → Nat} (hl : l.stackTraces = false) (hw : zwf σ M w) : zCX l G y_Sh_count w_Sh_count (zrz 8 130 2) 2 12 [.ref (zad G 0), .int x, .int y] σ (fun v σ' => ∃ r t : Nat, r < 8 ∧ x = nI r ∧ (t < 4096 ∧ t % 2 ^ (12 - 4 * w r) = 0) ∧ y = nI t ∧ v = some (.int (M r t)) ∧ σ = σ') (fun E σ' => (E = zNS ∧ ¬ zgr x ∨ E = zIA ∧ ∃ r : Nat, r < 8 ∧ x = nI r ∧ ¬ ztp y (w r)) ∧ σ = σ') := by
  refine zCX_of (cc := c_Sh_count) (nL := 4) (ret := (some .int)) (own := R_Sh) (by decide +kernel) rfl rfl (Nat.le_of_ble_eq_true rfl) ?_
  refine zb_lv (lv' := [(0, .ref (zad G 0)), (1, .int x), (2, .int y)]) rfl ?_
  refine zb_aload_n d_Sh_count_0 rfl rfl ?_
  refine zb_iload_n d_Sh_count_1 rfl rfl ?_
  refine zx_callV (rest := []) (c_relationOf l G hl) (lk_Sh_24.cw rfl rfl ⟨Nat.le_of_ble_eq_true rfl, Nat.le_of_ble_eq_true rfl⟩) zgS rfl rfl rfl rfl (Nat.le_of_ble_eq_true rfl) d_Sh_count_2 ⟨Nat.le_of_ble_eq_true rfl, Nat.le_of_ble_eq_true rfl⟩ ?_ ?_
  rotate_left
  · rintro E _ ⟨rfl, hx, rfl⟩; exact zx_out ⟨Or.inl ⟨rfl, hx⟩, rfl⟩ (Nat.le_of_ble_eq_true rfl) (Nat.le_of_ble_eq_true rfl)
  rintro _ _ ⟨r, hr, rfl, rfl, rfl⟩
  refine zb_lv (lv' := [(0, .ref (zad G 0)), (1, .int (nI r)), (2, .int y)]) rfl ?_
  refine zb_st (st' := [.ref (zad G (zN (σ.1 1 r)))]) rfl ?_
  refine zb_astore_n (lv' := [(3, .ref (zad G (zN (σ.1 1 r)))), (0, .ref (zad G 0)), (1, .int (nI r)), (2, .int y)]) d_Sh_count_5 rfl (by decide) rfl ?_
  refine zb_iload_n d_Sh_count_6 rfl rfl ?_
  refine zb_aload_n d_Sh_count_7 rfl rfl ?_
  refine zr_width (q := zN (σ.1 1 r)) d_Sh_count_8 fl_Sh_40 (hw.rl hr) ?_
  refine zb_top (y := nI (w r)) ((hw.at hr).1) ?_
  have hw3 : w r ≤ 3 := (hw.at hr).2.2.1
  by_cases ht : ztp y (w r)
  · refine zb_callS (rest := []) (c_isTuple_y l G hw3 ht) (lk_Sh_43.cw rfl rfl ⟨Nat.le_of_ble_eq_true rfl, Nat.le_of_ble_eq_true rfl⟩) rfl rfl (Nat.le_of_ble_eq_true rfl) d_Sh_count_11 ⟨Nat.le_of_ble_eq_true rfl, Nat.le_of_ble_eq_true rfl⟩ ?_
    rintro _ _ ⟨rfl, rfl⟩
    refine zb_st (st' := [.int 1]) rfl ?_
    refine zx_callS (rest := []) (c_refuseUnless l G hl) (lk_Sh_28.cw rfl rfl ⟨Nat.le_of_ble_eq_true rfl, Nat.le_of_ble_eq_true rfl⟩) rfl rfl (Nat.le_of_ble_eq_true rfl) d_Sh_count_14 ⟨Nat.le_of_ble_eq_true rfl, Nat.le_of_ble_eq_true rfl⟩ ?_ ?_
    rotate_left
    · rintro E _ ⟨-, h0, -⟩; exact absurd h0 (by decide)
    rintro _ _ ⟨rfl, -, rfl⟩
    refine zb_st (st' := []) rfl ?_
    obtain ⟨t, ht4, rfl, htm⟩ := ht
    obtain ⟨n, hn⟩ := (hw.at hr).2.2.2.1
    refine zb_lv (lv' := [(3, .ref (zad G (zN (σ.1 1 r)))), (0, .ref (zad G 0)), (1, .int (nI r)), (2, .int (nI t))]) (rfl) ?_
    refine zb_aload_n d_Sh_count_17 rfl rfl ?_
    refine zb_iload_n d_Sh_count_18 rfl rfl ?_
    refine zb_callV (rest := []) (c_countOf l G hn (show t < 2 ^ 31 by omega)) (lk_Sh_53.cw rfl rfl ⟨Nat.le_of_ble_eq_true rfl, Nat.le_of_ble_eq_true rfl⟩) (zgR (hw.rl hr)) rfl rfl rfl rfl (Nat.le_of_ble_eq_true rfl) d_Sh_count_19 ⟨Nat.le_of_ble_eq_true rfl, Nat.le_of_ble_eq_true rfl⟩ ?_
    rintro _ _ ⟨rfl, rfl⟩
    refine zb_st (st' := [.int (M r t)]) rfl ?_
    exact zx_ret (zb_iret d_Sh_count_22 rfl ⟨r, t, hr, rfl, ⟨ht4, htm⟩, rfl, rfl, rfl⟩)
  · refine zb_callS (rest := []) (c_isTuple_n l G hw3 ht) (lk_Sh_43.cw rfl rfl ⟨Nat.le_of_ble_eq_true rfl, Nat.le_of_ble_eq_true rfl⟩) rfl rfl (Nat.le_of_ble_eq_true rfl) d_Sh_count_11 ⟨Nat.le_of_ble_eq_true rfl, Nat.le_of_ble_eq_true rfl⟩ ?_
    rintro _ _ ⟨rfl, rfl⟩
    refine zb_st (st' := [.int 0]) rfl ?_
    refine zx_callS (rest := []) (c_refuseUnless l G hl) (lk_Sh_28.cw rfl rfl ⟨Nat.le_of_ble_eq_true rfl, Nat.le_of_ble_eq_true rfl⟩) rfl rfl (Nat.le_of_ble_eq_true rfl) d_Sh_count_14 ⟨Nat.le_of_ble_eq_true rfl, Nat.le_of_ble_eq_true rfl⟩ ?_ ?_
    rotate_left
    · rintro E _ ⟨rfl, -, rfl⟩; exact zx_out ⟨Or.inr (⟨rfl, r, hr, rfl, ht⟩), rfl⟩ (Nat.le_of_ble_eq_true rfl) (Nat.le_of_ble_eq_true rfl)
    rintro _ _ ⟨-, h0, -⟩
    exact absurd rfl h0
set_option maxHeartbeats 4000000 in
set_option maxRecDepth 100000 in
/-- put(r, t, by) -/
theorem c_put (l : Launch) (G : zG) {σ : zS} {x y z : Int32} {M : Nat → Nat → Int32} {w : Nat → Nat} (hl : l.stackTraces = false) (hw : zwf σ M w) : zCX l G y_Sh_put w_Sh_put (zrz 8 160 3) 3 18 [.ref (zad G 0), .int x, .int y, .int z] σ (fun v σ' => ∃ r t n : Nat, r < 8 ∧ x = nI r ∧ (t < 4096 ∧ t % 2 ^ (12 - 4 * w r) = 0) ∧ y = nI t ∧ zr σ (zN (σ.1 1 r)) n (M r) ∧ (M r t ≠ 0 ∨ z = 0 ∨ n < 300) ∧ v = some (.int (M r t + z)) ∧ zwf σ' (uM M r (upd (M r) t (M r t + z))) w ∧ zk σ σ') (fun E σ' => (E = zNS ∧ ¬ zgr x ∨ (E = zIA ∧ ∃ r : Nat, r < 8 ∧ x = nI r ∧ ¬ ztp y (w r)) ∨ E = zIS ∧ ∃ r t n : Nat, r < 8 ∧ x = nI r ∧ (t < 4096 ∧ t % 2 ^ (12 - 4 * w r) = 0) ∧ y = nI t ∧ zr σ (zN (σ.1 1 r)) n (M r) ∧ ¬ (M r t ≠ 0 ∨ z = 0 ∨ n < 300)) ∧ σ = σ') := by
  refine zCX_of (cc := c_Sh_put) (nL := 5) (ret := (some .int)) (own := R_Sh) (by decide +kernel) rfl rfl (Nat.le_of_ble_eq_true rfl) ?_
  refine zb_lv (lv' := [(0, .ref (zad G 0)), (1, .int x), (2, .int y), (3, .int z)]) rfl ?_
  refine zb_aload_n d_Sh_put_0 rfl rfl ?_
  refine zb_iload_n d_Sh_put_1 rfl rfl ?_
  refine zx_callV (rest := []) (c_relationOf l G hl) (lk_Sh_24.cw rfl rfl ⟨Nat.le_of_ble_eq_true rfl, Nat.le_of_ble_eq_true rfl⟩) zgS rfl rfl rfl rfl (Nat.le_of_ble_eq_true rfl) d_Sh_put_2 ⟨Nat.le_of_ble_eq_true rfl, Nat.le_of_ble_eq_true rfl⟩ ?_ ?_
  rotate_left
  · rintro E _ ⟨rfl, hx, rfl⟩; exact zx_out ⟨Or.inl ⟨rfl, hx⟩, rfl⟩ (Nat.le_of_ble_eq_true rfl) (Nat.le_of_ble_eq_true rfl)
  rintro _ _ ⟨r, hr, rfl, rfl, rfl⟩
  refine zb_lv (lv' := [(0, .ref (zad G 0)), (1, .int (nI r)), (2, .int y), (3, .int z)]) rfl ?_
  refine zb_st (st' := [.ref (zad G (zN (σ.1 1 r)))]) rfl ?_
  refine zb_astore (lv' := [(4, .ref (zad G (zN (σ.1 1 r)))), (0, .ref (zad G 0)), (1, .int (nI r)), (2, .int y), (3, .int z)]) d_Sh_put_5 (by decide) rfl ?_
  refine zb_iload_n d_Sh_put_7 rfl rfl ?_
  refine zb_aload d_Sh_put_8 rfl ?_
  refine zr_width (q := zN (σ.1 1 r)) d_Sh_put_10 fl_Sh_40 (hw.rl hr) ?_
  refine zb_top (y := nI (w r)) ((hw.at hr).1) ?_
  have hw3 : w r ≤ 3 := (hw.at hr).2.2.1
  by_cases ht : ztp y (w r)
  · refine zb_callS (rest := []) (c_isTuple_y l G hw3 ht) (lk_Sh_43.cw rfl rfl ⟨Nat.le_of_ble_eq_true rfl, Nat.le_of_ble_eq_true rfl⟩) rfl rfl (Nat.le_of_ble_eq_true rfl) d_Sh_put_13 ⟨Nat.le_of_ble_eq_true rfl, Nat.le_of_ble_eq_true rfl⟩ ?_
    rintro _ _ ⟨rfl, rfl⟩
    refine zb_st (st' := [.int 1]) rfl ?_
    refine zx_callS (rest := []) (c_refuseUnless l G hl) (lk_Sh_28.cw rfl rfl ⟨Nat.le_of_ble_eq_true rfl, Nat.le_of_ble_eq_true rfl⟩) rfl rfl (Nat.le_of_ble_eq_true rfl) d_Sh_put_16 ⟨Nat.le_of_ble_eq_true rfl, Nat.le_of_ble_eq_true rfl⟩ ?_ ?_
    rotate_left
    · rintro E _ ⟨-, h0, -⟩; exact absurd h0 (by decide)
    rintro _ _ ⟨rfl, -, rfl⟩
    refine zb_st (st' := []) rfl ?_
    obtain ⟨t, ht4, rfl, htm⟩ := ht
    obtain ⟨n, hn⟩ := (hw.at hr).2.2.2.1
    refine zb_lv (lv' := [(4, .ref (zad G (zN (σ.1 1 r)))), (0, .ref (zad G 0)), (1, .int (nI r)), (2, .int (nI t)), (3, .int z)]) (rfl) ?_
    refine zb_aload d_Sh_put_19 rfl ?_
    refine zb_iload_n d_Sh_put_21 rfl rfl ?_
    refine zb_iload_n d_Sh_put_22 rfl rfl ?_
    by_cases hc : M r t ≠ 0 ∨ z = 0 ∨ n < 300
    · refine zb_callV (rest := []) (c_raise_y l G hn ht4 hc) (lk_Sh_47.cw rfl rfl ⟨Nat.le_of_ble_eq_true rfl, Nat.le_of_ble_eq_true rfl⟩) (zgR (hw.rl hr)) rfl rfl rfl rfl (Nat.le_of_ble_eq_true rfl) d_Sh_put_23 ⟨Nat.le_of_ble_eq_true rfl, Nat.le_of_ble_eq_true rfl⟩ ?_
      rintro _ _ ⟨rfl, n2, w1, w2⟩
      rename_i σ9
      refine zb_st (st' := [.int 1]) rfl ?_
      refine zx_callS (rest := []) (c_refuseIfFull l G hl) (lk_Sh_50.cw rfl rfl ⟨Nat.le_of_ble_eq_true rfl, Nat.le_of_ble_eq_true rfl⟩) rfl rfl (Nat.le_of_ble_eq_true rfl) d_Sh_put_26 ⟨Nat.le_of_ble_eq_true rfl, Nat.le_of_ble_eq_true rfl⟩ ?_ ?_
      rotate_left
      · rintro E _ ⟨-, h0, -⟩; exact absurd h0 (by decide)
      rintro _ _ ⟨rfl, -, rfl⟩
      refine zb_st (st' := []) rfl ?_
      refine zb_aload d_Sh_put_29 rfl ?_
      refine zb_iload_n d_Sh_put_31 rfl rfl ?_
      refine zb_callV (rest := []) (c_countOf l G w1 (show t < 2 ^ 31 by omega)) (lk_Sh_53.cw rfl rfl ⟨Nat.le_of_ble_eq_true rfl, Nat.le_of_ble_eq_true rfl⟩) (zgR (hw.rl hr)) rfl rfl rfl rfl (Nat.le_of_ble_eq_true rfl) d_Sh_put_32 ⟨Nat.le_of_ble_eq_true rfl, Nat.le_of_ble_eq_true rfl⟩ ?_
      rintro _ _ ⟨rfl, rfl⟩
      refine zb_st (st' := [.int (upd (M r) t (M r t + z) t)]) rfl ?_
      refine zb_top (y := M r t + z) (pk_us) ?_
      exact zx_ret (zb_iret d_Sh_put_35 rfl ⟨r, t, n, hr, rfl, ⟨ht4, htm⟩, rfl, hn, hc, rfl, by rw [← uM_id w r]; exact zwf_set hw hr w2.1 ⟨w2.2.2.trans (hw.at hr).1, (hw.at hr).2.1, (hw.at hr).2.2.1, ⟨n2, w1⟩, fun u hu => by
                                                                                                                        by_cases e : u = t
                                                                                                                        · rw [e]; exact htm
                                                                                                                        · rw [pk_un e] at hu; exact (hw.at hr).2.2.2.2 u hu⟩, zf.k (hw.rl hr) w2⟩)
    · refine zb_callV (rest := []) (c_raise_n l G hn ht4 hc) (lk_Sh_47.cw rfl rfl ⟨Nat.le_of_ble_eq_true rfl, Nat.le_of_ble_eq_true rfl⟩) (zgR (hw.rl hr)) rfl rfl rfl rfl (Nat.le_of_ble_eq_true rfl) d_Sh_put_23 ⟨Nat.le_of_ble_eq_true rfl, Nat.le_of_ble_eq_true rfl⟩ ?_
      rintro _ _ ⟨rfl, rfl⟩
      refine zb_st (st' := [.int 0]) rfl ?_
      refine zx_callS (rest := []) (c_refuseIfFull l G hl) (lk_Sh_50.cw rfl rfl ⟨Nat.le_of_ble_eq_true rfl, Nat.le_of_ble_eq_true rfl⟩) rfl rfl (Nat.le_of_ble_eq_true rfl) d_Sh_put_26 ⟨Nat.le_of_ble_eq_true rfl, Nat.le_of_ble_eq_true rfl⟩ ?_ ?_
      rotate_left
      · rintro E _ ⟨rfl, -, rfl⟩; exact zx_out ⟨Or.inr (Or.inr ⟨rfl, r, t, n, hr, rfl, ⟨ht4, htm⟩, rfl, hn, hc⟩), rfl⟩ (Nat.le_of_ble_eq_true rfl) (Nat.le_of_ble_eq_true rfl)
      rintro _ _ ⟨-, h0, -⟩
      exact absurd rfl h0
  · refine zb_callS (rest := []) (c_isTuple_n l G hw3 ht) (lk_Sh_43.cw rfl rfl ⟨Nat.le_of_ble_eq_true rfl, Nat.le_of_ble_eq_true rfl⟩) rfl rfl (Nat.le_of_ble_eq_true rfl) d_Sh_put_13 ⟨Nat.le_of_ble_eq_true rfl, Nat.le_of_ble_eq_true rfl⟩ ?_
    rintro _ _ ⟨rfl, rfl⟩
    refine zb_st (st' := [.int 0]) rfl ?_
    refine zx_callS (rest := []) (c_refuseUnless l G hl) (lk_Sh_28.cw rfl rfl ⟨Nat.le_of_ble_eq_true rfl, Nat.le_of_ble_eq_true rfl⟩) rfl rfl (Nat.le_of_ble_eq_true rfl) d_Sh_put_16 ⟨Nat.le_of_ble_eq_true rfl, Nat.le_of_ble_eq_true rfl⟩ ?_ ?_
    rotate_left
    · rintro E _ ⟨rfl, -, rfl⟩; exact zx_out ⟨Or.inr (Or.inl ⟨rfl, r, hr, rfl, ht⟩), rfl⟩ (Nat.le_of_ble_eq_true rfl) (Nat.le_of_ble_eq_true rfl)
    rintro _ _ ⟨-, h0, -⟩
    exact absurd rfl h0
set_option maxHeartbeats 4000000 in
set_option maxRecDepth 100000 in
/-- at(r, k) -/
theorem c_at (l : Launch) (G : zG) {σ : zS} {x y : Int32} {M : Nat → Nat → Int32} {w : Nat → Nat} (hl : l.stackTraces = false) (hw : zwf σ M w) : zCX l G y_Sh_at w_Sh_at (zrz 8 130 2) 2 12 [.ref (zad G 0), .int x, .int y] σ (fun v σ' => ∃ r k n : Nat, r < 8 ∧ x = nI r ∧ k < n ∧ y = nI k ∧ zr σ (zN (σ.1 1 r)) n (M r) ∧ v = some (.int (σ.1 (zN (σ.1 1 r) + 1) k)) ∧ σ = σ') (fun E σ' => (E = zNS ∧ ¬ zgr x ∨ E = zNS ∧ ∃ r n : Nat, r < 8 ∧ x = nI r ∧ zr σ (zN (σ.1 1 r)) n (M r) ∧ ¬ ∃ k : Nat, k < n ∧ y = nI k) ∧ σ = σ') := by
  refine zCX_of (cc := c_Sh_at) (nL := 4) (ret := (some .int)) (own := R_Sh) (by decide +kernel) rfl rfl (Nat.le_of_ble_eq_true rfl) ?_
  refine zb_lv (lv' := [(0, .ref (zad G 0)), (1, .int x), (2, .int y)]) rfl ?_
  refine zb_aload_n d_Sh_at_0 rfl rfl ?_
  refine zb_iload_n d_Sh_at_1 rfl rfl ?_
  refine zx_callV (rest := []) (c_relationOf l G hl) (lk_Sh_24.cw rfl rfl ⟨Nat.le_of_ble_eq_true rfl, Nat.le_of_ble_eq_true rfl⟩) zgS rfl rfl rfl rfl (Nat.le_of_ble_eq_true rfl) d_Sh_at_2 ⟨Nat.le_of_ble_eq_true rfl, Nat.le_of_ble_eq_true rfl⟩ ?_ ?_
  rotate_left
  · rintro E _ ⟨rfl, hx, rfl⟩; exact zx_out ⟨Or.inl ⟨rfl, hx⟩, rfl⟩ (Nat.le_of_ble_eq_true rfl) (Nat.le_of_ble_eq_true rfl)
  rintro _ _ ⟨r, hr, rfl, rfl, rfl⟩
  refine zb_lv (lv' := [(0, .ref (zad G 0)), (1, .int (nI r)), (2, .int y)]) rfl ?_
  refine zb_st (st' := [.ref (zad G (zN (σ.1 1 r)))]) rfl ?_
  refine zb_astore_n (lv' := [(3, .ref (zad G (zN (σ.1 1 r)))), (0, .ref (zad G 0)), (1, .int (nI r)), (2, .int y)]) d_Sh_at_5 rfl (by decide) rfl ?_
  obtain ⟨n, hn⟩ := (hw.at hr).2.2.2.1
  have hn3 := hn.2.2.1
  refine zb_iload_n d_Sh_at_6 rfl rfl ?_
  refine zb_if_lt (tgt := 18) d_Sh_at_7 rfl (fun h7 => ?_) (fun h7 => ?_)
  · exact zx_throw xw_NS (Or.inl rfl) hl d_Sh_at_18 d_Sh_at_21 d_Sh_at_22 d_Sh_at_25 (Nat.le_of_ble_eq_true rfl) (Nat.le_of_ble_eq_true rfl) (Nat.le_refl _) (Nat.le_refl _) (Nat.le_refl _) (Nat.le_refl _) ⟨Or.inr ⟨rfl, r, n, hr, rfl, hn, fun ⟨k, hk, e⟩ => by subst e; exact absurd h7 (nI_pos (by omega))⟩, rfl⟩
  · refine zb_iload_n d_Sh_at_10 rfl rfl ?_
    refine zb_aload_n d_Sh_at_11 rfl rfl ?_
    refine zr_size (q := zN (σ.1 1 r)) d_Sh_at_12 fl_Sh_32 (hw.rl hr) ?_
    refine zb_top (y := nI n) (hn.2.1) ?_
    refine zb_icmp_lt (tgt := 26) d_Sh_at_15 rfl (fun h15 => ?_) (fun h15 => ?_)
    · obtain ⟨k, hk31, rfl⟩ := nI_of h7
      have hk : k < n := (nI_ltI hk31 (by omega)).mp h15
      refine zb_lv (lv' := [(3, .ref (zad G (zN (σ.1 1 r)))), (0, .ref (zad G 0)), (1, .int (nI r)), (2, .int (nI k))]) (rfl) ?_
      refine zb_aload_n d_Sh_at_26 rfl rfl ?_
      refine zr_tuples (q := zN (σ.1 1 r)) d_Sh_at_27 fl_Sh_60 (hw.rl hr) ?_
      refine zb_iload_n d_Sh_at_30 rfl rfl ?_
      refine zb_ialdN (q := zN (σ.1 1 r) + 1) (j := k) d_Sh_at_31 ((hw.rl hr).t) (by rw [(hw.rl hr).nt]; omega) ?_
      exact zx_ret (zb_widen (Nat.le_of_ble_eq_true rfl) (Nat.le_of_ble_eq_true rfl) (zb_iret d_Sh_at_32 rfl ⟨r, k, n, hr, rfl, hk, rfl, hn, rfl, rfl⟩))
    · exact zx_throw xw_NS (Or.inl rfl) hl d_Sh_at_18 d_Sh_at_21 d_Sh_at_22 d_Sh_at_25 (Nat.le_of_ble_eq_true rfl) (Nat.le_of_ble_eq_true rfl) (Nat.le_refl _) (Nat.le_refl _) (Nat.le_refl _) (Nat.le_refl _) ⟨Or.inr ⟨rfl, r, n, hr, rfl, hn, fun ⟨k, hk, e⟩ => by subst e; exact h15 (nI_lt hk (by omega))⟩, rfl⟩
end
section
/-! PURE: going over a relation's tuples in order, and over all tuples that have a count, is the same -/
def fc {α : Type} (f : α → Nat → Int32 → α) (a0 : α) (T C : Nat → Int32) : Nat → α
  | 0 => a0
  | i + 1 => f (fc f a0 T C i) (zN (T i)) (C i)
def fm {α : Type} (f : α → Nat → Int32 → α) (a0 : α) (m : Nat → Int32) : Nat → α
  | 0 => a0
  | t + 1 => if m t = 0 then fm f a0 m t else f (fm f a0 m t) t (m t)
theorem fm_at {α : Type} (f : α → Nat → Int32 → α) (a0 : α) {T C m : Nat → Int32} {n : Nat} (h : zp T C n m) (k : Nat) : ∃ p, p ≤ n ∧ (∀ i, i < p → zN (T i) < k) ∧ (∀ i, p ≤ i → i < n → k ≤ zN (T i)) ∧ fm f a0 m k = fc f a0 T C p := by
  induction k with
  | zero => exact ⟨0, Nat.zero_le _, fun i hi => absurd hi (Nat.not_lt_zero i), fun i _ _ => Nat.zero_le _, rfl⟩
  | succ k ih =>
    obtain ⟨p, h1, h2, h3, h4⟩ := ih
    by_cases hm : m k = 0
    · refine ⟨p, h1, fun i hi => Nat.lt_succ_of_lt (h2 i hi), fun i a b => ?_, by simp only [fm, hm, if_true]; exact h4⟩
      have h5 := h3 i a b
      have h6 := h.2.2.2.1 i b
      have h7 : zN (T i) ≠ k := fun e => h6.1 (by rw [← h6.2, e, hm])
      omega
    · obtain ⟨i, hi, hk⟩ := h.2.2.2.2 k hm
      have hpi : p ≤ i := Nat.not_lt.mp fun z => by have := h2 i z; omega
      have hip : i = p := by
        rcases Nat.lt_or_eq_of_le hpi with z | z
        · have a := h.2.2.1 p i z hi
          have b := h3 p (Nat.le_refl _) (by omega)
          omega
        · exact z.symm
      subst hip
      refine ⟨i + 1, hi, fun j hj => ?_, fun j a b => ?_, ?_⟩
      · rcases Nat.lt_or_eq_of_le (Nat.le_of_lt_succ hj) with z | z
        · exact Nat.lt_succ_of_lt (h2 j z)
        · rw [z, hk]; exact Nat.lt_succ_self k
      · have := h.2.2.1 i j (by omega) b
        omega
      · simp only [fm, fc, hm, if_false]
        rw [h4, hk, ← (h.2.2.2.1 i hi).2, hk]
theorem fm_eq {α : Type} (f : α → Nat → Int32 → α) (a0 : α) {T C m : Nat → Int32} {n : Nat} (h : zp T C n m) : fm f a0 m 4096 = fc f a0 T C n := by
  obtain ⟨p, h1, h2, h3, h4⟩ := fm_at f a0 h 4096
  have : p = n := by
    rcases Nat.lt_or_eq_of_le h1 with z | z
    · have a := h3 p (Nat.le_refl _) z
      have b := (h.2.1 p z).1
      omega
    · exact z
  rw [h4, this]
/-- how many have a count -/
def zct (m : Nat → Int32) : Nat → Nat := fm (fun a _ _ => a + 1) 0 m
theorem fc_n (T C : Nat → Int32) (n : Nat) : fc (fun (a : Nat) _ _ => a + 1) 0 T C n = n := by
  induction n with
  | zero => rfl
  | succ n ih => simp only [fc, ih]
theorem zct_eq {T C m : Nat → Int32} {n : Nat} (h : zp T C n m) : zct m 4096 = n := (fm_eq _ 0 h).trans (fc_n T C n)
/-- the bits of a number below 65536, counted -/
def pc16 (k : Nat) : Nat := k % 2 + k / 2 % 2 + k / 4 % 2 + k / 8 % 2 + k / 16 % 2 + k / 32 % 2 + k / 64 % 2 + k / 128 % 2 + k / 256 % 2 + k / 512 % 2 + k / 1024 % 2 + k / 2048 % 2 + k / 4096 % 2 + k / 8192 % 2 + k / 16384 % 2 + k / 32768 % 2
def ush (x : Int32) (y : Int32) : Int32 := (x.toUInt32 >>> (y.toUInt32 &&& Int32.toUInt32 31)).toInt32
def bcA (x : Int32) : Int32 := x - (ush x 1 &&& 1431655765)
def bcB (x : Int32) : Int32 := (x &&& 858993459) + (ush x 2 &&& 858993459)
def bcC (x : Int32) : Int32 := (x + ush x 4) &&& 252645135
def bcD (x : Int32) : Int32 := x + ush x 8
def bcE (x : Int32) : Int32 := (x + ush x 16) &&& 63
theorem nI_or (a b : Nat) : nI a ||| nI b = nI (a ||| b) := by
  apply Int32.toBitVec_inj.mp
  show BitVec.ofNat 32 a ||| BitVec.ofNat 32 b = BitVec.ofNat 32 (a ||| b)
  apply BitVec.eq_of_getLsbD_eq
  intro i hi
  simp [BitVec.getLsbD_or, hi]
theorem nI_bit : ∀ x, x < 16 → (1 : Int32) <<< (nI x &&& 31) = nI (2 ^ x) := by decide +kernel
theorem nI_and (a b : Nat) : nI a &&& nI b = nI (a &&& b) := by
  apply Int32.toBitVec_inj.mp
  show BitVec.ofNat 32 a &&& BitVec.ofNat 32 b = BitVec.ofNat 32 (a &&& b)
  apply BitVec.eq_of_getLsbD_eq
  intro i hi
  simp [BitVec.getLsbD_and, hi]
theorem us_l : ∀ n, n < 32 → (((nI n).toUInt32 &&& Int32.toUInt32 31).toBitVec % 32).toNat = n := by decide +kernel
theorem us_r {a b : Nat} (h : a < 2 ^ 32) (hb : b < 32) : ush (nI a) (nI b) = nI (a / 2 ^ b) := pk_ushrN h _ b (us_l b hb)
def bnA (k : Nat) : Nat := k - (k / 2 &&& 1431655765)
def bnB (k : Nat) : Nat := (k &&& 858993459) + (k / 4 &&& 858993459)
def bnC (k : Nat) : Nat := (k + k / 16) &&& 252645135
def bnD (k : Nat) : Nat := k + k / 256
def bnE (k : Nat) : Nat := (k + k / 65536) &&& 63
theorem bcA_n {k : Nat} (h : k < 65536) : bcA (nI k) = nI (bnA k) := by
  show nI k - (ush (nI k) (nI 1) &&& nI 1431655765) = _
  rw [us_r (by omega) (by decide), nI_and, pk_sub (Nat.le_trans Nat.and_le_left (Nat.div_le_self _ _))]
  rfl
theorem bcB_n {k : Nat} (h : k < 65536) : bcB (nI k) = nI (bnB k) := by
  show (nI k &&& nI 858993459) + (ush (nI k) (nI 2) &&& nI 858993459) = _
  rw [us_r (by omega) (by decide), nI_and, nI_and, nI_add]
  rfl
theorem bcC_n {k : Nat} (h : k < 2 ^ 30) : bcC (nI k) = nI (bnC k) := by
  show (nI k + ush (nI k) (nI 4)) &&& nI 252645135 = _
  rw [us_r (by omega) (by decide), nI_add, nI_and]
  rfl
theorem bcD_n {k : Nat} (h : k < 2 ^ 30) : bcD (nI k) = nI (bnD k) := by
  show nI k + ush (nI k) (nI 8) = _
  rw [us_r (by omega) (by decide), nI_add]
  rfl
theorem bcE_n {k : Nat} (h : k < 2 ^ 30) : bcE (nI k) = nI (bnE k) := by
  show (nI k + ush (nI k) (nI 16)) &&& nI 63 = _
  rw [us_r (by omega) (by decide), nI_add, nI_and]
  rfl
theorem bc_nat {k : Nat} (h : k < 65536) : bcE (bcD (bcC (bcB (bcA (nI k))))) = nI (bnE (bnD (bnC (bnB (bnA k))))) := by
  have a : bnA k < 65536 := Nat.lt_of_le_of_lt (Nat.sub_le _ _) h
  have b : bnB (bnA k) < 2 ^ 29 := by
    have h1 : bnA k &&& 858993459 ≤ bnA k := Nat.and_le_left
    have h2 : bnA k / 4 &&& 858993459 ≤ bnA k / 4 := Nat.and_le_left
    unfold bnB
    omega
  have c : bnC (bnB (bnA k)) < 2 ^ 30 := Nat.lt_of_le_of_lt Nat.and_le_right (by decide)
  have c2 : bnC (bnB (bnA k)) < 2 ^ 29 := Nat.lt_of_le_of_lt Nat.and_le_right (by decide)
  have d : bnD (bnC (bnB (bnA k))) < 2 ^ 30 := by unfold bnD; omega
  rw [bcA_n h, bcB_n a, bcC_n (by omega), bcD_n c, bcE_n d]
def bchk (lo : Nat) : Nat → Bool
  | 0 => true
  | n + 1 => (Nat.beq (bnE (bnD (bnC (bnB (bnA (lo + n)))))) (pc16 (lo + n))) && bchk lo n
end
section
set_option maxRecDepth 100000 in
theorem bchk_0 : bchk 0 2048 = true := by decide +kernel
set_option maxRecDepth 100000 in
theorem bchk_1 : bchk 2048 2048 = true := by decide +kernel
set_option maxRecDepth 100000 in
theorem bchk_2 : bchk 4096 2048 = true := by decide +kernel
set_option maxRecDepth 100000 in
theorem bchk_3 : bchk 6144 2048 = true := by decide +kernel
set_option maxRecDepth 100000 in
theorem bchk_4 : bchk 8192 2048 = true := by decide +kernel
set_option maxRecDepth 100000 in
theorem bchk_5 : bchk 10240 2048 = true := by decide +kernel
set_option maxRecDepth 100000 in
theorem bchk_6 : bchk 12288 2048 = true := by decide +kernel
set_option maxRecDepth 100000 in
theorem bchk_7 : bchk 14336 2048 = true := by decide +kernel
set_option maxRecDepth 100000 in
theorem bchk_8 : bchk 16384 2048 = true := by decide +kernel
set_option maxRecDepth 100000 in
theorem bchk_9 : bchk 18432 2048 = true := by decide +kernel
set_option maxRecDepth 100000 in
theorem bchk_10 : bchk 20480 2048 = true := by decide +kernel
set_option maxRecDepth 100000 in
theorem bchk_11 : bchk 22528 2048 = true := by decide +kernel
set_option maxRecDepth 100000 in
theorem bchk_12 : bchk 24576 2048 = true := by decide +kernel
set_option maxRecDepth 100000 in
theorem bchk_13 : bchk 26624 2048 = true := by decide +kernel
set_option maxRecDepth 100000 in
theorem bchk_14 : bchk 28672 2048 = true := by decide +kernel
set_option maxRecDepth 100000 in
theorem bchk_15 : bchk 30720 2048 = true := by decide +kernel
set_option maxRecDepth 100000 in
theorem bchk_16 : bchk 32768 2048 = true := by decide +kernel
set_option maxRecDepth 100000 in
theorem bchk_17 : bchk 34816 2048 = true := by decide +kernel
set_option maxRecDepth 100000 in
theorem bchk_18 : bchk 36864 2048 = true := by decide +kernel
set_option maxRecDepth 100000 in
theorem bchk_19 : bchk 38912 2048 = true := by decide +kernel
set_option maxRecDepth 100000 in
theorem bchk_20 : bchk 40960 2048 = true := by decide +kernel
set_option maxRecDepth 100000 in
theorem bchk_21 : bchk 43008 2048 = true := by decide +kernel
set_option maxRecDepth 100000 in
theorem bchk_22 : bchk 45056 2048 = true := by decide +kernel
set_option maxRecDepth 100000 in
theorem bchk_23 : bchk 47104 2048 = true := by decide +kernel
set_option maxRecDepth 100000 in
theorem bchk_24 : bchk 49152 2048 = true := by decide +kernel
set_option maxRecDepth 100000 in
theorem bchk_25 : bchk 51200 2048 = true := by decide +kernel
set_option maxRecDepth 100000 in
theorem bchk_26 : bchk 53248 2048 = true := by decide +kernel
set_option maxRecDepth 100000 in
theorem bchk_27 : bchk 55296 2048 = true := by decide +kernel
set_option maxRecDepth 100000 in
theorem bchk_28 : bchk 57344 2048 = true := by decide +kernel
set_option maxRecDepth 100000 in
theorem bchk_29 : bchk 59392 2048 = true := by decide +kernel
set_option maxRecDepth 100000 in
theorem bchk_30 : bchk 61440 2048 = true := by decide +kernel
set_option maxRecDepth 100000 in
theorem bchk_31 : bchk 63488 2048 = true := by decide +kernel
theorem bchk_at {lo : Nat} : ∀ {n : Nat}, bchk lo n = true → ∀ j, j < n → bnE (bnD (bnC (bnB (bnA (lo + j))))) = pc16 (lo + j)
  | 0, _, j, hj => absurd hj (Nat.not_lt_zero j)
  | n + 1, h, j, hj => by
    unfold bchk at h
    rw [Bool.and_eq_true] at h
    rcases Nat.lt_or_eq_of_le (Nat.le_of_lt_succ hj) with z | z
    · exact bchk_at h.2 j z
    · rw [z]; exact Nat.eq_of_beq_eq_true h.1
theorem bn_all {k : Nat} (h : k < 65536) : bnE (bnD (bnC (bnB (bnA k)))) = pc16 k := by
  have e : k = 2048 * (k / 2048) + k % 2048 := by omega
  have hm : k % 2048 < 2048 := Nat.mod_lt _ (by decide)
  have hd : k / 2048 < 32 := by omega
  generalize k / 2048 = a at e hd
  generalize k % 2048 = b at e hm
  subst e
  match a, hd with
  | 0, _ => exact bchk_at bchk_0 b hm
  | 1, _ => exact bchk_at bchk_1 b hm
  | 2, _ => exact bchk_at bchk_2 b hm
  | 3, _ => exact bchk_at bchk_3 b hm
  | 4, _ => exact bchk_at bchk_4 b hm
  | 5, _ => exact bchk_at bchk_5 b hm
  | 6, _ => exact bchk_at bchk_6 b hm
  | 7, _ => exact bchk_at bchk_7 b hm
  | 8, _ => exact bchk_at bchk_8 b hm
  | 9, _ => exact bchk_at bchk_9 b hm
  | 10, _ => exact bchk_at bchk_10 b hm
  | 11, _ => exact bchk_at bchk_11 b hm
  | 12, _ => exact bchk_at bchk_12 b hm
  | 13, _ => exact bchk_at bchk_13 b hm
  | 14, _ => exact bchk_at bchk_14 b hm
  | 15, _ => exact bchk_at bchk_15 b hm
  | 16, _ => exact bchk_at bchk_16 b hm
  | 17, _ => exact bchk_at bchk_17 b hm
  | 18, _ => exact bchk_at bchk_18 b hm
  | 19, _ => exact bchk_at bchk_19 b hm
  | 20, _ => exact bchk_at bchk_20 b hm
  | 21, _ => exact bchk_at bchk_21 b hm
  | 22, _ => exact bchk_at bchk_22 b hm
  | 23, _ => exact bchk_at bchk_23 b hm
  | 24, _ => exact bchk_at bchk_24 b hm
  | 25, _ => exact bchk_at bchk_25 b hm
  | 26, _ => exact bchk_at bchk_26 b hm
  | 27, _ => exact bchk_at bchk_27 b hm
  | 28, _ => exact bchk_at bchk_28 b hm
  | 29, _ => exact bchk_at bchk_29 b hm
  | 30, _ => exact bchk_at bchk_30 b hm
  | 31, _ => exact bchk_at bchk_31 b hm
  | a + 32, h => exact absurd h (by omega)
theorem bc_eq {k : Nat} (h : k < 65536) : bcE (bcD (bcC (bcB (bcA (nI k))))) = nI (pc16 k) := by rw [bc_nat h, bn_all h]
end
section
theorem d_Jint_bitCount_0 : decode c_Jint_bitCount 0 = .ok (.iload_n 0, 1) := by decide +kernel
theorem d_Jint_bitCount_1 : decode c_Jint_bitCount 1 = .ok (.iload_n 0, 1) := by decide +kernel
theorem d_Jint_bitCount_2 : decode c_Jint_bitCount 2 = .ok (.iconst 1, 1) := by decide +kernel
theorem d_Jint_bitCount_3 : decode c_Jint_bitCount 3 = .ok (.iushr, 1) := by decide +kernel
theorem d_Jint_bitCount_4 : decode c_Jint_bitCount 4 = .ok (.ldc_w 265, 3) := by decide +kernel
theorem d_Jint_bitCount_7 : decode c_Jint_bitCount 7 = .ok (.iand, 1) := by decide +kernel
theorem d_Jint_bitCount_8 : decode c_Jint_bitCount 8 = .ok (.isub, 1) := by decide +kernel
theorem d_Jint_bitCount_9 : decode c_Jint_bitCount 9 = .ok (.istore_n 0, 1) := by decide +kernel
theorem d_Jint_bitCount_10 : decode c_Jint_bitCount 10 = .ok (.iload_n 0, 1) := by decide +kernel
theorem d_Jint_bitCount_11 : decode c_Jint_bitCount 11 = .ok (.ldc_w 266, 3) := by decide +kernel
theorem d_Jint_bitCount_14 : decode c_Jint_bitCount 14 = .ok (.iand, 1) := by decide +kernel
theorem d_Jint_bitCount_15 : decode c_Jint_bitCount 15 = .ok (.iload_n 0, 1) := by decide +kernel
theorem d_Jint_bitCount_16 : decode c_Jint_bitCount 16 = .ok (.iconst 2, 1) := by decide +kernel
theorem d_Jint_bitCount_17 : decode c_Jint_bitCount 17 = .ok (.iushr, 1) := by decide +kernel
theorem d_Jint_bitCount_18 : decode c_Jint_bitCount 18 = .ok (.ldc_w 266, 3) := by decide +kernel
theorem d_Jint_bitCount_21 : decode c_Jint_bitCount 21 = .ok (.iand, 1) := by decide +kernel
theorem d_Jint_bitCount_22 : decode c_Jint_bitCount 22 = .ok (.iadd, 1) := by decide +kernel
theorem d_Jint_bitCount_23 : decode c_Jint_bitCount 23 = .ok (.istore_n 0, 1) := by decide +kernel
theorem d_Jint_bitCount_24 : decode c_Jint_bitCount 24 = .ok (.iload_n 0, 1) := by decide +kernel
theorem d_Jint_bitCount_25 : decode c_Jint_bitCount 25 = .ok (.iload_n 0, 1) := by decide +kernel
theorem d_Jint_bitCount_26 : decode c_Jint_bitCount 26 = .ok (.iconst 4, 1) := by decide +kernel
theorem d_Jint_bitCount_27 : decode c_Jint_bitCount 27 = .ok (.iushr, 1) := by decide +kernel
theorem d_Jint_bitCount_28 : decode c_Jint_bitCount 28 = .ok (.iadd, 1) := by decide +kernel
theorem d_Jint_bitCount_29 : decode c_Jint_bitCount 29 = .ok (.ldc_w 267, 3) := by decide +kernel
theorem d_Jint_bitCount_32 : decode c_Jint_bitCount 32 = .ok (.iand, 1) := by decide +kernel
theorem d_Jint_bitCount_33 : decode c_Jint_bitCount 33 = .ok (.istore_n 0, 1) := by decide +kernel
theorem d_Jint_bitCount_34 : decode c_Jint_bitCount 34 = .ok (.iload_n 0, 1) := by decide +kernel
theorem d_Jint_bitCount_35 : decode c_Jint_bitCount 35 = .ok (.iload_n 0, 1) := by decide +kernel
theorem d_Jint_bitCount_36 : decode c_Jint_bitCount 36 = .ok (.bipush 8, 2) := by decide +kernel
theorem d_Jint_bitCount_38 : decode c_Jint_bitCount 38 = .ok (.iushr, 1) := by decide +kernel
theorem d_Jint_bitCount_39 : decode c_Jint_bitCount 39 = .ok (.iadd, 1) := by decide +kernel
theorem d_Jint_bitCount_40 : decode c_Jint_bitCount 40 = .ok (.istore_n 0, 1) := by decide +kernel
theorem d_Jint_bitCount_41 : decode c_Jint_bitCount 41 = .ok (.iload_n 0, 1) := by decide +kernel
theorem d_Jint_bitCount_42 : decode c_Jint_bitCount 42 = .ok (.iload_n 0, 1) := by decide +kernel
theorem d_Jint_bitCount_43 : decode c_Jint_bitCount 43 = .ok (.bipush 16, 2) := by decide +kernel
theorem d_Jint_bitCount_45 : decode c_Jint_bitCount 45 = .ok (.iushr, 1) := by decide +kernel
theorem d_Jint_bitCount_46 : decode c_Jint_bitCount 46 = .ok (.iadd, 1) := by decide +kernel
theorem d_Jint_bitCount_47 : decode c_Jint_bitCount 47 = .ok (.istore_n 0, 1) := by decide +kernel
theorem d_Jint_bitCount_48 : decode c_Jint_bitCount 48 = .ok (.iload_n 0, 1) := by decide +kernel
theorem d_Jint_bitCount_49 : decode c_Jint_bitCount 49 = .ok (.bipush 63, 2) := by decide +kernel
theorem d_Jint_bitCount_51 : decode c_Jint_bitCount 51 = .ok (.iand, 1) := by decide +kernel
theorem d_Jint_bitCount_52 : decode c_Jint_bitCount 52 = .ok (.ireturn, 1) := by decide +kernel
end
section
section ZR2
variable {l : Launch} {G : zG} {Ts : List Cond} {own : String} {cc : ByteArray} {nL : Nat} {ret : Option FieldType} {xt : List ExceptionTableEntry} {R : Room} {Fin : List Frame → Array Value → State → State → Prop} {cs sl : Nat} {pc : Nat} {lv lv' : List (Nat × Value)} {st : List Value} {σ : zS}
theorem zb_iushr {x y : Int32} (d : decode cc pc = .ok (.iushr, 1)) (k : zB l G Ts own cc nL ret xt R Fin cs sl (pc + 1) lv (.int (ush x y) :: st) σ) : zB l G Ts own cc nL ret xt R Fin cs sl pc lv (.int y :: .int x :: st) σ :=
  fun p e s m args below meth c C H locs ls hl hP hD hS => lv_iushr C.ex C.bt d rfl (k p e s m args below meth c C H locs ls hl hP hD hS)
theorem zb_ldcw {index : Nat} {v : Int32} (hc : Cond.constant own index v ∈ zws) (d : decode cc pc = .ok (.ldc_w index, 3)) (k : zB l G Ts own cc nL ret xt R Fin cs sl (pc + 3) lv (.int v :: st) σ) : zB l G Ts own cc nL ret xt R Fin cs sl pc lv st σ :=
  fun p e s m args below meth c C H locs ls hl hP hD hS => lv_ldcw C.ex C.bt C.ow (C.zs _ hc) d (k p e s m args below meth c C H locs ls hl hP hD hS)
theorem zb_ldc {index : Nat} {v : Int32} (hc : Cond.constant own index v ∈ zws) (d : decode cc pc = .ok (.ldc index, 2)) (k : zB l G Ts own cc nL ret xt R Fin cs sl (pc + 2) lv (.int v :: st) σ) : zB l G Ts own cc nL ret xt R Fin cs sl pc lv st σ :=
  fun p e s m args below meth c C H locs ls hl hP hD hS => lv_ldc C.ex C.bt C.ow (C.zs _ hc) d (k p e s m args below meth c C H locs ls hl hP hD hS)
theorem zb_max {x y : Int32} (hlk : Cond.methodLink own 50 y_Jmath_max ∈ zws) (hfr : 1 ≤ R.frames) (hlo : (st.map fun v => v.category).sum + 13 ≤ R.locals) (hc : cs ≤ R.cells) (hs : sl ≤ R.slots) (d : decode cc pc = .ok (.invokestatic 50, 3)) (k : zB l G Ts own cc nL ret xt R Fin cs sl (pc + 3) lv (.int (if x < y then y else x) :: st) σ) : zB l G Ts own cc nL ret xt R Fin cs sl pc lv (.int y :: .int x :: st) σ :=
  fun p e s m args below meth c C H locs ls hl hP hD hS => va_mmax C.ex C.bt (C.ml.trans hl.1.symm) C.ow (C.zs _ hlk) (C.zs _ lk_Rel_50.2.2.1) (C.zs _ lk_Rel_50.2.2.2.1) (C.zs _ lk_Rel_50.1) hfr hlo hc hs d (k p e s m args below meth c C H locs ls hl hP hD hS)
theorem zb_min {x y : Int32} (hlk : Cond.methodLink own 138 y_Jmath_min ∈ zws) (hfr : 1 ≤ R.frames) (hlo : (st.map fun v => v.category).sum + 13 ≤ R.locals) (hc : cs ≤ R.cells) (hs : sl ≤ R.slots) (d : decode cc pc = .ok (.invokestatic 138, 3)) (k : zB l G Ts own cc nL ret xt R Fin cs sl (pc + 3) lv (.int (if y < x then y else x) :: st) σ) : zB l G Ts own cc nL ret xt R Fin cs sl pc lv (.int y :: .int x :: st) σ :=
  fun p e s m args below meth c C H locs ls hl hP hD hS => va_mmin C.ex C.bt (C.ml.trans hl.1.symm) C.ow (C.zs _ hlk) (C.zs _ lk_Sh_138.2.2.1) (C.zs _ lk_Sh_138.2.2.2.1) (C.zs _ lk_Sh_138.1) hfr hlo hc hs d (k p e s m args below meth c C H locs ls hl hP hD hS)
/-- numberAt, called by the nest mate -/
theorem zb_callSN {y0 : MethodName} {rest as : List Value} {φ : Option Value → zS → Prop} {rm : Room} (hM : zC l G y_Sh_numberAt w_Sh_numberAt rm 0 0 as σ φ) (hrc : rm.cells = 0) (hrs : rm.slots = 0) (hR : rm.frames + 1 ≤ R.frames ∧ 8 + (2 + 11) + rm.locals ≤ R.locals) (ho : own = R_Rel) (hT : Ts = zwy y0 cc nL ret)
    (hn : as.length = 2) (hst : st = as.reverse ++ rest) (hr : (rest.map fun v => v.category).sum ≤ 8) (d : decode cc pc = .ok (.invokestatic 41, 3)) (hf : cs + 0 ≤ R.cells ∧ sl + 0 ≤ R.slots) (k : ∀ (v : Option Value) (σ' : zS), φ v σ' → zB l G Ts own cc nL ret xt R Fin (cs + 0) (sl + 0) (pc + 3) lv (v.toList ++ rest) σ') : zB l G Ts own cc nL ret xt R Fin cs sl pc lv st σ := by
  subst hst
  subst ho
  subst hT
  intro p e s m args below meth c C H locs ls hl hP hD hS
  have hcode : Cond.code y_Sh_numberAt c_Sh_numberAt 2 (some .int) ∈ zws := lk_Sh_85.1
  exact zb_run C hl hS (va_runSN (As := as) (rest := rest) ⟨C.ex, C.bt, C.ml, C.ow, C.ts⟩ hM ⟨va_cnB 2 C.ts (zwy_good hcode) rfl hrc hrs C.st.2.2.2.2 (C.zs _ lk_Sh_85.2.2.2.1) lk_Sh_85.2.2.2.2 hR, C.zs _ lk_Sh_85.2.2.1, trivial⟩ ⟨zI.blind, fun U hU hW => ⟨rfl, zI.pre C hP hD hS U hU hW⟩⟩ rfl hn hl.1 rfl (lv_room hr) d hf) k
end ZR2
end
section
def R_Int : String := "java/lang/Integer"
set_option maxHeartbeats 4000000 in
set_option maxRecDepth 100000 in
/-- Integer.bitCount -/
theorem c_bitCount (l : Launch) (G : zG) {σ : zS} {k : Nat} (hk : k < 65536) : zC l G y_Jint_bitCount w_Jint_bitCount (zrm 0 0) 0 0 [.int (nI k)] σ (fun v σ' => v = some (.int (nI (pc16 k))) ∧ σ = σ') := by
  refine zC_of (cc := c_Jint_bitCount) (nL := 1) (ret := (some .int)) (own := R_Int) (by decide +kernel) rfl rfl (Nat.le_of_ble_eq_true rfl) ?_
  refine zb_lv (lv' := [(0, .int (nI k))]) rfl ?_
  refine zb_iload_n d_Jint_bitCount_0 rfl rfl ?_
  refine zb_iload_n d_Jint_bitCount_1 rfl rfl ?_
  refine zb_iconst (v := 1) d_Jint_bitCount_2 rfl ?_
  refine zb_iushr d_Jint_bitCount_3 ?_
  refine zb_ldcw (v := 1431655765) (zin 263 (by decide +kernel) (by decide +kernel)) d_Jint_bitCount_4 ?_
  refine zb_iand d_Jint_bitCount_7 ?_
  refine zb_isub d_Jint_bitCount_8 ?_
  refine zb_istore_n (lv' := [(0, .int ((nI k) - ((ush (nI k) 1) &&& 1431655765)))]) d_Jint_bitCount_9 rfl (by decide) rfl ?_
  refine zb_lv (lv' := [(0, .int (bcA (nI k)))]) (rfl) ?_
  refine zb_iload_n d_Jint_bitCount_10 rfl rfl ?_
  refine zb_ldcw (v := 858993459) (zin 264 (by decide +kernel) (by decide +kernel)) d_Jint_bitCount_11 ?_
  refine zb_iand d_Jint_bitCount_14 ?_
  refine zb_iload_n d_Jint_bitCount_15 rfl rfl ?_
  refine zb_iconst (v := 2) d_Jint_bitCount_16 rfl ?_
  refine zb_iushr d_Jint_bitCount_17 ?_
  refine zb_ldcw (v := 858993459) (zin 264 (by decide +kernel) (by decide +kernel)) d_Jint_bitCount_18 ?_
  refine zb_iand d_Jint_bitCount_21 ?_
  refine zb_iadd d_Jint_bitCount_22 ?_
  refine zb_istore_n (lv' := [(0, .int (((bcA (nI k)) &&& 858993459) + ((ush (bcA (nI k)) 2) &&& 858993459)))]) d_Jint_bitCount_23 rfl (by decide) rfl ?_
  refine zb_lv (lv' := [(0, .int (bcB (bcA (nI k))))]) (rfl) ?_
  refine zb_iload_n d_Jint_bitCount_24 rfl rfl ?_
  refine zb_iload_n d_Jint_bitCount_25 rfl rfl ?_
  refine zb_iconst (v := 4) d_Jint_bitCount_26 rfl ?_
  refine zb_iushr d_Jint_bitCount_27 ?_
  refine zb_iadd d_Jint_bitCount_28 ?_
  refine zb_ldcw (v := 252645135) (zin 265 (by decide +kernel) (by decide +kernel)) d_Jint_bitCount_29 ?_
  refine zb_iand d_Jint_bitCount_32 ?_
  refine zb_istore_n (lv' := [(0, .int (((bcB (bcA (nI k))) + (ush (bcB (bcA (nI k))) 4)) &&& 252645135))]) d_Jint_bitCount_33 rfl (by decide) rfl ?_
  refine zb_lv (lv' := [(0, .int (bcC (bcB (bcA (nI k)))))]) (rfl) ?_
  refine zb_iload_n d_Jint_bitCount_34 rfl rfl ?_
  refine zb_iload_n d_Jint_bitCount_35 rfl rfl ?_
  refine zb_bipush (v := 8) d_Jint_bitCount_36 rfl ?_
  refine zb_iushr d_Jint_bitCount_38 ?_
  refine zb_iadd d_Jint_bitCount_39 ?_
  refine zb_istore_n (lv' := [(0, .int ((bcC (bcB (bcA (nI k)))) + (ush (bcC (bcB (bcA (nI k)))) 8)))]) d_Jint_bitCount_40 rfl (by decide) rfl ?_
  refine zb_lv (lv' := [(0, .int (bcD (bcC (bcB (bcA (nI k))))))]) (rfl) ?_
  refine zb_iload_n d_Jint_bitCount_41 rfl rfl ?_
  refine zb_iload_n d_Jint_bitCount_42 rfl rfl ?_
  refine zb_bipush (v := 16) d_Jint_bitCount_43 rfl ?_
  refine zb_iushr d_Jint_bitCount_45 ?_
  refine zb_iadd d_Jint_bitCount_46 ?_
  refine zb_istore_n (lv' := [(0, .int ((bcD (bcC (bcB (bcA (nI k))))) + (ush (bcD (bcC (bcB (bcA (nI k))))) 16)))]) d_Jint_bitCount_47 rfl (by decide) rfl ?_
  refine zb_iload_n d_Jint_bitCount_48 rfl rfl ?_
  refine zb_bipush (v := 63) d_Jint_bitCount_49 rfl ?_
  refine zb_iand d_Jint_bitCount_51 ?_
  refine zb_top (y := nI (pc16 k)) (bc_eq hk) ?_
  exact zb_iret d_Jint_bitCount_52 rfl ⟨rfl, rfl⟩
def fS (a : Int64) (_ : Nat) (c : Int32) : Int64 := a + c.toInt64
def fG (a : Option Int32) (_ : Nat) (c : Int32) : Option Int32 := match a with
  | none => some c
  | some g => some (if g < c then c else g)
def fF (a : Nat) (t : Nat) (_ : Int32) : Nat := a ||| 2 ^ (t / 2 ^ (12 - 4 * (0 + 1)) % 16)
def fL (a : List (Nat × Int32)) (t : Nat) (c : Int32) : List (Nat × Int32) := a ++ [(t, c)]
theorem fF_lt (T C : Nat → Int32) (n : Nat) : fc fF 0 T C n < 65536 := by
  induction n with
  | zero => exact (by decide : 0 < 65536)
  | succ n ih => exact Nat.or_lt_two_pow (n := 16) ih (Nat.pow_lt_pow_right (by decide) (Nat.mod_lt _ (by decide)))
set_option maxHeartbeats 4000000 in
set_option maxRecDepth 100000 in
theorem lp_sum (l : Launch) (G : zG) {σ : zS} {q n : Nat} (hq : zrl q) (hn : σ.1 q 1 = nI n) (hn3 : n ≤ 300) : ∀ k i : Nat, i + k = n → zB l G w_Rel_sum R_Rel c_Rel_sum 4 (some .long) [] (zrm 0 0) (zR G (fun v σ' => v = some (.long (fc fS 0 (σ.1 (q + 1)) (σ.1 (q + 2)) n)) ∧ σ = σ') 0 0) 0 0 4 [(3, .int (nI i)), (1, .long (fc fS 0 (σ.1 (q + 1)) (σ.1 (q + 2)) i)), (0, .ref (zad G q))] [] σ := by
  intro k
  induction k with
  | zero =>
    intro i hi
    have e : i = n := by omega
    refine zb_iload_n d_Rel_sum_4 rfl rfl ?_
    refine zb_aload_n d_Rel_sum_5 rfl rfl ?_
    refine zr_size (q := q) d_Rel_sum_6 fl_Rel_22 hq ?_
    refine zb_top (y := nI n) (hn) ?_
    refine zb_icmp_ge (tgt := 28) d_Rel_sum_9 rfl (fun h9 => ?_) (fun h9 => absurd (nI_le (show n ≤ i by omega) (by omega)) h9)
    refine zb_lload_n d_Rel_sum_28 rfl rfl ?_
    exact zb_lret d_Rel_sum_29 rfl ⟨by rw [e], rfl⟩
  | succ k ih =>
    intro i hi
    have hlt : i < n := by omega
    refine zb_iload_n d_Rel_sum_4 rfl rfl ?_
    refine zb_aload_n d_Rel_sum_5 rfl rfl ?_
    refine zr_size (q := q) d_Rel_sum_6 fl_Rel_22 hq ?_
    refine zb_top (y := nI n) (hn) ?_
    refine zb_icmp_ge (tgt := 28) d_Rel_sum_9 rfl (fun h9 => absurd h9 (nI_ge (show i < n by omega) (by omega))) (fun h9 => ?_)
    refine zb_lload_n d_Rel_sum_12 rfl rfl ?_
    refine zb_aload_n d_Rel_sum_13 rfl rfl ?_
    refine zr_counts (q := q) d_Rel_sum_14 fl_Rel_15 hq ?_
    refine zb_iload_n d_Rel_sum_17 rfl rfl ?_
    refine zb_ialdN (q := q + 2) (j := i) d_Rel_sum_18 (hq.c) (by rw [hq.nc]; omega) ?_
    refine zb_i2l (v := (σ.1 (q + 2) i).toInt64) d_Rel_sum_19 rfl ?_
    refine zb_ladd d_Rel_sum_20 ?_
    refine zb_lstore_n (lv' := [(1, .long ((fc fS 0 (σ.1 (q + 1)) (σ.1 (q + 2)) i) + ((σ.1 (q + 2) i).toInt64))), (3, .int (nI i)), (0, .ref (zad G q))]) d_Rel_sum_21 rfl (by decide) rfl ?_
    refine zb_lv (lv' := [(1, .long (fc fS 0 (σ.1 (q + 1)) (σ.1 (q + 2)) (i + 1))), (3, .int (nI i)), (0, .ref (zad G q))]) (rfl) ?_
    refine zb_iinc (v := nI (i + 1)) (lv' := [(3, .int (nI (i + 1))), (1, .long (fc fS 0 (σ.1 (q + 1)) (σ.1 (q + 2)) (i + 1))), (0, .ref (zad G q))]) d_Rel_sum_22 rfl (nI_1 i) (by decide) rfl ?_
    refine zb_goto (tgt := 4) d_Rel_sum_25 rfl ?_
    refine zb_sub [0, 1, 2] rfl ?_
    exact ih (i + 1) (by omega)
set_option maxHeartbeats 4000000 in
set_option maxRecDepth 100000 in
/-- sum() -/
theorem c_sum (l : Launch) (G : zG) {σ : zS} {q n : Nat} (hq : zrl q) (hn : σ.1 q 1 = nI n) (hn3 : n ≤ 300) : zC l G y_Rel_sum w_Rel_sum (zrm 0 0) 0 0 [.ref (zad G q)] σ (fun v σ' => v = some (.long (fc fS 0 (σ.1 (q + 1)) (σ.1 (q + 2)) n)) ∧ σ = σ') := by
  refine zC_of (cc := c_Rel_sum) (nL := 4) (ret := (some .long)) (own := R_Rel) (by decide +kernel) rfl rfl (Nat.le_of_ble_eq_true rfl) ?_
  refine zb_lv (lv' := [(0, .ref (zad G q))]) rfl ?_
  refine zb_lconst (v := 0) d_Rel_sum_0 rfl ?_
  refine zb_lstore_n (lv' := [(1, .long 0), (0, .ref (zad G q))]) d_Rel_sum_1 rfl (by decide) rfl ?_
  refine zb_iconst (v := 0) d_Rel_sum_2 rfl ?_
  refine zb_istore_n (lv' := [(3, .int 0), (1, .long 0), (0, .ref (zad G q))]) d_Rel_sum_3 rfl (by decide) rfl ?_
  refine zb_sub [0, 1, 2] rfl ?_
  exact lp_sum l G hq hn hn3 n 0 (by omega)
set_option maxHeartbeats 4000000 in
set_option maxRecDepth 100000 in
theorem lp_greatest (l : Launch) (G : zG) {σ : zS} {q n : Nat} (hq : zrl q) (hn : σ.1 q 1 = nI n) (hn3 : n ≤ 300) : ∀ (k i : Nat) (g : Int32), i + k = n → fc fG none (σ.1 (q + 1)) (σ.1 (q + 2)) i = some g → zB l G w_Rel_greatest R_Rel c_Rel_greatest 3 (some .int) [] (zrm 1 20) (zR G (fun v σ' => v = some (.int ((fc fG none (σ.1 (q + 1)) (σ.1 (q + 2)) n).getD 0)) ∧ σ = σ') 0 0) 0 0 18 [(2, .int (nI i)), (1, .int g), (0, .ref (zad G q))] [] σ := by
  intro k
  induction k with
  | zero =>
    intro i g hi hg
    have e : i = n := by omega
    refine zb_iload_n d_Rel_greatest_18 rfl rfl ?_
    refine zb_aload_n d_Rel_greatest_19 rfl rfl ?_
    refine zr_size (q := q) d_Rel_greatest_20 fl_Rel_22 hq ?_
    refine zb_top (y := nI n) (hn) ?_
    refine zb_icmp_ge (tgt := 43) d_Rel_greatest_23 rfl (fun h23 => ?_) (fun h23 => absurd (nI_le (show n ≤ i by omega) (by omega)) h23)
    refine zb_iload_n d_Rel_greatest_43 rfl rfl ?_
    exact zb_iret d_Rel_greatest_44 rfl ⟨by rw [← e, hg]; rfl, rfl⟩
  | succ k ih =>
    intro i g hi hg
    have hlt : i < n := by omega
    refine zb_iload_n d_Rel_greatest_18 rfl rfl ?_
    refine zb_aload_n d_Rel_greatest_19 rfl rfl ?_
    refine zr_size (q := q) d_Rel_greatest_20 fl_Rel_22 hq ?_
    refine zb_top (y := nI n) (hn) ?_
    refine zb_icmp_ge (tgt := 43) d_Rel_greatest_23 rfl (fun h23 => absurd h23 (nI_ge (show i < n by omega) (by omega))) (fun h23 => ?_)
    refine zb_iload_n d_Rel_greatest_26 rfl rfl ?_
    refine zb_aload_n d_Rel_greatest_27 rfl rfl ?_
    refine zr_counts (q := q) d_Rel_greatest_28 fl_Rel_15 hq ?_
    refine zb_iload_n d_Rel_greatest_31 rfl rfl ?_
    refine zb_ialdN (q := q + 2) (j := i) d_Rel_greatest_32 (hq.c) (by rw [hq.nc]; omega) ?_
    refine zb_max lk_Rel_50.2.1 (Nat.le_of_ble_eq_true rfl) (Nat.le_of_ble_eq_true rfl) (Nat.le_refl _) (Nat.le_refl _) d_Rel_greatest_33 ?_
    refine zb_istore_n (lv' := [(1, .int (if g < σ.1 (q + 2) i then σ.1 (q + 2) i else g)), (2, .int (nI i)), (0, .ref (zad G q))]) d_Rel_greatest_36 rfl (by decide) rfl ?_
    refine zb_iinc (v := nI (i + 1)) (lv' := [(2, .int (nI (i + 1))), (1, .int (if g < σ.1 (q + 2) i then σ.1 (q + 2) i else g)), (0, .ref (zad G q))]) d_Rel_greatest_37 rfl (nI_1 i) (by decide) rfl ?_
    refine zb_goto (tgt := 18) d_Rel_greatest_40 rfl ?_
    refine zb_sub [0, 1, 2] rfl ?_
    exact ih (i + 1) _ (by omega) (by show fG (fc fG none (σ.1 (q + 1)) (σ.1 (q + 2)) i) _ _ = _; rw [hg]; rfl)
set_option maxHeartbeats 4000000 in
set_option maxRecDepth 100000 in
/-- greatest() -/
theorem c_greatest (l : Launch) (G : zG) {σ : zS} {q n : Nat} (hq : zrl q) (hn : σ.1 q 1 = nI n) (hn3 : n ≤ 300) : zC l G y_Rel_greatest w_Rel_greatest (zrm 1 20) 0 0 [.ref (zad G q)] σ (fun v σ' => v = some (.int ((fc fG none (σ.1 (q + 1)) (σ.1 (q + 2)) n).getD 0)) ∧ σ = σ') := by
  refine zC_of (cc := c_Rel_greatest) (nL := 3) (ret := (some .int)) (own := R_Rel) (by decide +kernel) rfl rfl (Nat.le_of_ble_eq_true rfl) ?_
  refine zb_lv (lv' := [(0, .ref (zad G q))]) rfl ?_
  refine zb_aload_n d_Rel_greatest_0 rfl rfl ?_
  refine zr_size (q := q) d_Rel_greatest_1 fl_Rel_22 hq ?_
  refine zb_top (y := nI n) (hn) ?_
  refine zb_if_ne (tgt := 9) d_Rel_greatest_4 rfl (fun h4 => ?_) (fun h4 => ?_)
  · have hn0 : 0 < n := Nat.pos_of_ne_zero (fun e => h4 (by rw [e]; rfl))
    refine zb_aload_n d_Rel_greatest_9 rfl rfl ?_
    refine zr_counts (q := q) d_Rel_greatest_10 fl_Rel_15 hq ?_
    refine zb_iconst (v := 0) d_Rel_greatest_13 rfl ?_
    refine zb_top (y := nI 0) (rfl) ?_
    refine zb_ialdN (q := q + 2) (j := 0) d_Rel_greatest_14 (hq.c) (by rw [hq.nc]; omega) ?_
    refine zb_istore_n (lv' := [(1, .int (σ.1 (q + 2) 0)), (0, .ref (zad G q))]) d_Rel_greatest_15 rfl (by decide) rfl ?_
    refine zb_iconst (v := 1) d_Rel_greatest_16 rfl ?_
    refine zb_istore_n (lv' := [(2, .int 1), (1, .int (σ.1 (q + 2) 0)), (0, .ref (zad G q))]) d_Rel_greatest_17 rfl (by decide) rfl ?_
    refine zb_sub [0, 1, 2] rfl ?_
    exact lp_greatest l G hq hn hn3 (n - 1) 1 _ (by omega) rfl
  · refine zb_iconst (v := 0) d_Rel_greatest_7 rfl ?_
    exact zb_iret d_Rel_greatest_8 rfl ⟨by rw [(nI_eq (by omega) (by decide)).mp (h4.trans nI_0.symm)]; rfl, rfl⟩
set_option maxHeartbeats 4000000 in
set_option maxRecDepth 100000 in
theorem lp_first (l : Launch) (G : zG) {σ : zS} {q n : Nat} {m : Nat → Int32} (hq : zrl q) (hn : σ.1 q 1 = nI n) (h : zp (σ.1 (q + 1)) (σ.1 (q + 2)) n m) : ∀ k i : Nat, i + k = n → zB l G w_Rel_firstNumbers R_Rel c_Rel_firstNumbers 3 (some .int) [] (zrm 2 60) (zR G (fun v σ' => v = some (.int (nI (pc16 (fc fF 0 (σ.1 (q + 1)) (σ.1 (q + 2)) n)))) ∧ σ = σ') 0 0) 0 0 4 [(2, .int (nI i)), (1, .int (nI (fc fF 0 (σ.1 (q + 1)) (σ.1 (q + 2)) i))), (0, .ref (zad G q))] [] σ := by
  have hn3 := h.1
  intro k
  induction k with
  | zero =>
    intro i hi
    have e : i = n := by omega
    refine zb_iload_n d_Rel_firstNumbers_4 rfl rfl ?_
    refine zb_aload_n d_Rel_firstNumbers_5 rfl rfl ?_
    refine zr_size (q := q) d_Rel_firstNumbers_6 fl_Rel_22 hq ?_
    refine zb_top (y := nI n) (hn) ?_
    refine zb_icmp_ge (tgt := 33) d_Rel_firstNumbers_9 rfl (fun h9 => ?_) (fun h9 => absurd (nI_le (show n ≤ i by omega) (by omega)) h9)
    refine zb_iload_n d_Rel_firstNumbers_33 rfl rfl ?_
    refine zb_callS (rest := []) (c_bitCount l G (fF_lt _ _ _)) (lk_Rel_45.cw rfl rfl ⟨Nat.le_of_ble_eq_true rfl, Nat.le_of_ble_eq_true rfl⟩) rfl rfl (Nat.le_of_ble_eq_true rfl) d_Rel_firstNumbers_34 ⟨Nat.le_of_ble_eq_true rfl, Nat.le_of_ble_eq_true rfl⟩ ?_
    rintro _ _ ⟨rfl, rfl⟩
    refine zb_st (st' := [.int (nI (pc16 (fc fF 0 (σ.1 (q + 1)) (σ.1 (q + 2)) i)))]) rfl ?_
    exact zb_iret d_Rel_firstNumbers_37 rfl ⟨by rw [e], rfl⟩
  | succ k ih =>
    intro i hi
    have hlt : i < n := by omega
    refine zb_iload_n d_Rel_firstNumbers_4 rfl rfl ?_
    refine zb_aload_n d_Rel_firstNumbers_5 rfl rfl ?_
    refine zr_size (q := q) d_Rel_firstNumbers_6 fl_Rel_22 hq ?_
    refine zb_top (y := nI n) (hn) ?_
    refine zb_icmp_ge (tgt := 33) d_Rel_firstNumbers_9 rfl (fun h9 => absurd h9 (nI_ge (show i < n by omega) (by omega))) (fun h9 => ?_)
    refine zb_iload_n d_Rel_firstNumbers_12 rfl rfl ?_
    refine zb_iconst (v := 1) d_Rel_firstNumbers_13 rfl ?_
    refine zb_aload_n d_Rel_firstNumbers_14 rfl rfl ?_
    refine zr_tuples (q := q) d_Rel_firstNumbers_15 fl_Rel_9 hq ?_
    refine zb_iload_n d_Rel_firstNumbers_18 rfl rfl ?_
    refine zb_ialdN (q := q + 1) (j := i) d_Rel_firstNumbers_19 (hq.t) (by rw [hq.nt]; omega) ?_
    refine zb_iconst (v := 0) d_Rel_firstNumbers_20 rfl ?_
    refine zb_st (st' := [.int (nI 0), .int (nI (zN (σ.1 (q + 1) i))), .int 1, .int (nI (fc fF 0 (σ.1 (q + 1)) (σ.1 (q + 2)) i))]) (by rw [← (h.2.1 i hlt).2]; rfl) ?_
    refine zb_callSN (rest := [.int 1, .int (nI (fc fF 0 (σ.1 (q + 1)) (σ.1 (q + 2)) i))]) (rm := zrm 1 20) (c_numberAt l G (t := zN (σ.1 (q + 1) i)) (p := 0) (h.2.1 i hlt).1 (by decide)) rfl rfl ⟨Nat.le_of_ble_eq_true rfl, Nat.le_of_ble_eq_true rfl⟩ rfl rfl rfl rfl (Nat.le_of_ble_eq_true rfl) d_Rel_firstNumbers_21 ⟨Nat.le_of_ble_eq_true rfl, Nat.le_of_ble_eq_true rfl⟩ ?_
    rintro _ _ ⟨rfl, rfl⟩
    refine zb_st (st' := [.int (nI (zN (σ.1 (q + 1) i) / 2 ^ (12 - 4 * (0 + 1)) % 16)), .int 1, .int (nI (fc fF 0 (σ.1 (q + 1)) (σ.1 (q + 2)) i))]) rfl ?_
    refine zb_ishl d_Rel_firstNumbers_24 ?_
    refine zb_top (y := nI (2 ^ (zN (σ.1 (q + 1) i) / 2 ^ (12 - 4 * (0 + 1)) % 16))) (nI_bit _ (Nat.mod_lt _ (by decide))) ?_
    refine zb_ior d_Rel_firstNumbers_25 ?_
    refine zb_top (y := nI (fc fF 0 (σ.1 (q + 1)) (σ.1 (q + 2)) (i + 1))) (nI_or _ _) ?_
    refine zb_istore_n (lv' := [(1, .int (nI (fc fF 0 (σ.1 (q + 1)) (σ.1 (q + 2)) (i + 1)))), (2, .int (nI i)), (0, .ref (zad G q))]) d_Rel_firstNumbers_26 rfl (by decide) rfl ?_
    refine zb_iinc (v := nI (i + 1)) (lv' := [(2, .int (nI (i + 1))), (1, .int (nI (fc fF 0 (σ.1 (q + 1)) (σ.1 (q + 2)) (i + 1)))), (0, .ref (zad G q))]) d_Rel_firstNumbers_27 rfl (nI_1 i) (by decide) rfl ?_
    refine zb_goto (tgt := 4) d_Rel_firstNumbers_30 rfl ?_
    refine zb_sub [0, 1, 2] rfl ?_
    exact ih (i + 1) (by omega)
set_option maxHeartbeats 4000000 in
set_option maxRecDepth 100000 in
/-- firstNumbers() -/
theorem c_firstNumbers (l : Launch) (G : zG) {σ : zS} {q n : Nat} {m : Nat → Int32} (hq : zrl q) (hn : σ.1 q 1 = nI n) (h : zp (σ.1 (q + 1)) (σ.1 (q + 2)) n m) : zC l G y_Rel_firstNumbers w_Rel_firstNumbers (zrm 2 60) 0 0 [.ref (zad G q)] σ (fun v σ' => v = some (.int (nI (pc16 (fc fF 0 (σ.1 (q + 1)) (σ.1 (q + 2)) n)))) ∧ σ = σ') := by
  refine zC_of (cc := c_Rel_firstNumbers) (nL := 3) (ret := (some .int)) (own := R_Rel) (by decide +kernel) rfl rfl (Nat.le_of_ble_eq_true rfl) ?_
  refine zb_lv (lv' := [(0, .ref (zad G q))]) rfl ?_
  refine zb_iconst (v := 0) d_Rel_firstNumbers_0 rfl ?_
  refine zb_istore_n (lv' := [(1, .int 0), (0, .ref (zad G q))]) d_Rel_firstNumbers_1 rfl (by decide) rfl ?_
  refine zb_iconst (v := 0) d_Rel_firstNumbers_2 rfl ?_
  refine zb_istore_n (lv' := [(2, .int 0), (1, .int 0), (0, .ref (zad G q))]) d_Rel_firstNumbers_3 rfl (by decide) rfl ?_
  refine zb_sub [0, 1, 2] rfl ?_
  exact lp_first l G hq hn h n 0 (by omega)
theorem fc_L (T C : Nat → Int32) (n : Nat) : fc fL [] T C n = (List.range n).map (fun i => (zN (T i), C i)) := by
  induction n with
  | zero => rfl
  | succ n ih => rw [List.range_succ, List.map_append, ← ih]; rfl
theorem zp_same {T C T2 C2 m m2 : Nat → Int32} {n n2 : Nat} (h : zp T C n m) (h2 : zp T2 C2 n2 m2) : m = m2 → n = n2 ∧ ∀ i, i < n → T i = T2 i ∧ C i = C2 i := by
  intro e
  subst e
  have en : n = n2 := (zct_eq h).symm.trans (zct_eq h2)
  subst en
  refine ⟨rfl, fun i hi => ?_⟩
  have el := (fm_eq fL [] h).symm.trans (fm_eq fL [] h2)
  rw [fc_L, fc_L] at el
  have ei : ((List.range n).map (fun i => (zN (T i), C i)))[i]? = ((List.range n).map (fun i => (zN (T2 i), C2 i)))[i]? := by rw [el]
  rw [List.getElem?_map, List.getElem?_map, List.getElem?_range hi] at ei
  have e2 := Prod.mk.inj (Option.some.inj ei)
  exact ⟨by rw [(h.2.1 i hi).2, (h2.2.1 i hi).2, e2.1], e2.2⟩
theorem zp_same2 {T C T2 C2 m m2 : Nat → Int32} {n : Nat} (h : zp T C n m) (h2 : zp T2 C2 n m2) (e : ∀ i, i < n → T i = T2 i ∧ C i = C2 i) : m = m2 := by
  funext t
  by_cases a : m t = 0
  · by_cases b : m2 t = 0
    · rw [a, b]
    · obtain ⟨i, hi, hit⟩ := h2.2.2.2.2 t b
      have h3 := h.2.2.2.1 i hi
      rw [(e i hi).1, hit, a] at h3
      exact absurd h3.2.symm h3.1
  · obtain ⟨i, hi, hit⟩ := h.2.2.2.2 t a
    have h3 := (h.2.2.2.1 i hi).2
    have h4 := (h2.2.2.2.1 i hi).2
    rw [← (e i hi).1, hit] at h4
    rw [hit] at h3
    rw [h3, h4]
    exact (e i hi).2
set_option maxHeartbeats 4000000 in
set_option maxRecDepth 100000 in
theorem lp_holdsWhat (l : Launch) (G : zG) {σ : zS} {q q2 n u u2 : Nat} {m m2 : Nat → Int32} (h : zr σ q n m) (h2 : zr σ q2 n m2) (hu : u = u2) : ∀ k i : Nat, i + k = n → (∀ j, j < i → σ.1 (q + 1) j = σ.1 (q2 + 1) j ∧ σ.1 (q + 2) j = σ.1 (q2 + 2) j) → zB l G w_Rel_holdsWhat R_Rel c_Rel_holdsWhat 3 (some .boolean) [] (zrm 0 0) (zR G (fun v σ' => ((u = u2 ∧ m = m2) → v = some (.int 1)) ∧ (¬ (u = u2 ∧ m = m2) → v = some (.int 0)) ∧ σ = σ') 0 0) 0 0 26 [(2, .int (nI i)), (0, .ref (zad G q)), (1, .ref (zad G q2))] [] σ := by
  have hn3 := h.2.2.1
  intro k
  induction k with
  | zero =>
    intro i hi ha
    have e : i = n := by omega
    refine zb_iload_n d_Rel_holdsWhat_26 rfl rfl ?_
    refine zb_aload_n d_Rel_holdsWhat_27 rfl rfl ?_
    refine zr_size (q := q) d_Rel_holdsWhat_28 fl_Rel_22 h.1 ?_
    refine zb_top (y := nI n) (h.2.1) ?_
    refine zb_icmp_ge (tgt := 72) d_Rel_holdsWhat_31 rfl (fun h31 => ?_) (fun h31 => absurd (nI_le (show n ≤ i by omega) (by omega)) h31)
    refine zb_iconst (v := 1) d_Rel_holdsWhat_72 rfl ?_
    exact zb_zret d_Rel_holdsWhat_73 rfl rfl ⟨fun _ => rfl, fun hh => absurd ⟨hu, zp_same2 h.2.2 h2.2.2 (by rw [← e]; exact ha)⟩ hh, rfl⟩
  | succ k ih =>
    intro i hi ha
    have hlt : i < n := by omega
    refine zb_iload_n d_Rel_holdsWhat_26 rfl rfl ?_
    refine zb_aload_n d_Rel_holdsWhat_27 rfl rfl ?_
    refine zr_size (q := q) d_Rel_holdsWhat_28 fl_Rel_22 h.1 ?_
    refine zb_top (y := nI n) (h.2.1) ?_
    refine zb_icmp_ge (tgt := 72) d_Rel_holdsWhat_31 rfl (fun h31 => absurd h31 (nI_ge (show i < n by omega) (by omega))) (fun h31 => ?_)
    refine zb_aload_n d_Rel_holdsWhat_34 rfl rfl ?_
    refine zr_tuples (q := q) d_Rel_holdsWhat_35 fl_Rel_9 h.1 ?_
    refine zb_iload_n d_Rel_holdsWhat_38 rfl rfl ?_
    refine zb_ialdN (q := q + 1) (j := i) d_Rel_holdsWhat_39 (h.1.t) (by rw [h.1.nt]; omega) ?_
    refine zb_aload_n d_Rel_holdsWhat_40 rfl rfl ?_
    refine zr_tuples (q := q2) d_Rel_holdsWhat_41 fl_Rel_9 h2.1 ?_
    refine zb_iload_n d_Rel_holdsWhat_44 rfl rfl ?_
    refine zb_ialdN (q := q2 + 1) (j := i) d_Rel_holdsWhat_45 (h2.1.t) (by rw [h2.1.nt]; omega) ?_
    refine zb_icmp_ne (tgt := 64) d_Rel_holdsWhat_46 rfl (fun h46 => ?_) (fun h46 => ?_)
    · refine zb_iconst (v := 0) d_Rel_holdsWhat_64 rfl ?_
      exact zb_zret d_Rel_holdsWhat_65 rfl rfl ⟨fun hh => absurd ((zp_same h.2.2 h2.2.2 hh.2).2 i (by omega)).1 h46, fun _ => rfl, rfl⟩
    · refine zb_aload_n d_Rel_holdsWhat_49 rfl rfl ?_
      refine zr_counts (q := q) d_Rel_holdsWhat_50 fl_Rel_15 h.1 ?_
      refine zb_iload_n d_Rel_holdsWhat_53 rfl rfl ?_
      refine zb_ialdN (q := q + 2) (j := i) d_Rel_holdsWhat_54 (h.1.c) (by rw [h.1.nc]; omega) ?_
      refine zb_aload_n d_Rel_holdsWhat_55 rfl rfl ?_
      refine zr_counts (q := q2) d_Rel_holdsWhat_56 fl_Rel_15 h2.1 ?_
      refine zb_iload_n d_Rel_holdsWhat_59 rfl rfl ?_
      refine zb_ialdN (q := q2 + 2) (j := i) d_Rel_holdsWhat_60 (h2.1.c) (by rw [h2.1.nc]; omega) ?_
      refine zb_icmp_eq (tgt := 66) d_Rel_holdsWhat_61 rfl (fun h61 => ?_) (fun h61 => ?_)
      · refine zb_iinc (v := nI (i + 1)) (lv' := [(2, .int (nI (i + 1))), (0, .ref (zad G q)), (1, .ref (zad G q2))]) d_Rel_holdsWhat_66 rfl (nI_1 i) (by decide) rfl ?_
        refine zb_goto (tgt := 26) d_Rel_holdsWhat_69 rfl ?_
        refine zb_sub [0, 1, 2] rfl ?_
        exact ih (i + 1) (by omega) (lt_s ha ⟨h46, h61⟩)
      · refine zb_iconst (v := 0) d_Rel_holdsWhat_64 rfl ?_
        exact zb_zret d_Rel_holdsWhat_65 rfl rfl ⟨fun hh => absurd ((zp_same h.2.2 h2.2.2 hh.2).2 i (by omega)).2 h61, fun _ => rfl, rfl⟩
set_option maxHeartbeats 4000000 in
set_option maxRecDepth 100000 in
/-- holdsWhat(other) -/
theorem c_holdsWhat (l : Launch) (G : zG) {σ : zS} {q q2 n n2 u u2 : Nat} {m m2 : Nat → Int32} (h : zr σ q n m) (h2 : zr σ q2 n2 m2) (hu : σ.1 q 0 = nI u) (hu2 : σ.1 q2 0 = nI u2) (hu3 : u ≤ 3) (hu4 : u2 ≤ 3) : zC l G y_Rel_holdsWhat w_Rel_holdsWhat (zrm 0 0) 0 0 [.ref (zad G q), .ref (zad G q2)] σ (fun v σ' => ((u = u2 ∧ m = m2) → v = some (.int 1)) ∧ (¬ (u = u2 ∧ m = m2) → v = some (.int 0)) ∧ σ = σ') := by
  have hn3 := h.2.2.1
  have hn4 := h2.2.2.1
  refine zC_of (cc := c_Rel_holdsWhat) (nL := 3) (ret := (some .boolean)) (own := R_Rel) (by decide +kernel) rfl rfl (Nat.le_of_ble_eq_true rfl) ?_
  refine zb_lv (lv' := [(0, .ref (zad G q)), (1, .ref (zad G q2))]) rfl ?_
  refine zb_aload_n d_Rel_holdsWhat_0 rfl rfl ?_
  refine zr_width (q := q) d_Rel_holdsWhat_1 fl_Rel_18 h.1 ?_
  refine zb_top (y := nI u) (hu) ?_
  refine zb_aload_n d_Rel_holdsWhat_4 rfl rfl ?_
  refine zr_width (q := q2) d_Rel_holdsWhat_5 fl_Rel_18 h2.1 ?_
  refine zb_top (y := nI u2) (hu2) ?_
  refine zb_icmp_ne (tgt := 22) d_Rel_holdsWhat_8 rfl (fun h8 => ?_) (fun h8 => ?_)
  · refine zb_iconst (v := 0) d_Rel_holdsWhat_22 rfl ?_
    exact zb_zret d_Rel_holdsWhat_23 rfl rfl ⟨fun hh => absurd (by rw [hh.1]) h8, fun _ => rfl, rfl⟩
  · refine zb_aload_n d_Rel_holdsWhat_11 rfl rfl ?_
    refine zr_size (q := q) d_Rel_holdsWhat_12 fl_Rel_22 h.1 ?_
    refine zb_top (y := nI n) (h.2.1) ?_
    refine zb_aload_n d_Rel_holdsWhat_15 rfl rfl ?_
    refine zr_size (q := q2) d_Rel_holdsWhat_16 fl_Rel_22 h2.1 ?_
    refine zb_top (y := nI n2) (h2.2.1) ?_
    refine zb_icmp_eq (tgt := 24) d_Rel_holdsWhat_19 rfl (fun h19 => ?_) (fun h19 => ?_)
    · have en : n = n2 := (nI_eq (by omega) (by omega)).mp h19
      subst en
      have eu : u = u2 := (nI_eq (by omega) (by omega)).mp h8
      refine zb_iconst (v := 0) d_Rel_holdsWhat_24 rfl ?_
      refine zb_istore_n (lv' := [(2, .int 0), (0, .ref (zad G q)), (1, .ref (zad G q2))]) d_Rel_holdsWhat_25 rfl (by decide) rfl ?_
      refine zb_sub [0, 1, 2] rfl ?_
      exact lp_holdsWhat l G h h2 eu n 0 (by omega) lt_0
    · refine zb_iconst (v := 0) d_Rel_holdsWhat_22 rfl ?_
      exact zb_zret d_Rel_holdsWhat_23 rfl rfl ⟨fun hh => absurd (by rw [(zp_same h.2.2 h2.2.2 hh.2).1]) h19, fun _ => rfl, rfl⟩
end
section
def nu (t p : Nat) : Nat := t / 2 ^ (12 - 4 * (p + 1)) % 16
def wn (x p : Nat) : Nat := x * 2 ^ (12 - 4 * (p + 1))
def nar (t mask : Nat) : Nat → Nat × Nat
  | 0 => (0, 0)
  | p + 1 => if mask / 2 ^ p % 2 = 1 then ((nar t mask p).1 ||| wn (nu t p) (nar t mask p).2, (nar t mask p).2 + 1) else nar t mask p
def tur (t w : Nat) : Nat → Nat
  | 0 => 0
  | p + 1 => tur t w p ||| wn (nu t p) (w - 1 - p)
theorem nar_le (t mask p : Nat) : (nar t mask p).2 ≤ p := by
  induction p with
  | zero => exact Nat.le_refl _
  | succ p ih =>
    unfold nar
    split
    · exact Nat.succ_le_succ ih
    · exact Nat.le_succ_of_le ih
theorem nu_lt (t p : Nat) : nu t p < 16 := Nat.mod_lt _ (by decide)
set_option maxHeartbeats 4000000 in
set_option maxRecDepth 100000 in
theorem lp_narrowed (l : Launch) (G : zG) {σ : zS} {t mask : Nat} (ht : t < 4096) (hm : mask < 8) : ∀ k i : Nat, i + k = 3 → zB l G w_Sh_narrowed R_Sh c_Sh_narrowed 5 (some .int) [] (zrm 2 50) (zR G (fun v σ' => v = some (.int (nI (nar t mask 3).1)) ∧ σ = σ') 0 0) 0 0 7 [(4, .int (nI i)), (3, .int (nI (nar t mask i).2)), (2, .int (nI (nar t mask i).1)), (0, .int (nI t)), (1, .int (nI mask))] [] σ := by
  intro k
  induction k with
  | zero =>
    intro i hi
    have e : i = 3 := by omega
    refine zb_iload d_Sh_narrowed_7 rfl ?_
    refine zb_iconst (v := 3) d_Sh_narrowed_9 rfl ?_
    refine zb_icmp_ge (tgt := 45) d_Sh_narrowed_10 rfl (fun h10 => ?_) (fun h10 => absurd (nI_le (a := 3) (b := i) (by omega) (by omega)) h10)
    refine zb_iload_n d_Sh_narrowed_45 rfl rfl ?_
    exact zb_iret d_Sh_narrowed_46 rfl ⟨by rw [e], rfl⟩
  | succ k ih =>
    intro i hi
    have hlt : i < 3 := by omega
    refine zb_iload d_Sh_narrowed_7 rfl ?_
    refine zb_iconst (v := 3) d_Sh_narrowed_9 rfl ?_
    refine zb_icmp_ge (tgt := 45) d_Sh_narrowed_10 rfl (fun h10 => absurd h10 (nI_ge (a := i) (b := 3) (by omega) (by omega))) (fun h10 => ?_)
    refine zb_iload_n d_Sh_narrowed_13 rfl rfl ?_
    refine zb_iload d_Sh_narrowed_14 rfl ?_
    refine zb_ishr d_Sh_narrowed_16 ?_
    refine zb_top (y := nI (mask / 2 ^ i)) (sh_r (by omega) (by omega)) ?_
    refine zb_iconst (v := 1) d_Sh_narrowed_17 rfl ?_
    refine zb_iand d_Sh_narrowed_18 ?_
    refine zb_top (y := nI (mask / 2 ^ i % 2)) (pk_andN (Nat.lt_of_le_of_lt (Nat.div_le_self _ _) (by omega)) 1 (by decide)) ?_
    refine zb_iconst (v := 1) d_Sh_narrowed_19 rfl ?_
    refine zb_icmp_ne (tgt := 39) d_Sh_narrowed_20 rfl (fun h20 => ?_) (fun h20 => ?_)
    · have hb : ¬ mask / 2 ^ i % 2 = 1 := fun e => h20 (by rw [e]; rfl)
      refine zb_iinc (v := nI (i + 1)) (lv' := [(4, .int (nI (i + 1))), (3, .int (nI (nar t mask i).2)), (2, .int (nI (nar t mask i).1)), (0, .int (nI t)), (1, .int (nI mask))]) d_Sh_narrowed_39 rfl (nI_1 i) (by decide) rfl ?_
      refine zb_goto (tgt := 7) d_Sh_narrowed_42 rfl ?_
      refine zb_sub [0, 1, 2, 3, 4] rfl ?_
      refine zb_lv (lv' := [(4, .int (nI (i + 1))), (3, .int (nI (nar t mask (i + 1)).2)), (2, .int (nI (nar t mask (i + 1)).1)), (0, .int (nI t)), (1, .int (nI mask))]) (by rw [nar, if_neg hb]; rfl) ?_
      exact ih (i + 1) (by omega)
    · have hb : mask / 2 ^ i % 2 = 1 := (nI_eq (by omega) (by decide)).mp h20
      refine zb_iload_n d_Sh_narrowed_23 rfl rfl ?_
      refine zb_iload_n d_Sh_narrowed_24 rfl rfl ?_
      refine zb_iload d_Sh_narrowed_25 rfl ?_
      refine zb_callS (rest := [.int (nI (nar t mask i).1)]) (c_numberAt l G ht hlt) (lk_Sh_85.cw rfl rfl ⟨Nat.le_of_ble_eq_true rfl, Nat.le_of_ble_eq_true rfl⟩) rfl rfl (Nat.le_of_ble_eq_true rfl) d_Sh_narrowed_27 ⟨Nat.le_of_ble_eq_true rfl, Nat.le_of_ble_eq_true rfl⟩ ?_
      rintro _ _ ⟨rfl, rfl⟩
      refine zb_st (st' := [.int (nI (nu t i)), .int (nI (nar t mask i).1)]) rfl ?_
      refine zb_iload_n d_Sh_narrowed_30 rfl rfl ?_
      refine zb_callS (rest := [.int (nI (nar t mask i).1)]) (c_withNumber l G (nu_lt t i) (Nat.lt_of_le_of_lt (nar_le t mask i) hlt)) (lk_Sh_102.cw rfl rfl ⟨Nat.le_of_ble_eq_true rfl, Nat.le_of_ble_eq_true rfl⟩) rfl rfl (Nat.le_of_ble_eq_true rfl) d_Sh_narrowed_31 ⟨Nat.le_of_ble_eq_true rfl, Nat.le_of_ble_eq_true rfl⟩ ?_
      rintro _ _ ⟨rfl, rfl⟩
      refine zb_st (st' := [.int (nI (wn (nu t i) (nar t mask i).2)), .int (nI (nar t mask i).1)]) rfl ?_
      refine zb_ior d_Sh_narrowed_34 ?_
      refine zb_top (y := nI ((nar t mask i).1 ||| wn (nu t i) (nar t mask i).2)) (nI_or _ _) ?_
      refine zb_istore_n (lv' := [(2, .int (nI ((nar t mask i).1 ||| wn (nu t i) (nar t mask i).2))), (4, .int (nI i)), (3, .int (nI (nar t mask i).2)), (0, .int (nI t)), (1, .int (nI mask))]) d_Sh_narrowed_35 rfl (by decide) rfl ?_
      refine zb_iinc (v := nI ((nar t mask i).2 + 1)) (lv' := [(3, .int (nI ((nar t mask i).2 + 1))), (2, .int (nI ((nar t mask i).1 ||| wn (nu t i) (nar t mask i).2))), (4, .int (nI i)), (0, .int (nI t)), (1, .int (nI mask))]) d_Sh_narrowed_36 rfl (nI_1 _) (by decide) rfl ?_
      refine zb_iinc (v := nI (i + 1)) (lv' := [(4, .int (nI (i + 1))), (3, .int (nI ((nar t mask i).2 + 1))), (2, .int (nI ((nar t mask i).1 ||| wn (nu t i) (nar t mask i).2))), (0, .int (nI t)), (1, .int (nI mask))]) d_Sh_narrowed_39 rfl (nI_1 i) (by decide) rfl ?_
      refine zb_goto (tgt := 7) d_Sh_narrowed_42 rfl ?_
      refine zb_sub [0, 1, 2, 3, 4] rfl ?_
      refine zb_lv (lv' := [(4, .int (nI (i + 1))), (3, .int (nI (nar t mask (i + 1)).2)), (2, .int (nI (nar t mask (i + 1)).1)), (0, .int (nI t)), (1, .int (nI mask))]) (by rw [nar, if_pos hb]; rfl) ?_
      exact ih (i + 1) (by omega)
set_option maxHeartbeats 4000000 in
set_option maxRecDepth 100000 in
/-- narrowed(t, mask) -/
theorem c_narrowed (l : Launch) (G : zG) {σ : zS} {t mask : Nat} (ht : t < 4096) (hm : mask < 8) : zC l G y_Sh_narrowed w_Sh_narrowed (zrm 2 50) 0 0 [.int (nI t), .int (nI mask)] σ (fun v σ' => v = some (.int (nI (nar t mask 3).1)) ∧ σ = σ') := by
  refine zC_of (cc := c_Sh_narrowed) (nL := 5) (ret := (some .int)) (own := R_Sh) (by decide +kernel) rfl rfl (Nat.le_of_ble_eq_true rfl) ?_
  refine zb_lv (lv' := [(0, .int (nI t)), (1, .int (nI mask))]) rfl ?_
  refine zb_iconst (v := 0) d_Sh_narrowed_0 rfl ?_
  refine zb_istore_n (lv' := [(2, .int 0), (0, .int (nI t)), (1, .int (nI mask))]) d_Sh_narrowed_1 rfl (by decide) rfl ?_
  refine zb_iconst (v := 0) d_Sh_narrowed_2 rfl ?_
  refine zb_istore_n (lv' := [(3, .int 0), (2, .int 0), (0, .int (nI t)), (1, .int (nI mask))]) d_Sh_narrowed_3 rfl (by decide) rfl ?_
  refine zb_iconst (v := 0) d_Sh_narrowed_4 rfl ?_
  refine zb_istore (lv' := [(4, .int 0), (3, .int 0), (2, .int 0), (0, .int (nI t)), (1, .int (nI mask))]) d_Sh_narrowed_5 (by decide) rfl ?_
  refine zb_sub [0, 1, 2, 3, 4] rfl ?_
  exact lp_narrowed l G ht hm 3 0 rfl
set_option maxHeartbeats 4000000 in
set_option maxRecDepth 100000 in
theorem lp_turned (l : Launch) (G : zG) {σ : zS} {t w : Nat} (ht : t < 4096) (hw : w ≤ 3) : ∀ k i : Nat, i + k = w → zB l G w_Sh_turned R_Sh c_Sh_turned 4 (some .int) [] (zrm 2 50) (zR G (fun v σ' => v = some (.int (nI (tur t w w))) ∧ σ = σ') 0 0) 0 0 4 [(3, .int (nI i)), (2, .int (nI (tur t w i))), (0, .int (nI t)), (1, .int (nI w))] [] σ := by
  intro k
  induction k with
  | zero =>
    intro i hi
    have e : i = w := by omega
    refine zb_iload_n d_Sh_turned_4 rfl rfl ?_
    refine zb_iload_n d_Sh_turned_5 rfl rfl ?_
    refine zb_icmp_ge (tgt := 31) d_Sh_turned_6 rfl (fun h6 => ?_) (fun h6 => absurd (nI_le (a := w) (b := i) (by omega) (by omega)) h6)
    refine zb_iload_n d_Sh_turned_31 rfl rfl ?_
    exact zb_iret d_Sh_turned_32 rfl ⟨by rw [e], rfl⟩
  | succ k ih =>
    intro i hi
    have hlt : i < w := by omega
    refine zb_iload_n d_Sh_turned_4 rfl rfl ?_
    refine zb_iload_n d_Sh_turned_5 rfl rfl ?_
    refine zb_icmp_ge (tgt := 31) d_Sh_turned_6 rfl (fun h6 => absurd h6 (nI_ge (a := i) (b := w) (by omega) (by omega))) (fun h6 => ?_)
    refine zb_iload_n d_Sh_turned_9 rfl rfl ?_
    refine zb_iload_n d_Sh_turned_10 rfl rfl ?_
    refine zb_iload_n d_Sh_turned_11 rfl rfl ?_
    refine zb_callS (rest := [.int (nI (tur t w i))]) (c_numberAt l G ht (show i < 3 by omega)) (lk_Sh_85.cw rfl rfl ⟨Nat.le_of_ble_eq_true rfl, Nat.le_of_ble_eq_true rfl⟩) rfl rfl (Nat.le_of_ble_eq_true rfl) d_Sh_turned_12 ⟨Nat.le_of_ble_eq_true rfl, Nat.le_of_ble_eq_true rfl⟩ ?_
    rintro _ _ ⟨rfl, rfl⟩
    refine zb_st (st' := [.int (nI (nu t i)), .int (nI (tur t w i))]) rfl ?_
    refine zb_iload_n d_Sh_turned_15 rfl rfl ?_
    refine zb_iconst (v := 1) d_Sh_turned_16 rfl ?_
    refine zb_isub d_Sh_turned_17 ?_
    refine zb_top (y := nI (w - 1)) (pk_sub (a := w) (b := 1) (by omega)) ?_
    refine zb_iload_n d_Sh_turned_18 rfl rfl ?_
    refine zb_isub d_Sh_turned_19 ?_
    refine zb_top (y := nI (w - 1 - i)) (pk_sub (by omega)) ?_
    refine zb_callS (rest := [.int (nI (tur t w i))]) (c_withNumber l G (nu_lt t i) (show w - 1 - i < 3 by omega)) (lk_Sh_102.cw rfl rfl ⟨Nat.le_of_ble_eq_true rfl, Nat.le_of_ble_eq_true rfl⟩) rfl rfl (Nat.le_of_ble_eq_true rfl) d_Sh_turned_20 ⟨Nat.le_of_ble_eq_true rfl, Nat.le_of_ble_eq_true rfl⟩ ?_
    rintro _ _ ⟨rfl, rfl⟩
    refine zb_st (st' := [.int (nI (wn (nu t i) (w - 1 - i))), .int (nI (tur t w i))]) rfl ?_
    refine zb_ior d_Sh_turned_23 ?_
    refine zb_top (y := nI (tur t w (i + 1))) (nI_or _ _) ?_
    refine zb_istore_n (lv' := [(2, .int (nI (tur t w (i + 1)))), (3, .int (nI i)), (0, .int (nI t)), (1, .int (nI w))]) d_Sh_turned_24 rfl (by decide) rfl ?_
    refine zb_iinc (v := nI (i + 1)) (lv' := [(3, .int (nI (i + 1))), (2, .int (nI (tur t w (i + 1)))), (0, .int (nI t)), (1, .int (nI w))]) d_Sh_turned_25 rfl (nI_1 i) (by decide) rfl ?_
    refine zb_goto (tgt := 4) d_Sh_turned_28 rfl ?_
    refine zb_sub [0, 1, 2, 3] rfl ?_
    exact ih (i + 1) (by omega)
set_option maxHeartbeats 4000000 in
set_option maxRecDepth 100000 in
/-- turned(t, w) -/
theorem c_turned (l : Launch) (G : zG) {σ : zS} {t w : Nat} (ht : t < 4096) (hw : w ≤ 3) : zC l G y_Sh_turned w_Sh_turned (zrm 2 50) 0 0 [.int (nI t), .int (nI w)] σ (fun v σ' => v = some (.int (nI (tur t w w))) ∧ σ = σ') := by
  refine zC_of (cc := c_Sh_turned) (nL := 4) (ret := (some .int)) (own := R_Sh) (by decide +kernel) rfl rfl (Nat.le_of_ble_eq_true rfl) ?_
  refine zb_lv (lv' := [(0, .int (nI t)), (1, .int (nI w))]) rfl ?_
  refine zb_iconst (v := 0) d_Sh_turned_0 rfl ?_
  refine zb_istore_n (lv' := [(2, .int 0), (0, .int (nI t)), (1, .int (nI w))]) d_Sh_turned_1 rfl (by decide) rfl ?_
  refine zb_iconst (v := 0) d_Sh_turned_2 rfl ?_
  refine zb_istore_n (lv' := [(3, .int 0), (2, .int 0), (0, .int (nI t)), (1, .int (nI w))]) d_Sh_turned_3 rfl (by decide) rfl ?_
  refine zb_sub [0, 1, 2, 3] rfl ?_
  exact lp_turned l G ht hw w 0 (by omega)
def alt (op : Nat) (a b : Int32) : Int32 := if op = 0 then a + b else if op = 1 then a - b else if op = 2 then (if b = 0 then 0 else a) else if op = 3 then (if b = 0 then a else 0) else if op = 4 then (if a = 0 ∧ b = 0 then 0 else 1) else if a = 0 ∨ b = 0 then 0 else if b < a then b else a
set_option maxHeartbeats 4000000 in
set_option maxRecDepth 100000 in
/-- altered(op, a, b) -/
theorem c_altered (l : Launch) (G : zG) {σ : zS} {op : Nat} {a b : Int32} (ho : op < 6) : zC l G y_Sh_altered w_Sh_altered (zrm 1 20) 0 0 [.int (nI op), .int a, .int b] σ (fun v σ' => v = some (.int (alt op a b)) ∧ σ = σ') := by
  refine zC_of (cc := c_Sh_altered) (nL := 3) (ret := (some .int)) (own := R_Sh) (by decide +kernel) rfl rfl (Nat.le_of_ble_eq_true rfl) ?_
  rcases (show op = 0 ∨ op = 1 ∨ op = 2 ∨ op = 3 ∨ op = 4 ∨ op = 5 by omega) with rfl | rfl | rfl | rfl | rfl | rfl
  · refine zb_lv (lv' := [(0, .int (nI 0)), (1, .int a), (2, .int b)]) rfl ?_
    refine zb_iload_n d_Sh_altered_0 rfl rfl ?_
    refine zb_tableIn (tgt := 36) d_Sh_altered_1 (by decide) (by decide) rfl rfl ?_
    refine zb_iload_n d_Sh_altered_36 rfl rfl ?_
    refine zb_iload_n d_Sh_altered_37 rfl rfl ?_
    refine zb_iadd d_Sh_altered_38 ?_
    exact zb_iret d_Sh_altered_39 rfl ⟨by simp [alt], rfl⟩
  · refine zb_lv (lv' := [(0, .int (nI 1)), (1, .int a), (2, .int b)]) rfl ?_
    refine zb_iload_n d_Sh_altered_0 rfl rfl ?_
    refine zb_tableIn (tgt := 40) d_Sh_altered_1 (by decide) (by decide) rfl rfl ?_
    refine zb_iload_n d_Sh_altered_40 rfl rfl ?_
    refine zb_iload_n d_Sh_altered_41 rfl rfl ?_
    refine zb_isub d_Sh_altered_42 ?_
    exact zb_iret d_Sh_altered_43 rfl ⟨by simp [alt], rfl⟩
  · refine zb_lv (lv' := [(0, .int (nI 2)), (1, .int a), (2, .int b)]) rfl ?_
    refine zb_iload_n d_Sh_altered_0 rfl rfl ?_
    refine zb_tableIn (tgt := 44) d_Sh_altered_1 (by decide) (by decide) rfl rfl ?_
    refine zb_iload_n d_Sh_altered_44 rfl rfl ?_
    refine zb_if_eq (tgt := 52) d_Sh_altered_45 rfl (fun h45 => ?_) (fun h45 => ?_)
    · refine zb_iconst (v := 0) d_Sh_altered_52 rfl ?_
      exact zb_iret d_Sh_altered_53 rfl ⟨by simp [alt, h45], rfl⟩
    · refine zb_iload_n d_Sh_altered_48 rfl rfl ?_
      refine zb_goto (tgt := 53) d_Sh_altered_49 rfl ?_
      exact zb_iret d_Sh_altered_53 rfl ⟨by simp [alt, h45], rfl⟩
  · refine zb_lv (lv' := [(0, .int (nI 3)), (1, .int a), (2, .int b)]) rfl ?_
    refine zb_iload_n d_Sh_altered_0 rfl rfl ?_
    refine zb_tableIn (tgt := 54) d_Sh_altered_1 (by decide) (by decide) rfl rfl ?_
    refine zb_iload_n d_Sh_altered_54 rfl rfl ?_
    refine zb_if_ne (tgt := 62) d_Sh_altered_55 rfl (fun h55 => ?_) (fun h55 => ?_)
    · refine zb_iconst (v := 0) d_Sh_altered_62 rfl ?_
      exact zb_iret d_Sh_altered_63 rfl ⟨by simp [alt, h55], rfl⟩
    · refine zb_iload_n d_Sh_altered_58 rfl rfl ?_
      refine zb_goto (tgt := 63) d_Sh_altered_59 rfl ?_
      exact zb_iret d_Sh_altered_63 rfl ⟨by simp [alt, h55], rfl⟩
  · refine zb_lv (lv' := [(0, .int (nI 4)), (1, .int a), (2, .int b)]) rfl ?_
    refine zb_iload_n d_Sh_altered_0 rfl rfl ?_
    refine zb_tableIn (tgt := 64) d_Sh_altered_1 (by decide) (by decide) rfl rfl ?_
    refine zb_iload_n d_Sh_altered_64 rfl rfl ?_
    refine zb_if_ne (tgt := 72) d_Sh_altered_65 rfl (fun h65 => ?_) (fun h65 => ?_)
    · refine zb_iconst (v := 1) d_Sh_altered_72 rfl ?_
      refine zb_goto (tgt := 77) d_Sh_altered_73 rfl ?_
      exact zb_iret d_Sh_altered_77 rfl ⟨by simp [alt, h65], rfl⟩
    · refine zb_iload_n d_Sh_altered_68 rfl rfl ?_
      refine zb_if_eq (tgt := 76) d_Sh_altered_69 rfl (fun h69 => ?_) (fun h69 => ?_)
      · refine zb_iconst (v := 0) d_Sh_altered_76 rfl ?_
        exact zb_iret d_Sh_altered_77 rfl ⟨by simp [alt, h65, h69], rfl⟩
      · refine zb_iconst (v := 1) d_Sh_altered_72 rfl ?_
        refine zb_goto (tgt := 77) d_Sh_altered_73 rfl ?_
        exact zb_iret d_Sh_altered_77 rfl ⟨by simp [alt, h65, h69], rfl⟩
  · refine zb_lv (lv' := [(0, .int (nI 5)), (1, .int a), (2, .int b)]) rfl ?_
    refine zb_iload_n d_Sh_altered_0 rfl rfl ?_
    refine zb_tableOut (tgt := 78) d_Sh_altered_1 (by decide) rfl ?_
    refine zb_iload_n d_Sh_altered_78 rfl rfl ?_
    refine zb_if_eq (tgt := 94) d_Sh_altered_79 rfl (fun h79 => ?_) (fun h79 => ?_)
    · refine zb_iconst (v := 0) d_Sh_altered_94 rfl ?_
      exact zb_iret d_Sh_altered_95 rfl ⟨by simp [alt, h79], rfl⟩
    · refine zb_iload_n d_Sh_altered_82 rfl rfl ?_
      refine zb_if_eq (tgt := 94) d_Sh_altered_83 rfl (fun h83 => ?_) (fun h83 => ?_)
      · refine zb_iconst (v := 0) d_Sh_altered_94 rfl ?_
        exact zb_iret d_Sh_altered_95 rfl ⟨by simp [alt, h79, h83], rfl⟩
      · refine zb_iload_n d_Sh_altered_86 rfl rfl ?_
        refine zb_iload_n d_Sh_altered_87 rfl rfl ?_
        refine zb_min lk_Sh_138.2.1 (Nat.le_of_ble_eq_true rfl) (Nat.le_of_ble_eq_true rfl) (Nat.le_refl _) (Nat.le_refl _) d_Sh_altered_88 ?_
        refine zb_goto (tgt := 95) d_Sh_altered_91 rfl ?_
        exact zb_iret d_Sh_altered_95 rfl ⟨by simp [alt, h79, h83], rfl⟩
set_option maxHeartbeats 4000000 in
set_option maxRecDepth 100000 in
/-- isReached(x, y) -/
theorem c_isReached (l : Launch) (G : zG) {σ : zS} {x y : Nat} {R : Nat → Nat} (hx : x < 16) (hy : y < 16) (hR : σ.1 29 x = nI (R x)) (hR2 : R x < 65536) : zC l G y_Sh_isReached w_Sh_isReached (zrm 0 0) 0 0 [.ref (zad G 0), .int (nI x), .int (nI y)] σ (fun v σ' => v = some (.int (if R x / 2 ^ y % 2 = 1 then 1 else 0)) ∧ σ = σ') := by
  refine zC_of (cc := c_Sh_isReached) (nL := 3) (ret := (some .boolean)) (own := R_Sh) (by decide +kernel) rfl rfl (Nat.le_of_ble_eq_true rfl) ?_
  refine zb_lv (lv' := [(0, .ref (zad G 0)), (1, .int (nI x)), (2, .int (nI y))]) rfl ?_
  refine zb_aload_n d_Sh_isReached_0 rfl rfl ?_
  refine zs_reached d_Sh_isReached_1 fl_Sh_20 ?_
  refine zb_iload_n d_Sh_isReached_4 rfl rfl ?_
  refine zb_ialdN (q := 29) (j := x) d_Sh_isReached_5 (by unfold zia; omega) (by show x < 16; omega) ?_
  refine zb_top (y := nI (R x)) (hR) ?_
  refine zb_iload_n d_Sh_isReached_6 rfl rfl ?_
  refine zb_ishr d_Sh_isReached_7 ?_
  refine zb_top (y := nI (R x / 2 ^ y)) (sh_r (by omega) (by omega)) ?_
  refine zb_iconst (v := 1) d_Sh_isReached_8 rfl ?_
  refine zb_iand d_Sh_isReached_9 ?_
  refine zb_top (y := nI (R x / 2 ^ y % 2)) (pk_andN (Nat.lt_of_le_of_lt (Nat.div_le_self _ _) (by omega)) 1 (by decide)) ?_
  refine zb_iconst (v := 1) d_Sh_isReached_10 rfl ?_
  refine zb_icmp_ne (tgt := 18) d_Sh_isReached_11 rfl (fun h11 => ?_) (fun h11 => ?_)
  · refine zb_iconst (v := 0) d_Sh_isReached_18 rfl ?_
    exact zb_zret d_Sh_isReached_19 rfl rfl ⟨by rw [if_neg (fun e => h11 (by rw [e]; rfl))], rfl⟩
  · refine zb_iconst (v := 1) d_Sh_isReached_14 rfl ?_
    refine zb_goto (tgt := 19) d_Sh_isReached_15 rfl ?_
    exact zb_zret d_Sh_isReached_19 rfl rfl ⟨by rw [if_pos ((nI_eq (by omega) (by decide)).mp h11)], rfl⟩
end
section
theorem zct_upd (m : Nat → Int32) (t : Nat) (x : Int32) (k : Nat) : zct (upd m t x) k ≤ zct m k + (if t < k then 1 else 0) := by
  induction k with
  | zero => exact Nat.zero_le _
  | succ k ih =>
    unfold zct at ih ⊢
    by_cases e : k = t
    · subst e
      rw [if_neg (Nat.lt_irrefl _)] at ih
      rw [if_pos (Nat.lt_succ_self _)]
      simp only [fm]
      split <;> split <;> omega
    · have e2 : (if t < k + 1 then 1 else 0) = (if t < k then 1 else 0) := by
        by_cases z : t < k
        · rw [if_pos z, if_pos (Nat.lt_succ_of_lt z)]
        · rw [if_neg z, if_neg (by omega)]
      rw [e2]
      simp only [fm, pk_un e]
      split <;> omega
theorem zr_up {σ τ : zS} {q n n2 : Nat} {m : Nat → Int32} {t : Nat} {x : Int32} (h : zr σ q n m) (h2 : zr τ q n2 (upd m t x)) : n2 ≤ n + 1 := by
  rw [← zct_eq h.2.2, ← zct_eq h2.2.2]
  refine Nat.le_trans (zct_upd m t x 4096) ?_
  split <;> omega
def fB (g : Nat → Nat) (a : Nat → Int32) (t : Nat) (c : Int32) : Nat → Int32 := upd a (g t) (a (g t) + c)
def fP (p v : Nat) (a : Nat → Int32) (t : Nat) (c : Int32) : Nat → Int32 := if nu t p = v then upd a t (a t + c) else a
/-- at the end: the spare relation becomes relation r -/
theorem zfin {σ τ σ' : zS} {M : Nat → Nat → Int32} {w : Nat → Nat} {r u n : Nat} {m' : Nat → Int32} {v : Option Value} (hw : zwf σ M w) (hk : zk σ τ) (hf : ∀ k, k ≠ zN (σ.1 0 0) → k ≠ zN (σ.1 0 0) + 1 → k ≠ zN (σ.1 0 0) + 2 → k ≤ 28 → τ.1 k = σ.1 k) (hr : r < 8) (hu : τ.1 (zN (σ.1 0 0)) 0 = nI u) (h1 : 1 ≤ u) (h3 : u ≤ 3) (hz : zr τ (zN (σ.1 0 0)) n m') (ht : ∀ t, m' t ≠ 0 → t % 2 ^ (12 - 4 * u) = 0)
    (hv : v = some (.int (τ.1 (zN (τ.1 0 0)) 1)) ∧ σ'.1 0 0 = nI (zN (τ.1 1 r)) ∧ σ'.1 1 = upd (τ.1 1) r (nI (zN (τ.1 0 0))) ∧ (∀ q, q ≠ 0 → q ≠ 1 → σ'.1 q = τ.1 q) ∧ σ'.2 = τ.2) : v = some (.int (nI (zct m' 4096))) ∧ zwf σ' (uM M r m') (uM w r u) ∧ zk σ σ' := by
  have hs := hw.sp
  have e0 : τ.1 0 = σ.1 0 := hf 0 (by have := hs.1; omega) (by omega) (by omega) (by omega)
  obtain ⟨v1, v2, v3, v4, v5⟩ := hv
  rw [e0] at v1 v3
  refine ⟨by rw [v1, hz.2.1, zct_eq hz.2.2], zwf_swap (zwf_spare hw hf) hr (by rw [e0]; exact ⟨hu, h1, h3, ⟨n, hz⟩, ht⟩) v2 (by rw [e0]; exact v3) v4, hk.tr ⟨fun q hq => v4 q (by omega) (by omega), v5⟩⟩
theorem zf_start {σ : zS} {q : Nat} {x : Int32} : ∀ k, k ≠ q → k ≠ q + 1 → k ≠ q + 2 → k ≤ 28 → (zu (zu σ q (upd (σ.1 q) 0 x)) q (upd ((zu σ q (upd (σ.1 q) 0 x)).1 q) 1 0)).1 k = σ.1 k := fun k h _ _ _ => by simp [zu, h]
abbrev zst (σ : zS) (q : Nat) (x : Int32) : zS := zu (zu σ q (upd (σ.1 q) 0 x)) q (upd ((zu σ q (upd (σ.1 q) 0 x)).1 q) 1 0)
theorem zst_0 (σ : zS) (q : Nat) (x : Int32) : (zst σ q x).1 q 0 = x := by simp [zu, upd]
theorem zst_k (σ : zS) {q : Nat} (x : Int32) (h : zrl q) : zk σ (zst σ q x) := (zk_zu σ _ h.l30).tr (zk_zu _ _ h.l30)
theorem zst_n (σ : zS) {q k : Nat} (x : Int32) (h : k ≠ q) : (zst σ q x).1 k = σ.1 k := by simp [zu, h]
theorem wn_lt {x : Nat} (p : Nat) (h : x < 16) : wn x p < 4096 := by
  have h1 : 2 ^ (12 - 4 * (p + 1)) ≤ 2 ^ 8 := Nat.pow_le_pow_right (by decide) (by omega)
  have h2 : x * 2 ^ (12 - 4 * (p + 1)) ≤ 15 * 2 ^ 8 := Nat.mul_le_mul (by omega) h1
  unfold wn
  omega
theorem tur_lt (u t p : Nat) : tur t u p < 4096 := by
  induction p with
  | zero => exact (by decide : 0 < 4096)
  | succ p ih => exact Nat.or_lt_two_pow (n := 12) ih (wn_lt _ (nu_lt t p))
theorem nar_lt (t mask p : Nat) : (nar t mask p).1 < 4096 := by
  induction p with
  | zero => exact (by decide : 0 < 4096)
  | succ p ih =>
    unfold nar
    split
    · exact Nat.or_lt_two_pow (n := 12) ih (wn_lt _ (nu_lt t p))
    · exact ih
set_option maxHeartbeats 4000000 in
set_option maxRecDepth 100000 in
theorem lp_turn (l : Launch) (G : zG) {σ : zS} {q s n u : Nat} {m : Nat → Int32} (hs : zrl s) (hqs : q ≠ s) (h0 : σ.1 0 0 = nI s) (h : zr σ q n m) {r : Nat} {ya : Int32} {Fin : List Frame → Array Value → State → State → Prop} (hu : u ≤ 3) (hu0 : σ.1 q 0 = nI u) (K : ∀ (τ : zS) (ns : Nat), zf σ τ s → zr τ s ns (fc (fB (fun t => tur t u u)) (fun _ => 0) (σ.1 (q + 1)) (σ.1 (q + 2)) n) → zB l G w_Sh_turn R_Sh c_Sh_turn 5 (some .int) [] (zrz 8 150 2) Fin 2 12 68 [(4, .int (nI n)), (0, .ref (zad G 0)), (1, .int (nI r)), (2, .int ya), (3, .ref (zad G q))] [] τ) : ∀ (k i : Nat) (τ : zS) (ns : Nat), i + k = n → zf σ τ s → zr τ s ns (fc (fB (fun t => tur t u u)) (fun _ => 0) (σ.1 (q + 1)) (σ.1 (q + 2)) i) → ns ≤ i → zB l G w_Sh_turn R_Sh c_Sh_turn 5 (some .int) [] (zrz 8 150 2) Fin 2 12 24 [(4, .int (nI i)), (0, .ref (zad G 0)), (1, .int (nI r)), (2, .int ya), (3, .ref (zad G q))] [] τ := by
  intro k
  induction k with
  | zero =>
    intro i τ ns hi hf hz hns
    have e : i = n := by omega
    have hq := h.1
    have ap := hq.apart hs hqs
    have hp := h.2.2
    have hn3 := hp.1
    have z0 : (0 : Nat) ≠ s ∧ (0 : Nat) ≠ s + 1 ∧ (0 : Nat) ≠ s + 2 := by have := hs.1; omega
    have hs31 : s < 2 ^ 31 := by have := hs.lt; omega
    have e0 : τ.1 0 0 = nI s := by rw [hf.1 0 z0.1 z0.2.1 z0.2.2]; exact h0
    have eq0 : τ.1 q = σ.1 q := hf.1 q ap.1 ap.2.1 ap.2.2.1
    have eq1 : τ.1 (q + 1) = σ.1 (q + 1) := hf.1 _ ap.2.2.2.1 ap.2.2.2.2.1 ap.2.2.2.2.2.1
    have eq2 : τ.1 (q + 2) = σ.1 (q + 2) := hf.1 _ ap.2.2.2.2.2.2.1 ap.2.2.2.2.2.2.2.1 ap.2.2.2.2.2.2.2.2
    refine zb_iload d_Sh_turn_24 rfl ?_
    refine zb_aload_n d_Sh_turn_26 rfl rfl ?_
    refine zr_size (q := q) d_Sh_turn_27 fl_Sh_32 hq ?_
    refine zb_top (y := nI n) (by rw [eq0]; exact h.2.1) ?_
    refine zb_icmp_ge (tgt := 68) d_Sh_turn_30 rfl (fun h30 => ?_) (fun h30 => absurd (nI_le (a := n) (b := i) (by omega) (by omega)) h30)
    refine zb_sub [0, 1, 2, 3, 4] rfl ?_
    rw [e] at hz ⊢
    exact K τ ns hf hz
  | succ k ih =>
    intro i τ ns hi hf hz hns
    have hlt : i < n := by omega
    have hq := h.1
    have ap := hq.apart hs hqs
    have hp := h.2.2
    have hn3 := hp.1
    have z0 : (0 : Nat) ≠ s ∧ (0 : Nat) ≠ s + 1 ∧ (0 : Nat) ≠ s + 2 := by have := hs.1; omega
    have hs31 : s < 2 ^ 31 := by have := hs.lt; omega
    have e0 : τ.1 0 0 = nI s := by rw [hf.1 0 z0.1 z0.2.1 z0.2.2]; exact h0
    have eq0 : τ.1 q = σ.1 q := hf.1 q ap.1 ap.2.1 ap.2.2.1
    have eq1 : τ.1 (q + 1) = σ.1 (q + 1) := hf.1 _ ap.2.2.2.1 ap.2.2.2.2.1 ap.2.2.2.2.2.1
    have eq2 : τ.1 (q + 2) = σ.1 (q + 2) := hf.1 _ ap.2.2.2.2.2.2.1 ap.2.2.2.2.2.2.2.1 ap.2.2.2.2.2.2.2.2
    refine zb_iload d_Sh_turn_24 rfl ?_
    refine zb_aload_n d_Sh_turn_26 rfl rfl ?_
    refine zr_size (q := q) d_Sh_turn_27 fl_Sh_32 hq ?_
    refine zb_top (y := nI n) (by rw [eq0]; exact h.2.1) ?_
    refine zb_icmp_ge (tgt := 68) d_Sh_turn_30 rfl (fun h30 => absurd h30 (nI_ge (a := i) (b := n) (by omega) (by omega))) (fun h30 => ?_)
    refine zb_aload_n d_Sh_turn_33 rfl rfl ?_
    refine zs_spare d_Sh_turn_34 fl_Sh_16 ?_
    refine zb_st (st' := .ref (zad G s) :: []) (by rw [e0, nI_clamp hs31]) ?_
    refine zb_aload_n d_Sh_turn_37 rfl rfl ?_
    refine zr_tuples (q := q) d_Sh_turn_38 fl_Sh_60 hq ?_
    refine zb_iload d_Sh_turn_41 rfl ?_
    refine zb_ialdN (q := q + 1) (j := i) d_Sh_turn_43 (hq.t) (by rw [hq.nt]; omega) ?_
    refine zb_top (y := nI (zN (σ.1 (q + 1) i))) (by rw [eq1]; exact (hp.2.1 i hlt).2) ?_
    refine zb_aload_n d_Sh_turn_44 rfl rfl ?_
    refine zr_width (q := q) d_Sh_turn_45 fl_Sh_40 hq ?_
    refine zb_top (y := nI u) (by rw [eq0]; exact hu0) ?_
    refine zb_callS (rest := [.ref (zad G s)]) (c_turned l G (hp.2.1 i hlt).1 hu) (lk_Sh_105.cw rfl rfl ⟨Nat.le_of_ble_eq_true rfl, Nat.le_of_ble_eq_true rfl⟩) rfl rfl (Nat.le_of_ble_eq_true rfl) d_Sh_turn_48 ⟨Nat.le_of_ble_eq_true rfl, Nat.le_of_ble_eq_true rfl⟩ ?_
    rintro _ _ ⟨rfl, rfl⟩
    refine zb_st (st' := [.int (nI (tur (zN (σ.1 (q + 1) i)) u u)), .ref (zad G s)]) rfl ?_
    refine zb_aload_n d_Sh_turn_51 rfl rfl ?_
    refine zr_counts (q := q) d_Sh_turn_52 fl_Sh_82 hq ?_
    refine zb_iload d_Sh_turn_55 rfl ?_
    refine zb_ialdN (q := q + 2) (j := i) d_Sh_turn_57 (hq.c) (by rw [hq.nc]; omega) ?_
    refine zb_top (y := σ.1 (q + 2) i) (by rw [eq2]) ?_
    refine zb_callV (rest := []) (c_raise_y l G hz (t := tur (zN (σ.1 (q + 1) i)) u u) (tur_lt u _ u) (Or.inr (Or.inr (by omega)))) (lk_Sh_47.cw rfl rfl ⟨Nat.le_of_ble_eq_true rfl, Nat.le_of_ble_eq_true rfl⟩) (zgR hs) rfl rfl rfl rfl (Nat.le_of_ble_eq_true rfl) d_Sh_turn_58 ⟨Nat.le_of_ble_eq_true rfl, Nat.le_of_ble_eq_true rfl⟩ ?_
    rintro _ _ ⟨rfl, n2, w1, w2⟩
    rename_i τ9
    refine zb_st (st' := [.int 1]) rfl ?_
    refine zb_pop d_Sh_turn_61 rfl ?_
    refine zb_iinc (v := nI (i + 1)) (lv' := [(4, .int (nI (i + 1))), (0, .ref (zad G 0)), (1, .int (nI r)), (2, .int ya), (3, .ref (zad G q))]) d_Sh_turn_62 rfl (nI_1 i) (by decide) rfl ?_
    refine zb_goto (tgt := 24) d_Sh_turn_65 rfl ?_
    refine zb_sub [0, 1, 2, 3, 4] rfl ?_
    exact ih (i + 1) τ9 n2 (by omega) (hf.tr w2) w1 (Nat.le_trans (zr_up hz w1) (by omega))
theorem zN_pos {x : Int32} (h : 0 < zN x) : x = nI (zN x) := by
  by_cases hx : x < 0
  · exfalso
    have h1 : x.toInt < 0 := by simpa using Int32.lt_iff_toInt_lt.mp hx
    have h2 : zN x = x.toInt.toNat := rfl
    omega
  · obtain ⟨j, hj, rfl⟩ := nI_of hx
    rw [zN_nI hj]
theorem zrl.nI {x : Int32} (h : zrl (zN x)) : x = nI (zN x) := zN_pos (by have := h.1; omega)
theorem mod_or {a b k : Nat} (ha : a % 2 ^ k = 0) (hb : b % 2 ^ k = 0) : (a ||| b) % 2 ^ k = 0 := by rw [Nat.or_mod_two_pow, ha, hb]; rfl
theorem mod_pw {a j k : Nat} (h : j ≤ k) (ha : a % 2 ^ k = 0) : a % 2 ^ j = 0 := Nat.mod_eq_zero_of_dvd (Nat.dvd_trans (Nat.pow_dvd_pow 2 h) (Nat.dvd_of_mod_eq_zero ha))
theorem wn_mod (x p k : Nat) (h : k ≤ 12 - 4 * (p + 1)) : wn x p % 2 ^ k = 0 := mod_pw h (Nat.mul_mod_left _ _)
theorem tur_mod (t u p : Nat) (hp : p ≤ u) : tur t u p % 2 ^ (12 - 4 * u) = 0 := by
  induction p with
  | zero => exact Nat.zero_mod _
  | succ p ih => exact mod_or (ih (by omega)) (wn_mod _ _ _ (by omega))
theorem nar_mod (t mask p : Nat) : (nar t mask p).1 % 2 ^ (12 - 4 * (nar t mask p).2) = 0 := by
  induction p with
  | zero => exact Nat.zero_mod _
  | succ p ih =>
    unfold nar
    split
    · exact mod_or (mod_pw (by show 12 - 4 * ((nar t mask p).2 + 1) ≤ _; omega) ih) (wn_mod _ _ _ (Nat.le_refl _))
    · exact ih
theorem nar_n (t mask : Nat) (h : mask < 8) : (nar t mask 3).2 = pc16 mask := by
  rcases (show mask = 0 ∨ mask = 1 ∨ mask = 2 ∨ mask = 3 ∨ mask = 4 ∨ mask = 5 ∨ mask = 6 ∨ mask = 7 by omega) with rfl | rfl | rfl | rfl | rfl | rfl | rfl | rfl <;> rfl
theorem pc_8 : ∀ mask, mask < 8 → 0 < mask → 1 ≤ pc16 mask ∧ pc16 mask ≤ 3 := by decide +kernel
theorem fcB_sup {g : Nat → Nat} {D : Nat} (hg : ∀ t, g t % D = 0) (T C : Nat → Int32) (i u : Nat) (h : fc (fB g) (fun _ => 0) T C i u ≠ 0) : u % D = 0 := by
  induction i with
  | zero => exact absurd rfl h
  | succ i ih =>
    simp only [fc, fB] at h
    by_cases e : u = g (zN (T i))
    · rw [e]; exact hg _
    · rw [pk_un e] at h; exact ih h
theorem fcP_sup {p v : Nat} (T C : Nat → Int32) (i u : Nat) (h : fc (fP p v) (fun _ => 0) T C i u ≠ 0) : ∃ j, j < i ∧ zN (T j) = u := by
  induction i with
  | zero => exact absurd rfl h
  | succ i ih =>
    simp only [fc, fP] at h
    by_cases e : u = zN (T i)
    · exact ⟨i, Nat.lt_succ_self _, e.symm⟩
    · have h2 : fc (fP p v) (fun _ => 0) T C i u ≠ 0 := by
        split at h
        · rwa [pk_un e] at h
        · exact h
      obtain ⟨j, hj, e2⟩ := ih h2
      exact ⟨j, Nat.lt_succ_of_lt hj, e2⟩
set_option maxHeartbeats 4000000 in
set_option maxRecDepth 100000 in
theorem lp_narrow (l : Launch) (G : zG) {σ : zS} {q s n u : Nat} {m : Nat → Int32} (hs : zrl s) (hqs : q ≠ s) (h0 : σ.1 0 0 = nI s) (h : zr σ q n m) {r mask : Nat} {ya : Int32} {Fin : List Frame → Array Value → State → State → Prop} (hm : mask < 8) (K : ∀ (τ : zS) (ns : Nat), zf σ τ s → zr τ s ns (fc (fB (fun t => (nar t mask 3).1)) (fun _ => 0) (σ.1 (q + 1)) (σ.1 (q + 2)) n) → zB l G w_Sh_narrow R_Sh c_Sh_narrow 6 (some .int) [] (zrz 8 150 3) Fin 3 18 92 [(5, .int (nI n)), (0, .ref (zad G 0)), (1, .int (nI r)), (2, .int ya), (3, .int (nI mask)), (4, .ref (zad G q))] [] τ) : ∀ (k i : Nat) (τ : zS) (ns : Nat), i + k = n → zf σ τ s → zr τ s ns (fc (fB (fun t => (nar t mask 3).1)) (fun _ => 0) (σ.1 (q + 1)) (σ.1 (q + 2)) i) → ns ≤ i → zB l G w_Sh_narrow R_Sh c_Sh_narrow 6 (some .int) [] (zrz 8 150 3) Fin 3 18 48 [(5, .int (nI i)), (0, .ref (zad G 0)), (1, .int (nI r)), (2, .int ya), (3, .int (nI mask)), (4, .ref (zad G q))] [] τ := by
  intro k
  induction k with
  | zero =>
    intro i τ ns hi hf hz hns
    have e : i = n := by omega
    have hq := h.1
    have ap := hq.apart hs hqs
    have hp := h.2.2
    have hn3 := hp.1
    have z0 : (0 : Nat) ≠ s ∧ (0 : Nat) ≠ s + 1 ∧ (0 : Nat) ≠ s + 2 := by have := hs.1; omega
    have hs31 : s < 2 ^ 31 := by have := hs.lt; omega
    have e0 : τ.1 0 0 = nI s := by rw [hf.1 0 z0.1 z0.2.1 z0.2.2]; exact h0
    have eq0 : τ.1 q = σ.1 q := hf.1 q ap.1 ap.2.1 ap.2.2.1
    have eq1 : τ.1 (q + 1) = σ.1 (q + 1) := hf.1 _ ap.2.2.2.1 ap.2.2.2.2.1 ap.2.2.2.2.2.1
    have eq2 : τ.1 (q + 2) = σ.1 (q + 2) := hf.1 _ ap.2.2.2.2.2.2.1 ap.2.2.2.2.2.2.2.1 ap.2.2.2.2.2.2.2.2
    refine zb_iload d_Sh_narrow_48 rfl ?_
    refine zb_aload d_Sh_narrow_50 rfl ?_
    refine zr_size (q := q) d_Sh_narrow_52 fl_Sh_32 hq ?_
    refine zb_top (y := nI n) (by rw [eq0]; exact h.2.1) ?_
    refine zb_icmp_ge (tgt := 92) d_Sh_narrow_55 rfl (fun h55 => ?_) (fun h55 => absurd (nI_le (a := n) (b := i) (by omega) (by omega)) h55)
    refine zb_sub [0, 1, 2, 3, 4, 5] rfl ?_
    rw [e] at hz ⊢
    exact K τ ns hf hz
  | succ k ih =>
    intro i τ ns hi hf hz hns
    have hlt : i < n := by omega
    have hq := h.1
    have ap := hq.apart hs hqs
    have hp := h.2.2
    have hn3 := hp.1
    have z0 : (0 : Nat) ≠ s ∧ (0 : Nat) ≠ s + 1 ∧ (0 : Nat) ≠ s + 2 := by have := hs.1; omega
    have hs31 : s < 2 ^ 31 := by have := hs.lt; omega
    have e0 : τ.1 0 0 = nI s := by rw [hf.1 0 z0.1 z0.2.1 z0.2.2]; exact h0
    have eq0 : τ.1 q = σ.1 q := hf.1 q ap.1 ap.2.1 ap.2.2.1
    have eq1 : τ.1 (q + 1) = σ.1 (q + 1) := hf.1 _ ap.2.2.2.1 ap.2.2.2.2.1 ap.2.2.2.2.2.1
    have eq2 : τ.1 (q + 2) = σ.1 (q + 2) := hf.1 _ ap.2.2.2.2.2.2.1 ap.2.2.2.2.2.2.2.1 ap.2.2.2.2.2.2.2.2
    refine zb_iload d_Sh_narrow_48 rfl ?_
    refine zb_aload d_Sh_narrow_50 rfl ?_
    refine zr_size (q := q) d_Sh_narrow_52 fl_Sh_32 hq ?_
    refine zb_top (y := nI n) (by rw [eq0]; exact h.2.1) ?_
    refine zb_icmp_ge (tgt := 92) d_Sh_narrow_55 rfl (fun h55 => absurd h55 (nI_ge (a := i) (b := n) (by omega) (by omega))) (fun h55 => ?_)
    refine zb_aload_n d_Sh_narrow_58 rfl rfl ?_
    refine zs_spare d_Sh_narrow_59 fl_Sh_16 ?_
    refine zb_st (st' := .ref (zad G s) :: []) (by rw [e0, nI_clamp hs31]) ?_
    refine zb_aload d_Sh_narrow_62 rfl ?_
    refine zr_tuples (q := q) d_Sh_narrow_64 fl_Sh_60 hq ?_
    refine zb_iload d_Sh_narrow_67 rfl ?_
    refine zb_ialdN (q := q + 1) (j := i) d_Sh_narrow_69 (hq.t) (by rw [hq.nt]; omega) ?_
    refine zb_top (y := nI (zN (σ.1 (q + 1) i))) (by rw [eq1]; exact (hp.2.1 i hlt).2) ?_
    refine zb_iload_n d_Sh_narrow_70 rfl rfl ?_
    refine zb_callS (rest := [.ref (zad G s)]) (c_narrowed l G (hp.2.1 i hlt).1 hm) (lk_Sh_78.cw rfl rfl ⟨Nat.le_of_ble_eq_true rfl, Nat.le_of_ble_eq_true rfl⟩) rfl rfl (Nat.le_of_ble_eq_true rfl) d_Sh_narrow_71 ⟨Nat.le_of_ble_eq_true rfl, Nat.le_of_ble_eq_true rfl⟩ ?_
    rintro _ _ ⟨rfl, rfl⟩
    refine zb_st (st' := [.int (nI (nar (zN (σ.1 (q + 1) i)) mask 3).1), .ref (zad G s)]) rfl ?_
    refine zb_aload d_Sh_narrow_74 rfl ?_
    refine zr_counts (q := q) d_Sh_narrow_76 fl_Sh_82 hq ?_
    refine zb_iload d_Sh_narrow_79 rfl ?_
    refine zb_ialdN (q := q + 2) (j := i) d_Sh_narrow_81 (hq.c) (by rw [hq.nc]; omega) ?_
    refine zb_top (y := σ.1 (q + 2) i) (by rw [eq2]) ?_
    refine zb_callV (rest := []) (c_raise_y l G hz (t := (nar (zN (σ.1 (q + 1) i)) mask 3).1) (nar_lt _ mask 3) (Or.inr (Or.inr (by omega)))) (lk_Sh_47.cw rfl rfl ⟨Nat.le_of_ble_eq_true rfl, Nat.le_of_ble_eq_true rfl⟩) (zgR hs) rfl rfl rfl rfl (Nat.le_of_ble_eq_true rfl) d_Sh_narrow_82 ⟨Nat.le_of_ble_eq_true rfl, Nat.le_of_ble_eq_true rfl⟩ ?_
    rintro _ _ ⟨rfl, n2, w1, w2⟩
    rename_i τ9
    refine zb_st (st' := [.int 1]) rfl ?_
    refine zb_pop d_Sh_narrow_85 rfl ?_
    refine zb_iinc (v := nI (i + 1)) (lv' := [(5, .int (nI (i + 1))), (0, .ref (zad G 0)), (1, .int (nI r)), (2, .int ya), (3, .int (nI mask)), (4, .ref (zad G q))]) d_Sh_narrow_86 rfl (nI_1 i) (by decide) rfl ?_
    refine zb_goto (tgt := 48) d_Sh_narrow_89 rfl ?_
    refine zb_sub [0, 1, 2, 3, 4, 5] rfl ?_
    exact ih (i + 1) τ9 n2 (by omega) (hf.tr w2) w1 (Nat.le_trans (zr_up hz w1) (by omega))
set_option maxHeartbeats 4000000 in
set_option maxRecDepth 100000 in
theorem lp_pick (l : Launch) (G : zG) {σ : zS} {q s n u : Nat} {m : Nat → Int32} (hs : zrl s) (hqs : q ≠ s) (h0 : σ.1 0 0 = nI s) (h : zr σ q n m) {r pl v : Nat} {ya : Int32} {Fin : List Frame → Array Value → State → State → Prop} (hpl : pl < 3) (hv : v < 16) (K : ∀ (τ : zS) (ns : Nat), zf σ τ s → zr τ s ns (fc (fP pl v) (fun _ => 0) (σ.1 (q + 1)) (σ.1 (q + 2)) n) → zB l G w_Sh_pick R_Sh c_Sh_pick 7 (some .int) [] (zrz 8 150 4) Fin 4 24 124 [(6, .int (nI n)), (0, .ref (zad G 0)), (1, .int (nI r)), (2, .int ya), (3, .int (nI pl)), (4, .int (nI v)), (5, .ref (zad G q))] [] τ) : ∀ (k i : Nat) (τ : zS) (ns : Nat), i + k = n → zf σ τ s → zr τ s ns (fc (fP pl v) (fun _ => 0) (σ.1 (q + 1)) (σ.1 (q + 2)) i) → ns ≤ i → zB l G w_Sh_pick R_Sh c_Sh_pick 7 (some .int) [] (zrz 8 150 4) Fin 4 24 67 [(6, .int (nI i)), (0, .ref (zad G 0)), (1, .int (nI r)), (2, .int ya), (3, .int (nI pl)), (4, .int (nI v)), (5, .ref (zad G q))] [] τ := by
  intro k
  induction k with
  | zero =>
    intro i τ ns hi hf hz hns
    have e : i = n := by omega
    have hq := h.1
    have ap := hq.apart hs hqs
    have hp := h.2.2
    have hn3 := hp.1
    have z0 : (0 : Nat) ≠ s ∧ (0 : Nat) ≠ s + 1 ∧ (0 : Nat) ≠ s + 2 := by have := hs.1; omega
    have hs31 : s < 2 ^ 31 := by have := hs.lt; omega
    have e0 : τ.1 0 0 = nI s := by rw [hf.1 0 z0.1 z0.2.1 z0.2.2]; exact h0
    have eq0 : τ.1 q = σ.1 q := hf.1 q ap.1 ap.2.1 ap.2.2.1
    have eq1 : τ.1 (q + 1) = σ.1 (q + 1) := hf.1 _ ap.2.2.2.1 ap.2.2.2.2.1 ap.2.2.2.2.2.1
    have eq2 : τ.1 (q + 2) = σ.1 (q + 2) := hf.1 _ ap.2.2.2.2.2.2.1 ap.2.2.2.2.2.2.2.1 ap.2.2.2.2.2.2.2.2
    refine zb_iload d_Sh_pick_67 rfl ?_
    refine zb_aload d_Sh_pick_69 rfl ?_
    refine zr_size (q := q) d_Sh_pick_71 fl_Sh_32 hq ?_
    refine zb_top (y := nI n) (by rw [eq0]; exact h.2.1) ?_
    refine zb_icmp_ge (tgt := 124) d_Sh_pick_74 rfl (fun h74 => ?_) (fun h74 => absurd (nI_le (a := n) (b := i) (by omega) (by omega)) h74)
    refine zb_sub [0, 1, 2, 3, 4, 5, 6] rfl ?_
    rw [e] at hz ⊢
    exact K τ ns hf hz
  | succ k ih =>
    intro i τ ns hi hf hz hns
    have hlt : i < n := by omega
    have hq := h.1
    have ap := hq.apart hs hqs
    have hp := h.2.2
    have hn3 := hp.1
    have z0 : (0 : Nat) ≠ s ∧ (0 : Nat) ≠ s + 1 ∧ (0 : Nat) ≠ s + 2 := by have := hs.1; omega
    have hs31 : s < 2 ^ 31 := by have := hs.lt; omega
    have e0 : τ.1 0 0 = nI s := by rw [hf.1 0 z0.1 z0.2.1 z0.2.2]; exact h0
    have eq0 : τ.1 q = σ.1 q := hf.1 q ap.1 ap.2.1 ap.2.2.1
    have eq1 : τ.1 (q + 1) = σ.1 (q + 1) := hf.1 _ ap.2.2.2.1 ap.2.2.2.2.1 ap.2.2.2.2.2.1
    have eq2 : τ.1 (q + 2) = σ.1 (q + 2) := hf.1 _ ap.2.2.2.2.2.2.1 ap.2.2.2.2.2.2.2.1 ap.2.2.2.2.2.2.2.2
    refine zb_iload d_Sh_pick_67 rfl ?_
    refine zb_aload d_Sh_pick_69 rfl ?_
    refine zr_size (q := q) d_Sh_pick_71 fl_Sh_32 hq ?_
    refine zb_top (y := nI n) (by rw [eq0]; exact h.2.1) ?_
    refine zb_icmp_ge (tgt := 124) d_Sh_pick_74 rfl (fun h74 => absurd h74 (nI_ge (a := i) (b := n) (by omega) (by omega))) (fun h74 => ?_)
    refine zb_aload d_Sh_pick_77 rfl ?_
    refine zr_tuples (q := q) d_Sh_pick_79 fl_Sh_60 hq ?_
    refine zb_iload d_Sh_pick_82 rfl ?_
    refine zb_ialdN (q := q + 1) (j := i) d_Sh_pick_84 (hq.t) (by rw [hq.nt]; omega) ?_
    refine zb_top (y := nI (zN (σ.1 (q + 1) i))) (by rw [eq1]; exact (hp.2.1 i hlt).2) ?_
    refine zb_iload_n d_Sh_pick_85 rfl rfl ?_
    refine zb_callS (rest := []) (c_numberAt l G (hp.2.1 i hlt).1 hpl) (lk_Sh_85.cw rfl rfl ⟨Nat.le_of_ble_eq_true rfl, Nat.le_of_ble_eq_true rfl⟩) rfl rfl (Nat.le_of_ble_eq_true rfl) d_Sh_pick_86 ⟨Nat.le_of_ble_eq_true rfl, Nat.le_of_ble_eq_true rfl⟩ ?_
    rintro _ _ ⟨rfl, rfl⟩
    refine zb_st (st' := [.int (nI (nu (zN (σ.1 (q + 1) i)) pl))]) rfl ?_
    refine zb_iload d_Sh_pick_89 rfl ?_
    refine zb_icmp_ne (tgt := 118) d_Sh_pick_91 rfl (fun h91 => ?_) (fun h91 => ?_)
    · refine zb_iinc (v := nI (i + 1)) (lv' := [(6, .int (nI (i + 1))), (0, .ref (zad G 0)), (1, .int (nI r)), (2, .int ya), (3, .int (nI pl)), (4, .int (nI v)), (5, .ref (zad G q))]) d_Sh_pick_118 rfl (nI_1 i) (by decide) rfl ?_
      refine zb_goto (tgt := 67) d_Sh_pick_121 rfl ?_
      refine zb_sub [0, 1, 2, 3, 4, 5, 6] rfl ?_
      exact ih (i + 1) τ ns (by omega) hf (by show zr τ s ns (fP pl v _ _ _); rw [fP, if_neg (fun e => h91 (by rw [e]))]; exact hz) (by omega)
    · refine zb_aload_n d_Sh_pick_94 rfl rfl ?_
      refine zs_spare d_Sh_pick_95 fl_Sh_16 ?_
      refine zb_st (st' := .ref (zad G s) :: []) (by rw [e0, nI_clamp hs31]) ?_
      refine zb_aload d_Sh_pick_98 rfl ?_
      refine zr_tuples (q := q) d_Sh_pick_100 fl_Sh_60 hq ?_
      refine zb_iload d_Sh_pick_103 rfl ?_
      refine zb_ialdN (q := q + 1) (j := i) d_Sh_pick_105 (hq.t) (by rw [hq.nt]; omega) ?_
      refine zb_top (y := nI (zN (σ.1 (q + 1) i))) (by rw [eq1]; exact (hp.2.1 i hlt).2) ?_
      refine zb_aload d_Sh_pick_106 rfl ?_
      refine zr_counts (q := q) d_Sh_pick_108 fl_Sh_82 hq ?_
      refine zb_iload d_Sh_pick_111 rfl ?_
      refine zb_ialdN (q := q + 2) (j := i) d_Sh_pick_113 (hq.c) (by rw [hq.nc]; omega) ?_
      refine zb_top (y := σ.1 (q + 2) i) (by rw [eq2]) ?_
      refine zb_callV (rest := []) (c_raise_y l G hz (t := zN (σ.1 (q + 1) i)) (hp.2.1 i hlt).1 (Or.inr (Or.inr (by omega)))) (lk_Sh_47.cw rfl rfl ⟨Nat.le_of_ble_eq_true rfl, Nat.le_of_ble_eq_true rfl⟩) (zgR hs) rfl rfl rfl rfl (Nat.le_of_ble_eq_true rfl) d_Sh_pick_114 ⟨Nat.le_of_ble_eq_true rfl, Nat.le_of_ble_eq_true rfl⟩ ?_
      rintro _ _ ⟨rfl, n2, w1, w2⟩
      rename_i τ9
      refine zb_st (st' := [.int 1]) rfl ?_
      refine zb_pop d_Sh_pick_117 rfl ?_
      refine zb_iinc (v := nI (i + 1)) (lv' := [(6, .int (nI (i + 1))), (0, .ref (zad G 0)), (1, .int (nI r)), (2, .int ya), (3, .int (nI pl)), (4, .int (nI v)), (5, .ref (zad G q))]) d_Sh_pick_118 rfl (nI_1 i) (by decide) rfl ?_
      refine zb_goto (tgt := 67) d_Sh_pick_121 rfl ?_
      refine zb_sub [0, 1, 2, 3, 4, 5, 6] rfl ?_
      exact ih (i + 1) τ9 n2 (by omega) (hf.tr w2) (by show zr τ9 s n2 (fP pl v _ _ _); rw [fP, if_pos ((nI_eq (by have := nu_lt (zN (σ.1 (q + 1) i)) pl; omega) (by omega)).mp h91)]; exact w1) (Nat.le_trans (zr_up hz w1) (by omega))
set_option maxHeartbeats 4000000 in
set_option maxRecDepth 100000 in
/-- turn(to, a) -/
theorem c_turn (l : Launch) (G : zG) {σ : zS} {x y : Int32} {M : Nat → Nat → Int32} {w : Nat → Nat} (hl : l.stackTraces = false) (hw : zwf σ M w) : zCX l G y_Sh_turn w_Sh_turn (zrz 8 150 2) 2 12 [.ref (zad G 0), .int x, .int y] σ (fun v σ' => ∃ r a : Nat, r < 8 ∧ x = nI r ∧ a < 8 ∧ y = nI a ∧ v = some (.int (nI (zct (fm (fB (fun t => tur t (w a) (w a))) (fun _ => 0) (M a) 4096) 4096))) ∧ zwf σ' (uM M r (fm (fB (fun t => tur t (w a) (w a))) (fun _ => 0) (M a) 4096)) (uM w r (w a)) ∧ zk σ σ') (fun E σ' => (E = zNS ∧ ¬ (zgr x ∧ zgr y) ∨ False) ∧ zwf σ' M w ∧ zk σ σ') := by
  refine zCX_of (cc := c_Sh_turn) (nL := 5) (ret := (some .int)) (own := R_Sh) (by decide +kernel) rfl rfl (Nat.le_of_ble_eq_true rfl) ?_
  refine zb_lv (lv' := [(0, .ref (zad G 0)), (1, .int x), (2, .int y)]) rfl ?_
  refine zb_iload_n d_Sh_turn_0 rfl rfl ?_
  refine zx_callS (rest := []) (c_mustBe l G hl) (lk_Sh_63.cw rfl rfl ⟨Nat.le_of_ble_eq_true rfl, Nat.le_of_ble_eq_true rfl⟩) rfl rfl (Nat.le_of_ble_eq_true rfl) d_Sh_turn_1 ⟨Nat.le_of_ble_eq_true rfl, Nat.le_of_ble_eq_true rfl⟩ ?_ ?_
  rotate_left
  · rintro E _ ⟨rfl, hx, rfl⟩; exact zx_out ⟨Or.inl ⟨rfl, fun z => hx z.1⟩, hw, zk.rf _⟩ (Nat.le_of_ble_eq_true rfl) (Nat.le_of_ble_eq_true rfl)
  rintro _ _ ⟨rfl, ⟨r, hr, rfl⟩, rfl⟩
  refine zb_lv (lv' := [(0, .ref (zad G 0)), (1, .int (nI r)), (2, .int y)]) rfl ?_
  refine zb_st (st' := []) rfl ?_
  refine zb_aload_n d_Sh_turn_4 rfl rfl ?_
  refine zb_iload_n d_Sh_turn_5 rfl rfl ?_
  refine zx_callV (rest := []) (c_relationOf l G hl) (lk_Sh_24.cw rfl rfl ⟨Nat.le_of_ble_eq_true rfl, Nat.le_of_ble_eq_true rfl⟩) zgS rfl rfl rfl rfl (Nat.le_of_ble_eq_true rfl) d_Sh_turn_6 ⟨Nat.le_of_ble_eq_true rfl, Nat.le_of_ble_eq_true rfl⟩ ?_ ?_
  rotate_left
  · rintro E _ ⟨rfl, hx, rfl⟩; exact zx_out ⟨Or.inl ⟨rfl, fun z => hx z.2⟩, hw, zk.rf _⟩ (Nat.le_of_ble_eq_true rfl) (Nat.le_of_ble_eq_true rfl)
  rintro _ _ ⟨a, ha, rfl, rfl, rfl⟩
  refine zb_lv (lv' := [(0, .ref (zad G 0)), (1, .int (nI r)), (2, .int (nI a))]) rfl ?_
  refine zb_st (st' := [.ref (zad G (zN (σ.1 1 a)))]) rfl ?_
  refine zb_astore_n (lv' := [(3, .ref (zad G (zN (σ.1 1 a)))), (0, .ref (zad G 0)), (1, .int (nI r)), (2, .int (nI a))]) d_Sh_turn_9 rfl (by decide) rfl ?_
  refine zb_aload_n d_Sh_turn_10 rfl rfl ?_
  refine zs_spare d_Sh_turn_11 fl_Sh_16 ?_
  refine zb_aload_n d_Sh_turn_14 rfl rfl ?_
  refine zr_width (q := zN (σ.1 1 a)) d_Sh_turn_15 fl_Sh_40 (hw.rl ha) ?_
  refine zb_top (y := nI (w a)) ((hw.at ha).1) ?_
  refine zb_callV (rest := []) (c_startAnew l G hw.sp) (lk_Sh_36.cw rfl rfl ⟨Nat.le_of_ble_eq_true rfl, Nat.le_of_ble_eq_true rfl⟩) (zgR hw.sp) rfl rfl rfl rfl (Nat.le_of_ble_eq_true rfl) d_Sh_turn_18 ⟨Nat.le_of_ble_eq_true rfl, Nat.le_of_ble_eq_true rfl⟩ ?_
  rintro _ _ ⟨rfl, rfl⟩
  refine zb_st (st' := []) rfl ?_
  refine zb_iconst (v := 0) d_Sh_turn_21 rfl ?_
  refine zb_istore (lv' := [(4, .int 0), (3, .ref (zad G (zN (σ.1 1 a)))), (0, .ref (zad G 0)), (1, .int (nI r)), (2, .int (nI a))]) d_Sh_turn_22 (by decide) rfl ?_
  obtain ⟨n, hn⟩ := (hw.at ha).2.2.2.1
  have ap := (hw.rl ha).apart hw.sp (hw.1.2 a ha).2
  have hsn := hw.sp.1
  have hzq : zr (zst σ (zN (σ.1 0 0)) (nI (w a))) (zN (σ.1 1 a)) n (M a) := hn.same (zst_n σ _ ap.1) (zst_n σ _ ap.2.2.2.1) (zst_n σ _ ap.2.2.2.2.2.2.1)
  refine zb_sub [0, 2, 3, 4, 1] rfl ?_
  refine lp_turn l G (s := zN (σ.1 0 0)) (q := zN (σ.1 1 a)) hw.sp (hw.1.2 a ha).2 (by rw [zst_n σ _ (by omega)]; exact hw.sp.nI) hzq (u := w a) (hw.at ha).2.2.1 (by rw [zst_n σ _ ap.1]; exact (hw.at ha).1) (fun τ ns hf hz => ?_) n 0 _ 0 (by omega) (zf.rf _ _) (zr_start hw.sp) (Nat.le_refl _)
  have t0 : τ.1 0 = σ.1 0 := (hf.1 0 (by omega) (by omega) (by omega)).trans (zst_n σ _ (by omega))
  have t1 : τ.1 1 = σ.1 1 := (hf.1 1 (by omega) (by omega) (by omega)).trans (zst_n σ _ (by omega))
  refine zb_aload_n d_Sh_turn_68 rfl rfl ?_
  refine zb_iload_n d_Sh_turn_69 rfl rfl ?_
  refine zb_callV (rest := []) (c_keepSpareAs l G hr (by rw [t0]; exact hw.sp) (by rw [t1]; exact hw.rl hr)) (lk_Sh_70.cw rfl rfl ⟨Nat.le_of_ble_eq_true rfl, Nat.le_of_ble_eq_true rfl⟩) zgS rfl rfl rfl rfl (Nat.le_of_ble_eq_true rfl) d_Sh_turn_70 ⟨Nat.le_of_ble_eq_true rfl, Nat.le_of_ble_eq_true rfl⟩ ?_
  rintro _ _ ⟨rfl, k1, k2, k3, k4⟩
  rename_i σ9
  refine zb_st (st' := [.int (τ.1 (zN (τ.1 0 0)) 1)]) rfl ?_
  exact zx_ret (zb_iret d_Sh_turn_73 rfl ⟨r, a, hr, rfl, ha, rfl, by rw [fm_eq _ _ hzq.2.2]; exact zfin hw ((zst_k σ _ hw.sp).tr (zf.k hw.sp hf)) (fun k h1 h2 h3 h4 => (hf.1 k h1 h2 h3).trans (zst_n σ _ h1)) hr (hf.2.2.trans (zst_0 σ _ _)) (hw.at ha).2.1 (hw.at ha).2.2.1 hz (fun t h => fcB_sup (fun t => tur_mod t (w a) (w a) (Nat.le_refl _)) _ _ _ t h) ⟨rfl, k1, k2, k3, k4⟩⟩)
theorem nI_bit8 : ∀ x, x ≤ 3 → (1 : Int32) <<< (nI x &&& 31) = nI (2 ^ x) := by decide +kernel
theorem pw8 : ∀ x, x ≤ 3 → 2 ^ x ≤ 8 := by decide +kernel
set_option maxHeartbeats 4000000 in
set_option maxRecDepth 100000 in
/-- narrow(to, a, mask) -/
theorem c_narrow (l : Launch) (G : zG) {σ : zS} {x y z : Int32} {M : Nat → Nat → Int32} {w : Nat → Nat} (hl : l.stackTraces = false) (hw : zwf σ M w) : zCX l G y_Sh_narrow w_Sh_narrow (zrz 8 150 3) 3 18 [.ref (zad G 0), .int x, .int y, .int z] σ (fun v σ' => ∃ r a k : Nat, r < 8 ∧ x = nI r ∧ a < 8 ∧ y = nI a ∧ (0 < k ∧ k < 2 ^ w a) ∧ z = nI k ∧ v = some (.int (nI (zct (fm (fB (fun t => (nar t k 3).1)) (fun _ => 0) (M a) 4096) 4096))) ∧ zwf σ' (uM M r (fm (fB (fun t => (nar t k 3).1)) (fun _ => 0) (M a) 4096)) (uM w r (pc16 k)) ∧ zk σ σ') (fun E σ' => (E = zNS ∧ ¬ (zgr x ∧ zgr y) ∨ E = zIA ∧ ∃ r : Nat, r < 8 ∧ x = nI r ∧ ∃ a : Nat, a < 8 ∧ y = nI a ∧ ¬ ∃ k : Nat, 0 < k ∧ k < 2 ^ w a ∧ z = nI k) ∧ zwf σ' M w ∧ zk σ σ') := by
  refine zCX_of (cc := c_Sh_narrow) (nL := 6) (ret := (some .int)) (own := R_Sh) (by decide +kernel) rfl rfl (Nat.le_of_ble_eq_true rfl) ?_
  refine zb_lv (lv' := [(0, .ref (zad G 0)), (1, .int x), (2, .int y), (3, .int z)]) rfl ?_
  refine zb_iload_n d_Sh_narrow_0 rfl rfl ?_
  refine zx_callS (rest := []) (c_mustBe l G hl) (lk_Sh_63.cw rfl rfl ⟨Nat.le_of_ble_eq_true rfl, Nat.le_of_ble_eq_true rfl⟩) rfl rfl (Nat.le_of_ble_eq_true rfl) d_Sh_narrow_1 ⟨Nat.le_of_ble_eq_true rfl, Nat.le_of_ble_eq_true rfl⟩ ?_ ?_
  rotate_left
  · rintro E _ ⟨rfl, hx, rfl⟩; exact zx_out ⟨Or.inl ⟨rfl, fun z => hx z.1⟩, hw, zk.rf _⟩ (Nat.le_of_ble_eq_true rfl) (Nat.le_of_ble_eq_true rfl)
  rintro _ _ ⟨rfl, ⟨r, hr, rfl⟩, rfl⟩
  refine zb_lv (lv' := [(0, .ref (zad G 0)), (1, .int (nI r)), (2, .int y), (3, .int z)]) rfl ?_
  refine zb_st (st' := []) rfl ?_
  refine zb_aload_n d_Sh_narrow_4 rfl rfl ?_
  refine zb_iload_n d_Sh_narrow_5 rfl rfl ?_
  refine zx_callV (rest := []) (c_relationOf l G hl) (lk_Sh_24.cw rfl rfl ⟨Nat.le_of_ble_eq_true rfl, Nat.le_of_ble_eq_true rfl⟩) zgS rfl rfl rfl rfl (Nat.le_of_ble_eq_true rfl) d_Sh_narrow_6 ⟨Nat.le_of_ble_eq_true rfl, Nat.le_of_ble_eq_true rfl⟩ ?_ ?_
  rotate_left
  · rintro E _ ⟨rfl, hx, rfl⟩; exact zx_out ⟨Or.inl ⟨rfl, fun z => hx z.2⟩, hw, zk.rf _⟩ (Nat.le_of_ble_eq_true rfl) (Nat.le_of_ble_eq_true rfl)
  rintro _ _ ⟨a, ha, rfl, rfl, rfl⟩
  refine zb_lv (lv' := [(0, .ref (zad G 0)), (1, .int (nI r)), (2, .int (nI a)), (3, .int z)]) rfl ?_
  refine zb_st (st' := [.ref (zad G (zN (σ.1 1 a)))]) rfl ?_
  refine zb_astore (lv' := [(4, .ref (zad G (zN (σ.1 1 a)))), (0, .ref (zad G 0)), (1, .int (nI r)), (2, .int (nI a)), (3, .int z)]) d_Sh_narrow_9 (by decide) rfl ?_
  have hw3 := (hw.at ha).2.2.1
  have hp8 := pw8 _ hw3
  refine zb_iload_n d_Sh_narrow_11 rfl rfl ?_
  refine zb_if_le (tgt := 30) d_Sh_narrow_12 rfl (fun h12 => ?_) (fun h12 => ?_)
  · refine zb_iconst (v := 0) d_Sh_narrow_30 rfl ?_
    refine zx_callS (rest := []) (c_refuseUnless l G hl) (lk_Sh_28.cw rfl rfl ⟨Nat.le_of_ble_eq_true rfl, Nat.le_of_ble_eq_true rfl⟩) rfl rfl (Nat.le_of_ble_eq_true rfl) d_Sh_narrow_31 ⟨Nat.le_of_ble_eq_true rfl, Nat.le_of_ble_eq_true rfl⟩ ?_ ?_
    rotate_left
    · rintro E _ ⟨rfl, -, rfl⟩; exact zx_out ⟨Or.inr ⟨rfl, r, hr, rfl, a, ha, rfl, fun ⟨k, h1, h2, e⟩ => by subst e; exact absurd h12 (nI_nle h1 (by omega))⟩, hw, zk.rf _⟩ (Nat.le_of_ble_eq_true rfl) (Nat.le_of_ble_eq_true rfl)
    rintro _ _ ⟨-, h0, -⟩
    exact absurd rfl h0
  · refine zb_iload_n d_Sh_narrow_15 rfl rfl ?_
    refine zb_iconst (v := 1) d_Sh_narrow_16 rfl ?_
    refine zb_aload d_Sh_narrow_17 rfl ?_
    refine zr_width (q := zN (σ.1 1 a)) d_Sh_narrow_19 fl_Sh_40 (hw.rl ha) ?_
    refine zb_top (y := nI (w a)) ((hw.at ha).1) ?_
    refine zb_ishl d_Sh_narrow_22 ?_
    refine zb_top (y := nI (2 ^ w a)) (nI_bit8 _ hw3) ?_
    refine zb_icmp_ge (tgt := 30) d_Sh_narrow_23 rfl (fun h23 => ?_) (fun h23 => ?_)
    · refine zb_iconst (v := 0) d_Sh_narrow_30 rfl ?_
      refine zx_callS (rest := []) (c_refuseUnless l G hl) (lk_Sh_28.cw rfl rfl ⟨Nat.le_of_ble_eq_true rfl, Nat.le_of_ble_eq_true rfl⟩) rfl rfl (Nat.le_of_ble_eq_true rfl) d_Sh_narrow_31 ⟨Nat.le_of_ble_eq_true rfl, Nat.le_of_ble_eq_true rfl⟩ ?_ ?_
      rotate_left
      · rintro E _ ⟨rfl, -, rfl⟩; exact zx_out ⟨Or.inr ⟨rfl, r, hr, rfl, a, ha, rfl, fun ⟨k, h1, h2, e⟩ => by subst e; exact absurd h23 (nI_ge h2 (by omega))⟩, hw, zk.rf _⟩ (Nat.le_of_ble_eq_true rfl) (Nat.le_of_ble_eq_true rfl)
      rintro _ _ ⟨-, h0, -⟩
      exact absurd rfl h0
    · refine zb_iconst (v := 1) d_Sh_narrow_26 rfl ?_
      refine zb_goto (tgt := 31) d_Sh_narrow_27 rfl ?_
      refine zx_callS (rest := []) (c_refuseUnless l G hl) (lk_Sh_28.cw rfl rfl ⟨Nat.le_of_ble_eq_true rfl, Nat.le_of_ble_eq_true rfl⟩) rfl rfl (Nat.le_of_ble_eq_true rfl) d_Sh_narrow_31 ⟨Nat.le_of_ble_eq_true rfl, Nat.le_of_ble_eq_true rfl⟩ ?_ ?_
      rotate_left
      · rintro E _ ⟨-, h0, -⟩; exact absurd h0 (by decide)
      rintro _ _ ⟨rfl, -, rfl⟩
      refine zb_st (st' := []) rfl ?_
      obtain ⟨k, hk31, rfl⟩ := nI_of (fun z => h12 (Int32.le_of_lt z))
      have hk0 : 0 < k := Nat.pos_of_ne_zero (fun e => h12 (by rw [e]; decide))
      have hk2 : k < 2 ^ w a := (nI_ltI hk31 (by omega)).mp (Int32.not_le.mp h23)
      have hk8 : k < 8 := by omega
      refine zb_lv (lv' := [(4, .ref (zad G (zN (σ.1 1 a)))), (0, .ref (zad G 0)), (1, .int (nI r)), (2, .int (nI a)), (3, .int (nI k))]) (rfl) ?_
      refine zb_aload_n d_Sh_narrow_34 rfl rfl ?_
      refine zs_spare d_Sh_narrow_35 fl_Sh_16 ?_
      refine zb_iload_n d_Sh_narrow_38 rfl rfl ?_
      refine zb_callS (rest := [.ref (zad G (σ.1 0 0).toNatClampNeg)]) (c_bitCount l G (show k < 65536 by omega)) (lk_Sh_73.cw rfl rfl ⟨Nat.le_of_ble_eq_true rfl, Nat.le_of_ble_eq_true rfl⟩) rfl rfl (Nat.le_of_ble_eq_true rfl) d_Sh_narrow_39 ⟨Nat.le_of_ble_eq_true rfl, Nat.le_of_ble_eq_true rfl⟩ ?_
      rintro _ _ ⟨rfl, rfl⟩
      refine zb_st (st' := [.int (nI (pc16 k)), .ref (zad G (σ.1 0 0).toNatClampNeg)]) rfl ?_
      refine zb_callV (rest := []) (c_startAnew l G hw.sp) (lk_Sh_36.cw rfl rfl ⟨Nat.le_of_ble_eq_true rfl, Nat.le_of_ble_eq_true rfl⟩) (zgR hw.sp) rfl rfl rfl rfl (Nat.le_of_ble_eq_true rfl) d_Sh_narrow_42 ⟨Nat.le_of_ble_eq_true rfl, Nat.le_of_ble_eq_true rfl⟩ ?_
      rintro _ _ ⟨rfl, rfl⟩
      refine zb_st (st' := []) rfl ?_
      refine zb_iconst (v := 0) d_Sh_narrow_45 rfl ?_
      refine zb_istore (lv' := [(5, .int 0), (4, .ref (zad G (zN (σ.1 1 a)))), (0, .ref (zad G 0)), (1, .int (nI r)), (2, .int (nI a)), (3, .int (nI k))]) d_Sh_narrow_46 (by decide) rfl ?_
      obtain ⟨n, hn⟩ := (hw.at ha).2.2.2.1
      have ap := (hw.rl ha).apart hw.sp (hw.1.2 a ha).2
      have hsn := hw.sp.1
      have hzq : zr (zst σ (zN (σ.1 0 0)) (nI (pc16 k))) (zN (σ.1 1 a)) n (M a) := hn.same (zst_n σ _ ap.1) (zst_n σ _ ap.2.2.2.1) (zst_n σ _ ap.2.2.2.2.2.2.1)
      refine zb_sub [0, 2, 3, 4, 5, 1] rfl ?_
      refine lp_narrow l G (s := zN (σ.1 0 0)) (q := zN (σ.1 1 a)) hw.sp (hw.1.2 a ha).2 (by rw [zst_n σ _ (by omega)]; exact hw.sp.nI) hzq (u := w a) hk8 (fun τ ns hf hz => ?_) n 0 _ 0 (by omega) (zf.rf _ _) (zr_start hw.sp) (Nat.le_refl _)
      have t0 : τ.1 0 = σ.1 0 := (hf.1 0 (by omega) (by omega) (by omega)).trans (zst_n σ _ (by omega))
      have t1 : τ.1 1 = σ.1 1 := (hf.1 1 (by omega) (by omega) (by omega)).trans (zst_n σ _ (by omega))
      refine zb_aload_n d_Sh_narrow_92 rfl rfl ?_
      refine zb_iload_n d_Sh_narrow_93 rfl rfl ?_
      refine zb_callV (rest := []) (c_keepSpareAs l G hr (by rw [t0]; exact hw.sp) (by rw [t1]; exact hw.rl hr)) (lk_Sh_70.cw rfl rfl ⟨Nat.le_of_ble_eq_true rfl, Nat.le_of_ble_eq_true rfl⟩) zgS rfl rfl rfl rfl (Nat.le_of_ble_eq_true rfl) d_Sh_narrow_94 ⟨Nat.le_of_ble_eq_true rfl, Nat.le_of_ble_eq_true rfl⟩ ?_
      rintro _ _ ⟨rfl, k1, k2, k3, k4⟩
      rename_i σ9
      refine zb_st (st' := [.int (τ.1 (zN (τ.1 0 0)) 1)]) rfl ?_
      exact zx_ret (zb_iret d_Sh_narrow_97 rfl ⟨r, a, k, hr, rfl, ha, rfl, ⟨hk0, hk2⟩, rfl, by rw [fm_eq _ _ hzq.2.2]; exact zfin hw ((zst_k σ _ hw.sp).tr (zf.k hw.sp hf)) (fun k h1 h2 h3 h4 => (hf.1 k h1 h2 h3).trans (zst_n σ _ h1)) hr (hf.2.2.trans (zst_0 σ _ _)) (pc_8 k hk8 hk0).1 (pc_8 k hk8 hk0).2 hz (fun t h => fcB_sup (fun t => by rw [← nar_n t k hk8]; exact nar_mod t k 3) _ _ _ t h) ⟨rfl, k1, k2, k3, k4⟩⟩)
set_option maxHeartbeats 4000000 in
set_option maxRecDepth 100000 in
/-- pick(to, a, place, v) -/
theorem c_pick (l : Launch) (G : zG) {σ : zS} {x y z b : Int32} {M : Nat → Nat → Int32} {w : Nat → Nat} (hl : l.stackTraces = false) (hw : zwf σ M w) : zCX l G y_Sh_pick w_Sh_pick (zrz 8 150 4) 4 24 [.ref (zad G 0), .int x, .int y, .int z, .int b] σ (fun o σ' => ∃ r a k v : Nat, r < 8 ∧ x = nI r ∧ a < 8 ∧ y = nI a ∧ k < w a ∧ z = nI k ∧ v < 16 ∧ b = nI v ∧ o = some (.int (nI (zct (fm (fP k v) (fun _ => 0) (M a) 4096) 4096))) ∧ zwf σ' (uM M r (fm (fP k v) (fun _ => 0) (M a) 4096)) (uM w r (w a)) ∧ zk σ σ') (fun E σ' => (E = zNS ∧ ¬ (zgr x ∧ zgr y) ∨ E = zIA ∧ ∃ r : Nat, r < 8 ∧ x = nI r ∧ ∃ a : Nat, a < 8 ∧ y = nI a ∧ ¬ ∃ k v : Nat, k < w a ∧ z = nI k ∧ v < 16 ∧ b = nI v) ∧ zwf σ' M w ∧ zk σ σ') := by
  refine zCX_of (cc := c_Sh_pick) (nL := 7) (ret := (some .int)) (own := R_Sh) (by decide +kernel) rfl rfl (Nat.le_of_ble_eq_true rfl) ?_
  refine zb_lv (lv' := [(0, .ref (zad G 0)), (1, .int x), (2, .int y), (3, .int z), (4, .int b)]) rfl ?_
  refine zb_iload_n d_Sh_pick_0 rfl rfl ?_
  refine zx_callS (rest := []) (c_mustBe l G hl) (lk_Sh_63.cw rfl rfl ⟨Nat.le_of_ble_eq_true rfl, Nat.le_of_ble_eq_true rfl⟩) rfl rfl (Nat.le_of_ble_eq_true rfl) d_Sh_pick_1 ⟨Nat.le_of_ble_eq_true rfl, Nat.le_of_ble_eq_true rfl⟩ ?_ ?_
  rotate_left
  · rintro E _ ⟨rfl, hx, rfl⟩; exact zx_out ⟨Or.inl ⟨rfl, fun z => hx z.1⟩, hw, zk.rf _⟩ (Nat.le_of_ble_eq_true rfl) (Nat.le_of_ble_eq_true rfl)
  rintro _ _ ⟨rfl, ⟨r, hr, rfl⟩, rfl⟩
  refine zb_lv (lv' := [(0, .ref (zad G 0)), (1, .int (nI r)), (2, .int y), (3, .int z), (4, .int b)]) rfl ?_
  refine zb_st (st' := []) rfl ?_
  refine zb_aload_n d_Sh_pick_4 rfl rfl ?_
  refine zb_iload_n d_Sh_pick_5 rfl rfl ?_
  refine zx_callV (rest := []) (c_relationOf l G hl) (lk_Sh_24.cw rfl rfl ⟨Nat.le_of_ble_eq_true rfl, Nat.le_of_ble_eq_true rfl⟩) zgS rfl rfl rfl rfl (Nat.le_of_ble_eq_true rfl) d_Sh_pick_6 ⟨Nat.le_of_ble_eq_true rfl, Nat.le_of_ble_eq_true rfl⟩ ?_ ?_
  rotate_left
  · rintro E _ ⟨rfl, hx, rfl⟩; exact zx_out ⟨Or.inl ⟨rfl, fun z => hx z.2⟩, hw, zk.rf _⟩ (Nat.le_of_ble_eq_true rfl) (Nat.le_of_ble_eq_true rfl)
  rintro _ _ ⟨a, ha, rfl, rfl, rfl⟩
  refine zb_lv (lv' := [(0, .ref (zad G 0)), (1, .int (nI r)), (2, .int (nI a)), (3, .int z), (4, .int b)]) rfl ?_
  refine zb_st (st' := [.ref (zad G (zN (σ.1 1 a)))]) rfl ?_
  refine zb_astore (lv' := [(5, .ref (zad G (zN (σ.1 1 a)))), (0, .ref (zad G 0)), (1, .int (nI r)), (2, .int (nI a)), (3, .int z), (4, .int b)]) d_Sh_pick_9 (by decide) rfl ?_
  have hw3 := (hw.at ha).2.2.1
  refine zb_iload_n d_Sh_pick_11 rfl rfl ?_
  refine zb_if_lt (tgt := 28) d_Sh_pick_12 rfl (fun h12 => ?_) (fun h12 => ?_)
  · refine zb_iconst (v := 0) d_Sh_pick_28 rfl ?_
    refine zx_callS (rest := []) (c_refuseUnless l G hl) (lk_Sh_28.cw rfl rfl ⟨Nat.le_of_ble_eq_true rfl, Nat.le_of_ble_eq_true rfl⟩) rfl rfl (Nat.le_of_ble_eq_true rfl) d_Sh_pick_29 ⟨Nat.le_of_ble_eq_true rfl, Nat.le_of_ble_eq_true rfl⟩ ?_ ?_
    rotate_left
    · rintro E _ ⟨rfl, -, rfl⟩; exact zx_out ⟨Or.inr ⟨rfl, r, hr, rfl, a, ha, rfl, fun ⟨k, v, h1, e, h2, e2⟩ => by subst e; subst e2; exact absurd h12 (nI_pos (by omega))⟩, hw, zk.rf _⟩ (Nat.le_of_ble_eq_true rfl) (Nat.le_of_ble_eq_true rfl)
    rintro _ _ ⟨-, h0, -⟩
    exact absurd rfl h0
  · refine zb_iload_n d_Sh_pick_15 rfl rfl ?_
    refine zb_aload d_Sh_pick_16 rfl ?_
    refine zr_width (q := zN (σ.1 1 a)) d_Sh_pick_18 fl_Sh_40 (hw.rl ha) ?_
    refine zb_top (y := nI (w a)) ((hw.at ha).1) ?_
    refine zb_icmp_ge (tgt := 28) d_Sh_pick_21 rfl (fun h21 => ?_) (fun h21 => ?_)
    · refine zb_iconst (v := 0) d_Sh_pick_28 rfl ?_
      refine zx_callS (rest := []) (c_refuseUnless l G hl) (lk_Sh_28.cw rfl rfl ⟨Nat.le_of_ble_eq_true rfl, Nat.le_of_ble_eq_true rfl⟩) rfl rfl (Nat.le_of_ble_eq_true rfl) d_Sh_pick_29 ⟨Nat.le_of_ble_eq_true rfl, Nat.le_of_ble_eq_true rfl⟩ ?_ ?_
      rotate_left
      · rintro E _ ⟨rfl, -, rfl⟩; exact zx_out ⟨Or.inr ⟨rfl, r, hr, rfl, a, ha, rfl, fun ⟨k, v, h1, e, h2, e2⟩ => by subst e; subst e2; exact absurd h21 (nI_ge h1 (by omega))⟩, hw, zk.rf _⟩ (Nat.le_of_ble_eq_true rfl) (Nat.le_of_ble_eq_true rfl)
      rintro _ _ ⟨-, h0, -⟩
      exact absurd rfl h0
    · refine zb_iconst (v := 1) d_Sh_pick_24 rfl ?_
      refine zb_goto (tgt := 29) d_Sh_pick_25 rfl ?_
      refine zx_callS (rest := []) (c_refuseUnless l G hl) (lk_Sh_28.cw rfl rfl ⟨Nat.le_of_ble_eq_true rfl, Nat.le_of_ble_eq_true rfl⟩) rfl rfl (Nat.le_of_ble_eq_true rfl) d_Sh_pick_29 ⟨Nat.le_of_ble_eq_true rfl, Nat.le_of_ble_eq_true rfl⟩ ?_ ?_
      rotate_left
      · rintro E _ ⟨-, h0, -⟩; exact absurd h0 (by decide)
      rintro _ _ ⟨rfl, -, rfl⟩
      refine zb_st (st' := []) rfl ?_
      refine zb_iload d_Sh_pick_32 rfl ?_
      refine zb_if_lt (tgt := 48) d_Sh_pick_34 rfl (fun h34 => ?_) (fun h34 => ?_)
      · refine zb_iconst (v := 0) d_Sh_pick_48 rfl ?_
        refine zx_callS (rest := []) (c_refuseUnless l G hl) (lk_Sh_28.cw rfl rfl ⟨Nat.le_of_ble_eq_true rfl, Nat.le_of_ble_eq_true rfl⟩) rfl rfl (Nat.le_of_ble_eq_true rfl) d_Sh_pick_49 ⟨Nat.le_of_ble_eq_true rfl, Nat.le_of_ble_eq_true rfl⟩ ?_ ?_
        rotate_left
        · rintro E _ ⟨rfl, -, rfl⟩; exact zx_out ⟨Or.inr ⟨rfl, r, hr, rfl, a, ha, rfl, fun ⟨k, v, h1, e, h2, e2⟩ => by subst e; subst e2; exact absurd h34 (nI_pos (by omega))⟩, hw, zk.rf _⟩ (Nat.le_of_ble_eq_true rfl) (Nat.le_of_ble_eq_true rfl)
        rintro _ _ ⟨-, h0, -⟩
        exact absurd rfl h0
      · refine zb_iload d_Sh_pick_37 rfl ?_
        refine zb_bipush (v := 16) d_Sh_pick_39 rfl ?_
        refine zb_icmp_ge (tgt := 48) d_Sh_pick_41 rfl (fun h41 => ?_) (fun h41 => ?_)
        · refine zb_iconst (v := 0) d_Sh_pick_48 rfl ?_
          refine zx_callS (rest := []) (c_refuseUnless l G hl) (lk_Sh_28.cw rfl rfl ⟨Nat.le_of_ble_eq_true rfl, Nat.le_of_ble_eq_true rfl⟩) rfl rfl (Nat.le_of_ble_eq_true rfl) d_Sh_pick_49 ⟨Nat.le_of_ble_eq_true rfl, Nat.le_of_ble_eq_true rfl⟩ ?_ ?_
          rotate_left
          · rintro E _ ⟨rfl, -, rfl⟩; exact zx_out ⟨Or.inr ⟨rfl, r, hr, rfl, a, ha, rfl, fun ⟨k, v, h1, e, h2, e2⟩ => by subst e; subst e2; exact absurd h41 (nI_ge (b := 16) h2 (by decide))⟩, hw, zk.rf _⟩ (Nat.le_of_ble_eq_true rfl) (Nat.le_of_ble_eq_true rfl)
          rintro _ _ ⟨-, h0, -⟩
          exact absurd rfl h0
        · refine zb_iconst (v := 1) d_Sh_pick_44 rfl ?_
          refine zb_goto (tgt := 49) d_Sh_pick_45 rfl ?_
          refine zx_callS (rest := []) (c_refuseUnless l G hl) (lk_Sh_28.cw rfl rfl ⟨Nat.le_of_ble_eq_true rfl, Nat.le_of_ble_eq_true rfl⟩) rfl rfl (Nat.le_of_ble_eq_true rfl) d_Sh_pick_49 ⟨Nat.le_of_ble_eq_true rfl, Nat.le_of_ble_eq_true rfl⟩ ?_ ?_
          rotate_left
          · rintro E _ ⟨-, h0, -⟩; exact absurd h0 (by decide)
          rintro _ _ ⟨rfl, -, rfl⟩
          refine zb_st (st' := []) rfl ?_
          obtain ⟨k, hk31, rfl⟩ := nI_of h12
          obtain ⟨v, hv31, rfl⟩ := nI_of h34
          have hk : k < w a := (nI_ltI hk31 (by omega)).mp (Int32.not_le.mp h21)
          have hv : v < 16 := (nI_ltI (b := 16) hv31 (by decide)).mp (Int32.not_le.mp h41)
          refine zb_lv (lv' := [(5, .ref (zad G (zN (σ.1 1 a)))), (0, .ref (zad G 0)), (1, .int (nI r)), (2, .int (nI a)), (3, .int (nI k)), (4, .int (nI v))]) (rfl) ?_
          refine zb_aload_n d_Sh_pick_52 rfl rfl ?_
          refine zs_spare d_Sh_pick_53 fl_Sh_16 ?_
          refine zb_aload d_Sh_pick_56 rfl ?_
          refine zr_width (q := zN (σ.1 1 a)) d_Sh_pick_58 fl_Sh_40 (hw.rl ha) ?_
          refine zb_top (y := nI (w a)) ((hw.at ha).1) ?_
          refine zb_callV (rest := []) (c_startAnew l G hw.sp) (lk_Sh_36.cw rfl rfl ⟨Nat.le_of_ble_eq_true rfl, Nat.le_of_ble_eq_true rfl⟩) (zgR hw.sp) rfl rfl rfl rfl (Nat.le_of_ble_eq_true rfl) d_Sh_pick_61 ⟨Nat.le_of_ble_eq_true rfl, Nat.le_of_ble_eq_true rfl⟩ ?_
          rintro _ _ ⟨rfl, rfl⟩
          refine zb_st (st' := []) rfl ?_
          refine zb_iconst (v := 0) d_Sh_pick_64 rfl ?_
          refine zb_istore (lv' := [(6, .int 0), (5, .ref (zad G (zN (σ.1 1 a)))), (0, .ref (zad G 0)), (1, .int (nI r)), (2, .int (nI a)), (3, .int (nI k)), (4, .int (nI v))]) d_Sh_pick_65 (by decide) rfl ?_
          obtain ⟨n, hn⟩ := (hw.at ha).2.2.2.1
          have ap := (hw.rl ha).apart hw.sp (hw.1.2 a ha).2
          have hsn := hw.sp.1
          have hzq : zr (zst σ (zN (σ.1 0 0)) (nI (w a))) (zN (σ.1 1 a)) n (M a) := hn.same (zst_n σ _ ap.1) (zst_n σ _ ap.2.2.2.1) (zst_n σ _ ap.2.2.2.2.2.2.1)
          refine zb_sub [0, 2, 3, 4, 5, 6, 1] rfl ?_
          refine lp_pick l G (s := zN (σ.1 0 0)) (q := zN (σ.1 1 a)) hw.sp (hw.1.2 a ha).2 (by rw [zst_n σ _ (by omega)]; exact hw.sp.nI) hzq (u := w a) (show k < 3 by omega) hv (fun τ ns hf hz => ?_) n 0 _ 0 (by omega) (zf.rf _ _) (zr_start hw.sp) (Nat.le_refl _)
          have t0 : τ.1 0 = σ.1 0 := (hf.1 0 (by omega) (by omega) (by omega)).trans (zst_n σ _ (by omega))
          have t1 : τ.1 1 = σ.1 1 := (hf.1 1 (by omega) (by omega) (by omega)).trans (zst_n σ _ (by omega))
          refine zb_aload_n d_Sh_pick_124 rfl rfl ?_
          refine zb_iload_n d_Sh_pick_125 rfl rfl ?_
          refine zb_callV (rest := []) (c_keepSpareAs l G hr (by rw [t0]; exact hw.sp) (by rw [t1]; exact hw.rl hr)) (lk_Sh_70.cw rfl rfl ⟨Nat.le_of_ble_eq_true rfl, Nat.le_of_ble_eq_true rfl⟩) zgS rfl rfl rfl rfl (Nat.le_of_ble_eq_true rfl) d_Sh_pick_126 ⟨Nat.le_of_ble_eq_true rfl, Nat.le_of_ble_eq_true rfl⟩ ?_
          rintro _ _ ⟨rfl, k1, k2, k3, k4⟩
          rename_i σ9
          refine zb_st (st' := [.int (τ.1 (zN (τ.1 0 0)) 1)]) rfl ?_
          exact zx_ret (zb_iret d_Sh_pick_129 rfl ⟨r, a, k, v, hr, rfl, ha, rfl, hk, rfl, hv, rfl, by rw [fm_eq _ _ hzq.2.2]; exact zfin hw ((zst_k σ _ hw.sp).tr (zf.k hw.sp hf)) (fun k h1 h2 h3 h4 => (hf.1 k h1 h2 h3).trans (zst_n σ _ h1)) hr (hf.2.2.trans (zst_0 σ _ _)) (hw.at ha).2.1 (hw.at ha).2.2.1 hz (fun t h => by obtain ⟨j, hj, e⟩ := fcP_sup _ _ _ t h; rw [← e]; exact (hw.at ha).2.2.2.2 _ (by rw [(hzq.2.2.2.2.2.1 j hj).2]; exact (hzq.2.2.2.2.2.1 j hj).1)) ⟨rfl, k1, k2, k3, k4⟩⟩)
end
section
def fD (D : Nat → Int32) (a : Nat → Int32) (t : Nat) (_ : Int32) : Nat → Int32 := upd a t (D t)
def fE (m D : Nat → Int32) (a : Nat → Int32) (t : Nat) (_ : Int32) : Nat → Int32 := if m t = 0 then upd a t (D t) else a
theorem fcD_in (D : Nat → Int32) (T C : Nat → Int32) (i t : Nat) : (∃ j, j < i ∧ zN (T j) = t) → fc (fD D) (fun _ => 0) T C i t = D t := by
  induction i with
  | zero => rintro ⟨j, hj, -⟩; exact absurd hj (Nat.not_lt_zero j)
  | succ i ih =>
    rintro ⟨j, hj, e⟩
    show upd _ _ _ t = _
    by_cases e2 : t = zN (T i)
    · subst e2; rw [pk_us]
    · rw [pk_un e2]
      rcases Nat.lt_or_eq_of_le (Nat.le_of_lt_succ hj) with z | z
      · exact ih ⟨j, z, e⟩
      · subst z; exact absurd e.symm e2
theorem fcD_out (D : Nat → Int32) (T C : Nat → Int32) (i t : Nat) (h : ∀ j, j < i → zN (T j) ≠ t) : fc (fD D) (fun _ => 0) T C i t = 0 := by
  induction i with
  | zero => rfl
  | succ i ih =>
    show upd _ _ _ t = _
    rw [pk_un (fun e => h i (Nat.lt_succ_self _) e.symm)]
    exact ih (fun j hj => h j (Nat.lt_succ_of_lt hj))
theorem fcE_t (m D b : Nat → Int32) (T C : Nat → Int32) (i t : Nat) : fc (fE m D) b T C i t = b t ∨ (m t = 0 ∧ fc (fE m D) b T C i t = D t) := by
  induction i with
  | zero => exact Or.inl rfl
  | succ i ih =>
    simp only [fc, fE]
    split
    · by_cases e : t = zN (T i)
      · subst e; rw [pk_us]; exact Or.inr ⟨by assumption, rfl⟩
      · rw [pk_un e]; exact ih
    · exact ih
theorem fcE_in (m D b : Nat → Int32) (T C : Nat → Int32) (i t : Nat) (hm : m t = 0) : (∃ j, j < i ∧ zN (T j) = t) → fc (fE m D) b T C i t = D t := by
  induction i with
  | zero => rintro ⟨j, hj, -⟩; exact absurd hj (Nat.not_lt_zero j)
  | succ i ih =>
    rintro ⟨j, hj, e⟩
    simp only [fc, fE]
    by_cases e2 : t = zN (T i)
    · subst e2; rw [if_pos hm, pk_us]
    · have h2 : fc (fE m D) b T C i t = D t := by
        rcases Nat.lt_or_eq_of_le (Nat.le_of_lt_succ hj) with z | z
        · exact ih ⟨j, z, e⟩
        · subst z; exact absurd e.symm e2
      split
      · rw [pk_un e2]; exact h2
      · exact h2
theorem fcE_out (m D b : Nat → Int32) (T C : Nat → Int32) (i t : Nat) (h : ∀ j, j < i → zN (T j) ≠ t) : fc (fE m D) b T C i t = b t := by
  induction i with
  | zero => rfl
  | succ i ih =>
    simp only [fc, fE]
    have h2 := ih (fun j hj => h j (Nat.lt_succ_of_lt hj))
    split
    · rw [pk_un (fun e => h i (Nat.lt_succ_self _) e.symm)]; exact h2
    · exact h2
theorem zct_mono {m D : Nat → Int32} (h : ∀ t, m t ≠ 0 → D t ≠ 0) (k : Nat) : zct m k ≤ zct D k := by
  unfold zct
  induction k with
  | zero => exact Nat.le_refl _
  | succ k ih =>
    simp only [fm]
    by_cases a : m k = 0
    · rw [if_pos a]; split <;> omega
    · rw [if_neg a, if_neg (h k a)]; omega
theorem zct_more {m D : Nat → Int32} (h : ∀ t, m t ≠ 0 → D t ≠ 0) {t : Nat} (h1 : m t = 0) (h2 : D t ≠ 0) (k : Nat) (hk : t < k) : zct m k + 1 ≤ zct D k := by
  induction k with
  | zero => exact absurd hk (Nat.not_lt_zero t)
  | succ k ih =>
    by_cases e : t = k
    · subst e
      have := zct_mono h t
      unfold zct at this ⊢
      simp only [fm]
      rw [if_pos h1, if_neg h2]
      omega
    · have := ih (by omega)
      unfold zct at this ⊢
      simp only [fm]
      by_cases a : m k = 0
      · rw [if_pos a]; split <;> omega
      · rw [if_neg a, if_neg (h k a)]; omega
/-- no room: the whole has more than 300 -/
theorem full {τ : zS} {s ns t : Nat} {m D : Nat → Int32} (hz : zr τ s ns m) (h : ∀ u, m u = 0 ∨ m u = D u) (ht : t < 4096) (hc : ¬ (m t ≠ 0 ∨ D t = 0 ∨ ns < 300)) : 300 < zct D 4096 := by
  have h1 : m t = 0 := Classical.byContradiction fun z => hc (Or.inl z)
  have h2 : D t ≠ 0 := fun z => hc (Or.inr (Or.inl z))
  have h3 : ¬ ns < 300 := fun z => hc (Or.inr (Or.inr z))
  have h4 := zct_more (m := m) (D := D) (fun u hu => by rcases h u with z | z
                                                        · exact absurd z hu
                                                        · rw [← z]; exact hu) h1 h2 4096 ht
  rw [zct_eq hz.2.2] at h4
  omega
set_option maxHeartbeats 4000000 in
set_option maxRecDepth 100000 in
theorem lf_alter1 (l : Launch) (G : zG) {σ : zS} {q q2 s n n2 op : Nat} {m m2 : Nat → Int32} (hs : zrl s) (hqs : q ≠ s) (hqs2 : q2 ≠ s) (h0 : σ.1 0 0 = nI s) (h : zr σ q n m) (h2 : zr σ q2 n2 m2) (hop : op < 6) {r : Nat} {ya zb : Int32} {Fin : List Frame → Array Value → State → State → Prop} {τ : zS} (hf : zf σ τ s) (K0 : ∀ i : Int32, zB l G w_Sh_alter R_Sh c_Sh_alter 10 (some .int) [] (zrz 8 160 6) Fin 5 30 136 [(8, .int i), (7, .int (nI 0)), (0, .ref (zad G 0)), (1, .int (nI r)), (2, .int (nI op)), (3, .int ya), (4, .int zb), (5, .ref (zad G q)), (6, .ref (zad G q2))] [] τ) (i : Int32) : zB l G w_Sh_alter R_Sh c_Sh_alter 10 (some .int) [] (zrz 8 160 6) Fin 5 30 75 [(8, .int i), (7, .int (nI 0)), (0, .ref (zad G 0)), (1, .int (nI r)), (2, .int (nI op)), (3, .int ya), (4, .int zb), (5, .ref (zad G q)), (6, .ref (zad G q2))] [] τ := by
  have hq := h.1
  have hq2 := h2.1
  have ap := hq.apart hs hqs
  have ap2 := hq2.apart hs hqs2
  have hp := h.2.2
  have hp2 := h2.2.2
  have hn3 := hp.1
  have hn4 := hp2.1
  have z0 : (0 : Nat) ≠ s ∧ (0 : Nat) ≠ s + 1 ∧ (0 : Nat) ≠ s + 2 := by have := hs.1; omega
  have hs31 : s < 2 ^ 31 := by have := hs.lt; omega
  have e0 : τ.1 0 0 = nI s := by rw [hf.1 0 z0.1 z0.2.1 z0.2.2]; exact h0
  have eq0 : τ.1 q = σ.1 q := hf.1 q ap.1 ap.2.1 ap.2.2.1
  have eq1 : τ.1 (q + 1) = σ.1 (q + 1) := hf.1 _ ap.2.2.2.1 ap.2.2.2.2.1 ap.2.2.2.2.2.1
  have eq2 : τ.1 (q + 2) = σ.1 (q + 2) := hf.1 _ ap.2.2.2.2.2.2.1 ap.2.2.2.2.2.2.2.1 ap.2.2.2.2.2.2.2.2
  have fq0 : τ.1 q2 = σ.1 q2 := hf.1 q2 ap2.1 ap2.2.1 ap2.2.2.1
  have fq1 : τ.1 (q2 + 1) = σ.1 (q2 + 1) := hf.1 _ ap2.2.2.2.1 ap2.2.2.2.2.1 ap2.2.2.2.2.2.1
  have fq2 : τ.1 (q2 + 2) = σ.1 (q2 + 2) := hf.1 _ ap2.2.2.2.2.2.2.1 ap2.2.2.2.2.2.2.2.1 ap2.2.2.2.2.2.2.2.2
  refine zb_iload d_Sh_alter_75 rfl ?_
  refine zb_aload d_Sh_alter_77 rfl ?_
  refine zr_size (q := q) d_Sh_alter_79 fl_Sh_32 hq ?_
  refine zb_top (y := nI n) (by rw [eq0]; exact h.2.1) ?_
  refine zb_icmp_ge (tgt := 136) d_Sh_alter_82 rfl (fun hx => ?_) (fun hx => ?_)
  · refine zb_sub [0, 1, 2, 3, 4, 5, 6, 7, 8] rfl ?_
    exact K0 i
  · refine zb_iload d_Sh_alter_85 rfl ?_
    refine zb_if_eq (tgt := 136) d_Sh_alter_87 rfl (fun h87 => ?_) (fun h87 => absurd rfl h87)
    refine zb_sub [0, 1, 2, 3, 4, 5, 6, 7, 8] rfl ?_
    exact K0 i
set_option maxHeartbeats 4000000 in
set_option maxRecDepth 100000 in
theorem lf_alter2 (l : Launch) (G : zG) {σ : zS} {q q2 s n n2 op : Nat} {m m2 : Nat → Int32} (hs : zrl s) (hqs : q ≠ s) (hqs2 : q2 ≠ s) (h0 : σ.1 0 0 = nI s) (h : zr σ q n m) (h2 : zr σ q2 n2 m2) (hop : op < 6) {r : Nat} {ya zb : Int32} {Fin : List Frame → Array Value → State → State → Prop} {τ : zS} (hf : zf σ τ s) (K0 : ∀ i : Int32, zB l G w_Sh_alter R_Sh c_Sh_alter 10 (some .int) [] (zrz 8 160 6) Fin 5 30 204 [(8, .int i), (7, .int (nI 0)), (0, .ref (zad G 0)), (1, .int (nI r)), (2, .int (nI op)), (3, .int ya), (4, .int zb), (5, .ref (zad G q)), (6, .ref (zad G q2))] [] τ) (i : Int32) : zB l G w_Sh_alter R_Sh c_Sh_alter 10 (some .int) [] (zrz 8 160 6) Fin 5 30 139 [(8, .int i), (7, .int (nI 0)), (0, .ref (zad G 0)), (1, .int (nI r)), (2, .int (nI op)), (3, .int ya), (4, .int zb), (5, .ref (zad G q)), (6, .ref (zad G q2))] [] τ := by
  have hq := h.1
  have hq2 := h2.1
  have ap := hq.apart hs hqs
  have ap2 := hq2.apart hs hqs2
  have hp := h.2.2
  have hp2 := h2.2.2
  have hn3 := hp.1
  have hn4 := hp2.1
  have z0 : (0 : Nat) ≠ s ∧ (0 : Nat) ≠ s + 1 ∧ (0 : Nat) ≠ s + 2 := by have := hs.1; omega
  have hs31 : s < 2 ^ 31 := by have := hs.lt; omega
  have e0 : τ.1 0 0 = nI s := by rw [hf.1 0 z0.1 z0.2.1 z0.2.2]; exact h0
  have eq0 : τ.1 q = σ.1 q := hf.1 q ap.1 ap.2.1 ap.2.2.1
  have eq1 : τ.1 (q + 1) = σ.1 (q + 1) := hf.1 _ ap.2.2.2.1 ap.2.2.2.2.1 ap.2.2.2.2.2.1
  have eq2 : τ.1 (q + 2) = σ.1 (q + 2) := hf.1 _ ap.2.2.2.2.2.2.1 ap.2.2.2.2.2.2.2.1 ap.2.2.2.2.2.2.2.2
  have fq0 : τ.1 q2 = σ.1 q2 := hf.1 q2 ap2.1 ap2.2.1 ap2.2.2.1
  have fq1 : τ.1 (q2 + 1) = σ.1 (q2 + 1) := hf.1 _ ap2.2.2.2.1 ap2.2.2.2.2.1 ap2.2.2.2.2.2.1
  have fq2 : τ.1 (q2 + 2) = σ.1 (q2 + 2) := hf.1 _ ap2.2.2.2.2.2.2.1 ap2.2.2.2.2.2.2.2.1 ap2.2.2.2.2.2.2.2.2
  refine zb_iload d_Sh_alter_139 rfl ?_
  refine zb_aload d_Sh_alter_141 rfl ?_
  refine zr_size (q := q2) d_Sh_alter_143 fl_Sh_32 hq2 ?_
  refine zb_top (y := nI n2) (by rw [fq0]; exact h2.2.1) ?_
  refine zb_icmp_ge (tgt := 204) d_Sh_alter_146 rfl (fun hx => ?_) (fun hx => ?_)
  · refine zb_sub [0, 1, 2, 3, 4, 5, 6, 7, 8] rfl ?_
    exact K0 i
  · refine zb_iload d_Sh_alter_149 rfl ?_
    refine zb_if_eq (tgt := 204) d_Sh_alter_151 rfl (fun h151 => ?_) (fun h151 => absurd rfl h151)
    refine zb_sub [0, 1, 2, 3, 4, 5, 6, 7, 8] rfl ?_
    exact K0 i
set_option maxHeartbeats 4000000 in
set_option maxRecDepth 100000 in
theorem lp_alter1 (l : Launch) (G : zG) {σ : zS} {q q2 s n n2 op : Nat} {m m2 : Nat → Int32} (hs : zrl s) (hqs : q ≠ s) (hqs2 : q2 ≠ s) (h0 : σ.1 0 0 = nI s) (h : zr σ q n m) (h2 : zr σ q2 n2 m2) (hop : op < 6) {r : Nat} {ya zb : Int32} {Fin : List Frame → Array Value → State → State → Prop} (K1 : ∀ (τ : zS) (ns : Nat), zf σ τ s → zr τ s ns (fc (fD (fun t => alt op (m t) (m2 t))) (fun _ => 0) (σ.1 (q + 1)) (σ.1 (q + 2)) n) → zB l G w_Sh_alter R_Sh c_Sh_alter 10 (some .int) [] (zrz 8 160 6) Fin 5 30 136 [(8, .int (nI n)), (7, .int (nI 1)), (0, .ref (zad G 0)), (1, .int (nI r)), (2, .int (nI op)), (3, .int ya), (4, .int zb), (5, .ref (zad G q)), (6, .ref (zad G q2))] [] τ) (K0 : ∀ (τ : zS) (i : Int32), zf σ τ s → 300 < zct (fun t => alt op (m t) (m2 t)) 4096 → zB l G w_Sh_alter R_Sh c_Sh_alter 10 (some .int) [] (zrz 8 160 6) Fin 5 30 136 [(8, .int i), (7, .int (nI 0)), (0, .ref (zad G 0)), (1, .int (nI r)), (2, .int (nI op)), (3, .int ya), (4, .int zb), (5, .ref (zad G q)), (6, .ref (zad G q2))] [] τ) : ∀ (k i : Nat) (τ : zS) (ns : Nat), i + k = n → zf σ τ s → zr τ s ns (fc (fD (fun t => alt op (m t) (m2 t))) (fun _ => 0) (σ.1 (q + 1)) (σ.1 (q + 2)) i) → zB l G w_Sh_alter R_Sh c_Sh_alter 10 (some .int) [] (zrz 8 160 6) Fin 5 30 75 [(8, .int (nI i)), (7, .int (nI 1)), (0, .ref (zad G 0)), (1, .int (nI r)), (2, .int (nI op)), (3, .int ya), (4, .int zb), (5, .ref (zad G q)), (6, .ref (zad G q2))] [] τ := by
  intro k
  induction k with
  | zero =>
    intro i τ ns hi hf hz
    have e : i = n := by omega
    have hq := h.1
    have hq2 := h2.1
    have ap := hq.apart hs hqs
    have ap2 := hq2.apart hs hqs2
    have hp := h.2.2
    have hp2 := h2.2.2
    have hn3 := hp.1
    have hn4 := hp2.1
    have z0 : (0 : Nat) ≠ s ∧ (0 : Nat) ≠ s + 1 ∧ (0 : Nat) ≠ s + 2 := by have := hs.1; omega
    have hs31 : s < 2 ^ 31 := by have := hs.lt; omega
    have e0 : τ.1 0 0 = nI s := by rw [hf.1 0 z0.1 z0.2.1 z0.2.2]; exact h0
    have eq0 : τ.1 q = σ.1 q := hf.1 q ap.1 ap.2.1 ap.2.2.1
    have eq1 : τ.1 (q + 1) = σ.1 (q + 1) := hf.1 _ ap.2.2.2.1 ap.2.2.2.2.1 ap.2.2.2.2.2.1
    have eq2 : τ.1 (q + 2) = σ.1 (q + 2) := hf.1 _ ap.2.2.2.2.2.2.1 ap.2.2.2.2.2.2.2.1 ap.2.2.2.2.2.2.2.2
    have fq0 : τ.1 q2 = σ.1 q2 := hf.1 q2 ap2.1 ap2.2.1 ap2.2.2.1
    have fq1 : τ.1 (q2 + 1) = σ.1 (q2 + 1) := hf.1 _ ap2.2.2.2.1 ap2.2.2.2.2.1 ap2.2.2.2.2.2.1
    have fq2 : τ.1 (q2 + 2) = σ.1 (q2 + 2) := hf.1 _ ap2.2.2.2.2.2.2.1 ap2.2.2.2.2.2.2.2.1 ap2.2.2.2.2.2.2.2.2
    refine zb_iload d_Sh_alter_75 rfl ?_
    refine zb_aload d_Sh_alter_77 rfl ?_
    refine zr_size (q := q) d_Sh_alter_79 fl_Sh_32 hq ?_
    refine zb_top (y := nI n) (by rw [eq0]; exact h.2.1) ?_
    refine zb_icmp_ge (tgt := 136) d_Sh_alter_82 rfl (fun h82 => ?_) (fun h82 => absurd (nI_le (a := n) (b := i) (by omega) (by omega)) h82)
    refine zb_sub [0, 1, 2, 3, 4, 5, 6, 7, 8] rfl ?_
    rw [e] at hz ⊢
    exact K1 τ ns hf hz
  | succ k ih =>
    intro i τ ns hi hf hz
    have hlt : i < n := by omega
    have hq := h.1
    have hq2 := h2.1
    have ap := hq.apart hs hqs
    have ap2 := hq2.apart hs hqs2
    have hp := h.2.2
    have hp2 := h2.2.2
    have hn3 := hp.1
    have hn4 := hp2.1
    have z0 : (0 : Nat) ≠ s ∧ (0 : Nat) ≠ s + 1 ∧ (0 : Nat) ≠ s + 2 := by have := hs.1; omega
    have hs31 : s < 2 ^ 31 := by have := hs.lt; omega
    have e0 : τ.1 0 0 = nI s := by rw [hf.1 0 z0.1 z0.2.1 z0.2.2]; exact h0
    have eq0 : τ.1 q = σ.1 q := hf.1 q ap.1 ap.2.1 ap.2.2.1
    have eq1 : τ.1 (q + 1) = σ.1 (q + 1) := hf.1 _ ap.2.2.2.1 ap.2.2.2.2.1 ap.2.2.2.2.2.1
    have eq2 : τ.1 (q + 2) = σ.1 (q + 2) := hf.1 _ ap.2.2.2.2.2.2.1 ap.2.2.2.2.2.2.2.1 ap.2.2.2.2.2.2.2.2
    have fq0 : τ.1 q2 = σ.1 q2 := hf.1 q2 ap2.1 ap2.2.1 ap2.2.2.1
    have fq1 : τ.1 (q2 + 1) = σ.1 (q2 + 1) := hf.1 _ ap2.2.2.2.1 ap2.2.2.2.2.1 ap2.2.2.2.2.2.1
    have fq2 : τ.1 (q2 + 2) = σ.1 (q2 + 2) := hf.1 _ ap2.2.2.2.2.2.2.1 ap2.2.2.2.2.2.2.2.1 ap2.2.2.2.2.2.2.2.2
    have ht : (zN (σ.1 (q + 1) i)) < 4096 := (hp.2.1 i hlt).1
    have ha0 : (fc (fD (fun t => alt op (m t) (m2 t))) (fun _ => 0) (σ.1 (q + 1)) (σ.1 (q + 2)) i) (zN (σ.1 (q + 1) i)) = 0 := fcD_out _ _ _ _ _ (fun j hj => by have := hp.2.2.1 j i hj hlt; omega)
    have hsub : ∀ u, (fc (fD (fun t => alt op (m t) (m2 t))) (fun _ => 0) (σ.1 (q + 1)) (σ.1 (q + 2)) i) u = 0 ∨ (fc (fD (fun t => alt op (m t) (m2 t))) (fun _ => 0) (σ.1 (q + 1)) (σ.1 (q + 2)) i) u = (fun t => alt op (m t) (m2 t)) u := fun u => by
      by_cases e : ∃ j, j < i ∧ zN (σ.1 (q + 1) j) = u
      · exact Or.inr (fcD_in _ _ _ _ _ e)
      · exact Or.inl (fcD_out _ _ _ _ _ (fun j hj z => e ⟨j, hj, z⟩))
    refine zb_iload d_Sh_alter_75 rfl ?_
    refine zb_aload d_Sh_alter_77 rfl ?_
    refine zr_size (q := q) d_Sh_alter_79 fl_Sh_32 hq ?_
    refine zb_top (y := nI n) (by rw [eq0]; exact h.2.1) ?_
    refine zb_icmp_ge (tgt := 136) d_Sh_alter_82 rfl (fun h82 => absurd h82 (nI_ge (a := i) (b := n) (by omega) (by omega))) (fun h82 => ?_)
    refine zb_iload d_Sh_alter_85 rfl ?_
    refine zb_if_eq (tgt := 136) d_Sh_alter_87 rfl (fun h87 => absurd h87 (by decide)) (fun h87 => ?_)
    refine zb_aload d_Sh_alter_90 rfl ?_
    refine zr_tuples (q := q) d_Sh_alter_92 fl_Sh_60 hq ?_
    refine zb_iload d_Sh_alter_95 rfl ?_
    refine zb_ialdN (q := q + 1) (j := i) d_Sh_alter_97 (hq.t) (by rw [hq.nt]; omega) ?_
    refine zb_top (y := nI (zN (σ.1 (q + 1) i))) (by rw [eq1]; exact (hp.2.1 i hlt).2) ?_
    refine zb_istore (lv' := [(9, .int (nI (zN (σ.1 (q + 1) i)))), (8, .int (nI i)), (7, .int (nI 1)), (0, .ref (zad G 0)), (1, .int (nI r)), (2, .int (nI op)), (3, .int ya), (4, .int zb), (5, .ref (zad G q)), (6, .ref (zad G q2))]) d_Sh_alter_98 (by decide) rfl ?_
    refine zb_aload_n d_Sh_alter_100 rfl rfl ?_
    refine zs_spare d_Sh_alter_101 fl_Sh_16 ?_
    refine zb_st (st' := .ref (zad G s) :: []) (by rw [e0, nI_clamp hs31]) ?_
    refine zb_iload d_Sh_alter_104 rfl ?_
    refine zb_iload_n d_Sh_alter_106 rfl rfl ?_
    refine zb_aload d_Sh_alter_107 rfl ?_
    refine zr_counts (q := q) d_Sh_alter_109 fl_Sh_82 hq ?_
    refine zb_iload d_Sh_alter_112 rfl ?_
    refine zb_ialdN (q := q + 2) (j := i) d_Sh_alter_114 (hq.c) (by rw [hq.nc]; omega) ?_
    refine zb_top (y := m (zN (σ.1 (q + 1) i))) (by rw [eq2]; exact (hp.2.2.2.1 i hlt).2.symm) ?_
    refine zb_aload d_Sh_alter_115 rfl ?_
    refine zb_iload d_Sh_alter_117 rfl ?_
    refine zb_callV (rest := [.int (m (zN (σ.1 (q + 1) i))), .int (nI op), .int (nI (zN (σ.1 (q + 1) i))), .ref (zad G s)]) (c_countOf l G (h2.same fq0 fq1 fq2) (t := (zN (σ.1 (q + 1) i))) (by omega)) (lk_Sh_53.cw rfl rfl ⟨Nat.le_of_ble_eq_true rfl, Nat.le_of_ble_eq_true rfl⟩) (zgR hq2) rfl rfl rfl rfl (Nat.le_of_ble_eq_true rfl) d_Sh_alter_119 ⟨Nat.le_of_ble_eq_true rfl, Nat.le_of_ble_eq_true rfl⟩ ?_
    rintro _ _ ⟨rfl, rfl⟩
    refine zb_st (st' := [.int (m2 (zN (σ.1 (q + 1) i))), .int (m (zN (σ.1 (q + 1) i))), .int (nI op), .int (nI (zN (σ.1 (q + 1) i))), .ref (zad G s)]) rfl ?_
    refine zb_callS (rest := [.int (nI (zN (σ.1 (q + 1) i))), .ref (zad G s)]) (c_altered l G hop) (lk_Sh_88.cw rfl rfl ⟨Nat.le_of_ble_eq_true rfl, Nat.le_of_ble_eq_true rfl⟩) rfl rfl (Nat.le_of_ble_eq_true rfl) d_Sh_alter_122 ⟨Nat.le_of_ble_eq_true rfl, Nat.le_of_ble_eq_true rfl⟩ ?_
    rintro _ _ ⟨rfl, rfl⟩
    refine zb_st (st' := [.int (alt op (m (zN (σ.1 (q + 1) i))) (m2 (zN (σ.1 (q + 1) i)))), .int (nI (zN (σ.1 (q + 1) i))), .ref (zad G s)]) rfl ?_
    by_cases hc : (fc (fD (fun t => alt op (m t) (m2 t))) (fun _ => 0) (σ.1 (q + 1)) (σ.1 (q + 2)) i) (zN (σ.1 (q + 1) i)) ≠ 0 ∨ alt op (m (zN (σ.1 (q + 1) i))) (m2 (zN (σ.1 (q + 1) i))) = 0 ∨ ns < 300
    · refine zb_callV (rest := []) (c_raise_y l G hz (t := (zN (σ.1 (q + 1) i))) (x := alt op (m (zN (σ.1 (q + 1) i))) (m2 (zN (σ.1 (q + 1) i)))) ht hc) (lk_Sh_47.cw rfl rfl ⟨Nat.le_of_ble_eq_true rfl, Nat.le_of_ble_eq_true rfl⟩) (zgR hs) rfl rfl rfl rfl (Nat.le_of_ble_eq_true rfl) d_Sh_alter_125 ⟨Nat.le_of_ble_eq_true rfl, Nat.le_of_ble_eq_true rfl⟩ ?_
      rintro _ _ ⟨rfl, n9, w1, w2⟩
      rename_i τ9
      refine zb_st (st' := [.int 1]) rfl ?_
      refine zb_istore (lv' := [(7, .int 1), (9, .int (nI (zN (σ.1 (q + 1) i)))), (8, .int (nI i)), (0, .ref (zad G 0)), (1, .int (nI r)), (2, .int (nI op)), (3, .int ya), (4, .int zb), (5, .ref (zad G q)), (6, .ref (zad G q2))]) d_Sh_alter_128 (by decide) rfl ?_
      refine zb_lv (lv' := [(7, .int (nI 1)), (9, .int (nI (zN (σ.1 (q + 1) i)))), (8, .int (nI i)), (0, .ref (zad G 0)), (1, .int (nI r)), (2, .int (nI op)), (3, .int ya), (4, .int zb), (5, .ref (zad G q)), (6, .ref (zad G q2))]) (rfl) ?_
      refine zb_iinc (v := nI (i + 1)) (lv' := [(8, .int (nI (i + 1))), (7, .int (nI 1)), (9, .int (nI (zN (σ.1 (q + 1) i)))), (0, .ref (zad G 0)), (1, .int (nI r)), (2, .int (nI op)), (3, .int ya), (4, .int zb), (5, .ref (zad G q)), (6, .ref (zad G q2))]) d_Sh_alter_130 rfl (nI_1 i) (by decide) rfl ?_
      refine zb_goto (tgt := 75) d_Sh_alter_133 rfl ?_
      refine zb_sub [0, 1, 3, 4, 5, 6, 7, 8, 9] rfl ?_
      exact ih (i + 1) τ9 n9 (by omega) (hf.tr w2) (by rw [ha0, Int32.zero_add] at w1; exact w1)
    · refine zb_callV (rest := []) (c_raise_n l G hz (t := (zN (σ.1 (q + 1) i))) (x := alt op (m (zN (σ.1 (q + 1) i))) (m2 (zN (σ.1 (q + 1) i)))) ht hc) (lk_Sh_47.cw rfl rfl ⟨Nat.le_of_ble_eq_true rfl, Nat.le_of_ble_eq_true rfl⟩) (zgR hs) rfl rfl rfl rfl (Nat.le_of_ble_eq_true rfl) d_Sh_alter_125 ⟨Nat.le_of_ble_eq_true rfl, Nat.le_of_ble_eq_true rfl⟩ ?_
      rintro _ _ ⟨rfl, rfl⟩
      refine zb_st (st' := [.int 0]) rfl ?_
      refine zb_istore (lv' := [(7, .int 0), (9, .int (nI (zN (σ.1 (q + 1) i)))), (8, .int (nI i)), (0, .ref (zad G 0)), (1, .int (nI r)), (2, .int (nI op)), (3, .int ya), (4, .int zb), (5, .ref (zad G q)), (6, .ref (zad G q2))]) d_Sh_alter_128 (by decide) rfl ?_
      refine zb_lv (lv' := [(7, .int (nI 0)), (9, .int (nI (zN (σ.1 (q + 1) i)))), (8, .int (nI i)), (0, .ref (zad G 0)), (1, .int (nI r)), (2, .int (nI op)), (3, .int ya), (4, .int zb), (5, .ref (zad G q)), (6, .ref (zad G q2))]) (rfl) ?_
      refine zb_iinc (v := nI (i + 1)) (lv' := [(8, .int (nI (i + 1))), (7, .int (nI 0)), (9, .int (nI (zN (σ.1 (q + 1) i)))), (0, .ref (zad G 0)), (1, .int (nI r)), (2, .int (nI op)), (3, .int ya), (4, .int zb), (5, .ref (zad G q)), (6, .ref (zad G q2))]) d_Sh_alter_130 rfl (nI_1 i) (by decide) rfl ?_
      refine zb_goto (tgt := 75) d_Sh_alter_133 rfl ?_
      refine zb_sub [0, 1, 3, 4, 5, 6, 7, 8, 9] rfl ?_
      exact lf_alter1 l G hs hqs hqs2 h0 h h2 hop hf (fun j => K0 τ j hf (full hz hsub ht hc)) _
set_option maxHeartbeats 4000000 in
set_option maxRecDepth 100000 in
theorem lp_alter2 (l : Launch) (G : zG) {σ : zS} {q q2 s n n2 op : Nat} {m m2 : Nat → Int32} (hs : zrl s) (hqs : q ≠ s) (hqs2 : q2 ≠ s) (h0 : σ.1 0 0 = nI s) (h : zr σ q n m) (h2 : zr σ q2 n2 m2) (hop : op < 6) {r : Nat} {ya zb : Int32} {Fin : List Frame → Array Value → State → State → Prop} (K1 : ∀ (τ : zS) (ns : Nat), zf σ τ s → zr τ s ns (fc (fE m (fun t => alt op (m t) (m2 t))) (fc (fD (fun t => alt op (m t) (m2 t))) (fun _ => 0) (σ.1 (q + 1)) (σ.1 (q + 2)) n) (σ.1 (q2 + 1)) (σ.1 (q2 + 2)) n2) → zB l G w_Sh_alter R_Sh c_Sh_alter 10 (some .int) [] (zrz 8 160 6) Fin 5 30 204 [(8, .int (nI n2)), (7, .int (nI 1)), (0, .ref (zad G 0)), (1, .int (nI r)), (2, .int (nI op)), (3, .int ya), (4, .int zb), (5, .ref (zad G q)), (6, .ref (zad G q2))] [] τ) (K0 : ∀ (τ : zS) (i : Int32), zf σ τ s → 300 < zct (fun t => alt op (m t) (m2 t)) 4096 → zB l G w_Sh_alter R_Sh c_Sh_alter 10 (some .int) [] (zrz 8 160 6) Fin 5 30 204 [(8, .int i), (7, .int (nI 0)), (0, .ref (zad G 0)), (1, .int (nI r)), (2, .int (nI op)), (3, .int ya), (4, .int zb), (5, .ref (zad G q)), (6, .ref (zad G q2))] [] τ) : ∀ (k i : Nat) (τ : zS) (ns : Nat), i + k = n2 → zf σ τ s → zr τ s ns (fc (fE m (fun t => alt op (m t) (m2 t))) (fc (fD (fun t => alt op (m t) (m2 t))) (fun _ => 0) (σ.1 (q + 1)) (σ.1 (q + 2)) n) (σ.1 (q2 + 1)) (σ.1 (q2 + 2)) i) → zB l G w_Sh_alter R_Sh c_Sh_alter 10 (some .int) [] (zrz 8 160 6) Fin 5 30 139 [(8, .int (nI i)), (7, .int (nI 1)), (0, .ref (zad G 0)), (1, .int (nI r)), (2, .int (nI op)), (3, .int ya), (4, .int zb), (5, .ref (zad G q)), (6, .ref (zad G q2))] [] τ := by
  intro k
  induction k with
  | zero =>
    intro i τ ns hi hf hz
    have e : i = n2 := by omega
    have hq := h.1
    have hq2 := h2.1
    have ap := hq.apart hs hqs
    have ap2 := hq2.apart hs hqs2
    have hp := h.2.2
    have hp2 := h2.2.2
    have hn3 := hp.1
    have hn4 := hp2.1
    have z0 : (0 : Nat) ≠ s ∧ (0 : Nat) ≠ s + 1 ∧ (0 : Nat) ≠ s + 2 := by have := hs.1; omega
    have hs31 : s < 2 ^ 31 := by have := hs.lt; omega
    have e0 : τ.1 0 0 = nI s := by rw [hf.1 0 z0.1 z0.2.1 z0.2.2]; exact h0
    have eq0 : τ.1 q = σ.1 q := hf.1 q ap.1 ap.2.1 ap.2.2.1
    have eq1 : τ.1 (q + 1) = σ.1 (q + 1) := hf.1 _ ap.2.2.2.1 ap.2.2.2.2.1 ap.2.2.2.2.2.1
    have eq2 : τ.1 (q + 2) = σ.1 (q + 2) := hf.1 _ ap.2.2.2.2.2.2.1 ap.2.2.2.2.2.2.2.1 ap.2.2.2.2.2.2.2.2
    have fq0 : τ.1 q2 = σ.1 q2 := hf.1 q2 ap2.1 ap2.2.1 ap2.2.2.1
    have fq1 : τ.1 (q2 + 1) = σ.1 (q2 + 1) := hf.1 _ ap2.2.2.2.1 ap2.2.2.2.2.1 ap2.2.2.2.2.2.1
    have fq2 : τ.1 (q2 + 2) = σ.1 (q2 + 2) := hf.1 _ ap2.2.2.2.2.2.2.1 ap2.2.2.2.2.2.2.2.1 ap2.2.2.2.2.2.2.2.2
    refine zb_iload d_Sh_alter_139 rfl ?_
    refine zb_aload d_Sh_alter_141 rfl ?_
    refine zr_size (q := q2) d_Sh_alter_143 fl_Sh_32 hq2 ?_
    refine zb_top (y := nI n2) (by rw [fq0]; exact h2.2.1) ?_
    refine zb_icmp_ge (tgt := 204) d_Sh_alter_146 rfl (fun h146 => ?_) (fun h146 => absurd (nI_le (a := n2) (b := i) (by omega) (by omega)) h146)
    refine zb_sub [0, 1, 2, 3, 4, 5, 6, 7, 8] rfl ?_
    rw [e] at hz ⊢
    exact K1 τ ns hf hz
  | succ k ih =>
    intro i τ ns hi hf hz
    have hlt : i < n2 := by omega
    have hq := h.1
    have hq2 := h2.1
    have ap := hq.apart hs hqs
    have ap2 := hq2.apart hs hqs2
    have hp := h.2.2
    have hp2 := h2.2.2
    have hn3 := hp.1
    have hn4 := hp2.1
    have z0 : (0 : Nat) ≠ s ∧ (0 : Nat) ≠ s + 1 ∧ (0 : Nat) ≠ s + 2 := by have := hs.1; omega
    have hs31 : s < 2 ^ 31 := by have := hs.lt; omega
    have e0 : τ.1 0 0 = nI s := by rw [hf.1 0 z0.1 z0.2.1 z0.2.2]; exact h0
    have eq0 : τ.1 q = σ.1 q := hf.1 q ap.1 ap.2.1 ap.2.2.1
    have eq1 : τ.1 (q + 1) = σ.1 (q + 1) := hf.1 _ ap.2.2.2.1 ap.2.2.2.2.1 ap.2.2.2.2.2.1
    have eq2 : τ.1 (q + 2) = σ.1 (q + 2) := hf.1 _ ap.2.2.2.2.2.2.1 ap.2.2.2.2.2.2.2.1 ap.2.2.2.2.2.2.2.2
    have fq0 : τ.1 q2 = σ.1 q2 := hf.1 q2 ap2.1 ap2.2.1 ap2.2.2.1
    have fq1 : τ.1 (q2 + 1) = σ.1 (q2 + 1) := hf.1 _ ap2.2.2.2.1 ap2.2.2.2.2.1 ap2.2.2.2.2.2.1
    have fq2 : τ.1 (q2 + 2) = σ.1 (q2 + 2) := hf.1 _ ap2.2.2.2.2.2.2.1 ap2.2.2.2.2.2.2.2.1 ap2.2.2.2.2.2.2.2.2
    have ht : (zN (σ.1 (q2 + 1) i)) < 4096 := (hp2.2.1 i hlt).1
    have hA : ∀ u, (fc (fD (fun t => alt op (m t) (m2 t))) (fun _ => 0) (σ.1 (q + 1)) (σ.1 (q + 2)) n) u = 0 ∨ (fc (fD (fun t => alt op (m t) (m2 t))) (fun _ => 0) (σ.1 (q + 1)) (σ.1 (q + 2)) n) u = (fun t => alt op (m t) (m2 t)) u := fun u => by
      by_cases e : ∃ j, j < n ∧ zN (σ.1 (q + 1) j) = u
      · exact Or.inr (fcD_in _ _ _ _ _ e)
      · exact Or.inl (fcD_out _ _ _ _ _ (fun j hj z => e ⟨j, hj, z⟩))
    have ha0 : m (zN (σ.1 (q2 + 1) i)) = 0 → (fc (fE m (fun t => alt op (m t) (m2 t))) (fc (fD (fun t => alt op (m t) (m2 t))) (fun _ => 0) (σ.1 (q + 1)) (σ.1 (q + 2)) n) (σ.1 (q2 + 1)) (σ.1 (q2 + 2)) i) (zN (σ.1 (q2 + 1) i)) = 0 := fun hm => by
      rw [fcE_out _ _ _ _ _ _ _ (fun j hj => by have := hp2.2.2.1 j i hj hlt; omega)]
      exact fcD_out _ _ _ _ _ (fun j hj z => (hp.2.2.2.1 j hj).1 (by rw [← (hp.2.2.2.1 j hj).2, z]; exact hm))
    have hsub : ∀ u, (fc (fE m (fun t => alt op (m t) (m2 t))) (fc (fD (fun t => alt op (m t) (m2 t))) (fun _ => 0) (σ.1 (q + 1)) (σ.1 (q + 2)) n) (σ.1 (q2 + 1)) (σ.1 (q2 + 2)) i) u = 0 ∨ (fc (fE m (fun t => alt op (m t) (m2 t))) (fc (fD (fun t => alt op (m t) (m2 t))) (fun _ => 0) (σ.1 (q + 1)) (σ.1 (q + 2)) n) (σ.1 (q2 + 1)) (σ.1 (q2 + 2)) i) u = (fun t => alt op (m t) (m2 t)) u := fun u => by
      rcases fcE_t m (fun t => alt op (m t) (m2 t)) (fc (fD (fun t => alt op (m t) (m2 t))) (fun _ => 0) (σ.1 (q + 1)) (σ.1 (q + 2)) n) (σ.1 (q2 + 1)) (σ.1 (q2 + 2)) i u with z | z
      · rw [z]; exact hA u
      · exact Or.inr z.2
    refine zb_iload d_Sh_alter_139 rfl ?_
    refine zb_aload d_Sh_alter_141 rfl ?_
    refine zr_size (q := q2) d_Sh_alter_143 fl_Sh_32 hq2 ?_
    refine zb_top (y := nI n2) (by rw [fq0]; exact h2.2.1) ?_
    refine zb_icmp_ge (tgt := 204) d_Sh_alter_146 rfl (fun h146 => absurd h146 (nI_ge (a := i) (b := n2) (by omega) (by omega))) (fun h146 => ?_)
    refine zb_iload d_Sh_alter_149 rfl ?_
    refine zb_if_eq (tgt := 204) d_Sh_alter_151 rfl (fun h151 => absurd h151 (by decide)) (fun h151 => ?_)
    refine zb_aload d_Sh_alter_154 rfl ?_
    refine zr_tuples (q := q2) d_Sh_alter_156 fl_Sh_60 hq2 ?_
    refine zb_iload d_Sh_alter_159 rfl ?_
    refine zb_ialdN (q := q2 + 1) (j := i) d_Sh_alter_161 (hq2.t) (by rw [hq2.nt]; omega) ?_
    refine zb_top (y := nI (zN (σ.1 (q2 + 1) i))) (by rw [fq1]; exact (hp2.2.1 i hlt).2) ?_
    refine zb_istore (lv' := [(9, .int (nI (zN (σ.1 (q2 + 1) i)))), (8, .int (nI i)), (7, .int (nI 1)), (0, .ref (zad G 0)), (1, .int (nI r)), (2, .int (nI op)), (3, .int ya), (4, .int zb), (5, .ref (zad G q)), (6, .ref (zad G q2))]) d_Sh_alter_162 (by decide) rfl ?_
    refine zb_aload d_Sh_alter_164 rfl ?_
    refine zb_iload d_Sh_alter_166 rfl ?_
    refine zb_callV (rest := []) (c_countOf l G (h.same eq0 eq1 eq2) (t := (zN (σ.1 (q2 + 1) i))) (by omega)) (lk_Sh_53.cw rfl rfl ⟨Nat.le_of_ble_eq_true rfl, Nat.le_of_ble_eq_true rfl⟩) (zgR hq) rfl rfl rfl rfl (Nat.le_of_ble_eq_true rfl) d_Sh_alter_168 ⟨Nat.le_of_ble_eq_true rfl, Nat.le_of_ble_eq_true rfl⟩ ?_
    rintro _ _ ⟨rfl, rfl⟩
    refine zb_st (st' := [.int (m (zN (σ.1 (q2 + 1) i)))]) rfl ?_
    refine zb_if_ne (tgt := 198) d_Sh_alter_171 rfl (fun h171 => ?_) (fun h171 => ?_)
    · refine zb_iinc (v := nI (i + 1)) (lv' := [(8, .int (nI (i + 1))), (9, .int (nI (zN (σ.1 (q2 + 1) i)))), (7, .int (nI 1)), (0, .ref (zad G 0)), (1, .int (nI r)), (2, .int (nI op)), (3, .int ya), (4, .int zb), (5, .ref (zad G q)), (6, .ref (zad G q2))]) d_Sh_alter_198 rfl (nI_1 i) (by decide) rfl ?_
      refine zb_goto (tgt := 139) d_Sh_alter_201 rfl ?_
      refine zb_sub [0, 2, 3, 4, 5, 6, 7, 8, 9] rfl ?_
      exact ih (i + 1) τ ns (by omega) hf (by show zr τ s ns (fE m (fun t => alt op (m t) (m2 t)) _ _ _); rw [fE, if_neg h171]; exact hz)
    · refine zb_aload_n d_Sh_alter_174 rfl rfl ?_
      refine zs_spare d_Sh_alter_175 fl_Sh_16 ?_
      refine zb_st (st' := .ref (zad G s) :: []) (by rw [e0, nI_clamp hs31]) ?_
      refine zb_iload d_Sh_alter_178 rfl ?_
      refine zb_iload_n d_Sh_alter_180 rfl rfl ?_
      refine zb_iconst (v := 0) d_Sh_alter_181 rfl ?_
      refine zb_aload d_Sh_alter_182 rfl ?_
      refine zr_counts (q := q2) d_Sh_alter_184 fl_Sh_82 hq2 ?_
      refine zb_iload d_Sh_alter_187 rfl ?_
      refine zb_ialdN (q := q2 + 2) (j := i) d_Sh_alter_189 (hq2.c) (by rw [hq2.nc]; omega) ?_
      refine zb_top (y := m2 (zN (σ.1 (q2 + 1) i))) (by rw [fq2]; exact (hp2.2.2.2.1 i hlt).2.symm) ?_
      refine zb_callS (rest := [.int (nI (zN (σ.1 (q2 + 1) i))), .ref (zad G s)]) (c_altered l G hop) (lk_Sh_88.cw rfl rfl ⟨Nat.le_of_ble_eq_true rfl, Nat.le_of_ble_eq_true rfl⟩) rfl rfl (Nat.le_of_ble_eq_true rfl) d_Sh_alter_190 ⟨Nat.le_of_ble_eq_true rfl, Nat.le_of_ble_eq_true rfl⟩ ?_
      rintro _ _ ⟨rfl, rfl⟩
      refine zb_st (st' := [.int (alt op 0 (m2 (zN (σ.1 (q2 + 1) i)))), .int (nI (zN (σ.1 (q2 + 1) i))), .ref (zad G s)]) rfl ?_
      by_cases hc : (fc (fE m (fun t => alt op (m t) (m2 t))) (fc (fD (fun t => alt op (m t) (m2 t))) (fun _ => 0) (σ.1 (q + 1)) (σ.1 (q + 2)) n) (σ.1 (q2 + 1)) (σ.1 (q2 + 2)) i) (zN (σ.1 (q2 + 1) i)) ≠ 0 ∨ alt op 0 (m2 (zN (σ.1 (q2 + 1) i))) = 0 ∨ ns < 300
      · refine zb_callV (rest := []) (c_raise_y l G hz (t := (zN (σ.1 (q2 + 1) i))) (x := alt op 0 (m2 (zN (σ.1 (q2 + 1) i)))) ht hc) (lk_Sh_47.cw rfl rfl ⟨Nat.le_of_ble_eq_true rfl, Nat.le_of_ble_eq_true rfl⟩) (zgR hs) rfl rfl rfl rfl (Nat.le_of_ble_eq_true rfl) d_Sh_alter_193 ⟨Nat.le_of_ble_eq_true rfl, Nat.le_of_ble_eq_true rfl⟩ ?_
        rintro _ _ ⟨rfl, n9, w1, w2⟩
        rename_i τ9
        refine zb_st (st' := [.int 1]) rfl ?_
        refine zb_istore (lv' := [(7, .int 1), (9, .int (nI (zN (σ.1 (q2 + 1) i)))), (8, .int (nI i)), (0, .ref (zad G 0)), (1, .int (nI r)), (2, .int (nI op)), (3, .int ya), (4, .int zb), (5, .ref (zad G q)), (6, .ref (zad G q2))]) d_Sh_alter_196 (by decide) rfl ?_
        refine zb_lv (lv' := [(7, .int (nI 1)), (9, .int (nI (zN (σ.1 (q2 + 1) i)))), (8, .int (nI i)), (0, .ref (zad G 0)), (1, .int (nI r)), (2, .int (nI op)), (3, .int ya), (4, .int zb), (5, .ref (zad G q)), (6, .ref (zad G q2))]) (rfl) ?_
        refine zb_iinc (v := nI (i + 1)) (lv' := [(8, .int (nI (i + 1))), (7, .int (nI 1)), (9, .int (nI (zN (σ.1 (q2 + 1) i)))), (0, .ref (zad G 0)), (1, .int (nI r)), (2, .int (nI op)), (3, .int ya), (4, .int zb), (5, .ref (zad G q)), (6, .ref (zad G q2))]) d_Sh_alter_198 rfl (nI_1 i) (by decide) rfl ?_
        refine zb_goto (tgt := 139) d_Sh_alter_201 rfl ?_
        refine zb_sub [0, 1, 3, 4, 5, 6, 7, 8, 9] rfl ?_
        exact ih (i + 1) τ9 n9 (by omega) (hf.tr w2) (by rw [ha0 h171, Int32.zero_add] at w1; show zr τ9 s n9 (fE m (fun t => alt op (m t) (m2 t)) _ _ _); rw [fE, if_pos h171, h171]; exact w1)
      · refine zb_callV (rest := []) (c_raise_n l G hz (t := (zN (σ.1 (q2 + 1) i))) (x := alt op 0 (m2 (zN (σ.1 (q2 + 1) i)))) ht hc) (lk_Sh_47.cw rfl rfl ⟨Nat.le_of_ble_eq_true rfl, Nat.le_of_ble_eq_true rfl⟩) (zgR hs) rfl rfl rfl rfl (Nat.le_of_ble_eq_true rfl) d_Sh_alter_193 ⟨Nat.le_of_ble_eq_true rfl, Nat.le_of_ble_eq_true rfl⟩ ?_
        rintro _ _ ⟨rfl, rfl⟩
        refine zb_st (st' := [.int 0]) rfl ?_
        refine zb_istore (lv' := [(7, .int 0), (9, .int (nI (zN (σ.1 (q2 + 1) i)))), (8, .int (nI i)), (0, .ref (zad G 0)), (1, .int (nI r)), (2, .int (nI op)), (3, .int ya), (4, .int zb), (5, .ref (zad G q)), (6, .ref (zad G q2))]) d_Sh_alter_196 (by decide) rfl ?_
        refine zb_lv (lv' := [(7, .int (nI 0)), (9, .int (nI (zN (σ.1 (q2 + 1) i)))), (8, .int (nI i)), (0, .ref (zad G 0)), (1, .int (nI r)), (2, .int (nI op)), (3, .int ya), (4, .int zb), (5, .ref (zad G q)), (6, .ref (zad G q2))]) (rfl) ?_
        refine zb_iinc (v := nI (i + 1)) (lv' := [(8, .int (nI (i + 1))), (7, .int (nI 0)), (9, .int (nI (zN (σ.1 (q2 + 1) i)))), (0, .ref (zad G 0)), (1, .int (nI r)), (2, .int (nI op)), (3, .int ya), (4, .int zb), (5, .ref (zad G q)), (6, .ref (zad G q2))]) d_Sh_alter_198 rfl (nI_1 i) (by decide) rfl ?_
        refine zb_goto (tgt := 139) d_Sh_alter_201 rfl ?_
        refine zb_sub [0, 1, 3, 4, 5, 6, 7, 8, 9] rfl ?_
        exact lf_alter2 l G hs hqs hqs2 h0 h h2 hop hf (fun j => K0 τ j hf (full hz hsub ht (by show ¬ (_ ∨ alt op (m (zN (σ.1 (q2 + 1) i))) (m2 (zN (σ.1 (q2 + 1) i))) = 0 ∨ _); rw [h171]; exact hc))) _
theorem alt_00 : ∀ op, op < 6 → alt op 0 0 = 0 := by decide +kernel
theorem alt_all {T C T2 C2 m m2 : Nat → Int32} {n n2 op : Nat} (h : zp T C n m) (h2 : zp T2 C2 n2 m2) (ho : op < 6) : fc (fE m (fun t => alt op (m t) (m2 t))) (fc (fD (fun t => alt op (m t) (m2 t))) (fun _ => 0) T C n) T2 C2 n2 = (fun t => alt op (m t) (m2 t)) := by
  funext t
  by_cases a : m t = 0
  · by_cases b : m2 t = 0
    · rw [fcE_out _ _ _ _ _ _ _ (fun j hj z => (h2.2.2.2.1 j hj).1 (by rw [← (h2.2.2.2.1 j hj).2, z]; exact b)), fcD_out _ _ _ _ _ (fun j hj z => (h.2.2.2.1 j hj).1 (by rw [← (h.2.2.2.1 j hj).2, z]; exact a))]
      show 0 = alt op (m t) (m2 t)
      rw [a, b, alt_00 op ho]
    · exact fcE_in _ _ _ _ _ _ _ a (h2.2.2.2.2 t b)
  · rcases fcE_t m (fun t => alt op (m t) (m2 t)) (fc (fD (fun t => alt op (m t) (m2 t))) (fun _ => 0) T C n) T2 C2 n2 t with z | z
    · rw [z]; exact fcD_in _ _ _ _ _ (h.2.2.2.2 t a)
    · exact absurd z.1 a
end
section
set_option maxHeartbeats 4000000 in
set_option maxRecDepth 100000 in
/-- alter(to, op, a, b) -/
theorem c_alter (l : Launch) (G : zG) {σ : zS} {x o y z : Int32} {M : Nat → Nat → Int32} {w : Nat → Nat} (hl : l.stackTraces = false) (hw : zwf σ M w) : zCX l G y_Sh_alter w_Sh_alter (zrz 8 160 6) 6 36 [.ref (zad G 0), .int x, .int o, .int y, .int z] σ (fun v σ' => ∃ r op a b : Nat, r < 8 ∧ x = nI r ∧ op < 6 ∧ o = nI op ∧ a < 8 ∧ y = nI a ∧ b < 8 ∧ z = nI b ∧ w a = w b ∧ zct (fun t => alt op (M a t) (M b t)) 4096 ≤ 300 ∧ v = some (.int (nI (zct (fun t => alt op (M a t) (M b t)) 4096))) ∧ zwf σ' (uM M r (fun t => alt op (M a t) (M b t))) (uM w r (w a)) ∧ zk σ σ') (fun E σ' => (E = zNS ∧ ¬ (zgr x ∧ zgr y ∧ zgr z) ∨ (E = zIA ∧ ∃ r a b : Nat, r < 8 ∧ x = nI r ∧ a < 8 ∧ y = nI a ∧ b < 8 ∧ z = nI b ∧ ¬ ∃ op : Nat, op < 6 ∧ o = nI op ∧ w a = w b) ∨ E = zIS ∧ ∃ r op a b : Nat, r < 8 ∧ x = nI r ∧ op < 6 ∧ o = nI op ∧ a < 8 ∧ y = nI a ∧ b < 8 ∧ z = nI b ∧ w a = w b ∧ 300 < zct (fun t => alt op (M a t) (M b t)) 4096) ∧ zwf σ' M w ∧ zk σ σ') := by
  refine zCX_of (cc := c_Sh_alter) (nL := 10) (ret := (some .int)) (own := R_Sh) (by decide +kernel) rfl rfl (Nat.le_of_ble_eq_true rfl) ?_
  refine zb_lv (lv' := [(0, .ref (zad G 0)), (1, .int x), (2, .int o), (3, .int y), (4, .int z)]) rfl ?_
  refine zb_iload_n d_Sh_alter_0 rfl rfl ?_
  refine zx_callS (rest := []) (c_mustBe l G hl) (lk_Sh_63.cw rfl rfl ⟨Nat.le_of_ble_eq_true rfl, Nat.le_of_ble_eq_true rfl⟩) rfl rfl (Nat.le_of_ble_eq_true rfl) d_Sh_alter_1 ⟨Nat.le_of_ble_eq_true rfl, Nat.le_of_ble_eq_true rfl⟩ ?_ ?_
  rotate_left
  · rintro E _ ⟨rfl, hx, rfl⟩; exact zx_out ⟨Or.inl ⟨rfl, fun z => hx z.1⟩, hw, zk.rf _⟩ (Nat.le_of_ble_eq_true rfl) (Nat.le_of_ble_eq_true rfl)
  rintro _ _ ⟨rfl, ⟨r, hr, rfl⟩, rfl⟩
  refine zb_lv (lv' := [(0, .ref (zad G 0)), (1, .int (nI r)), (2, .int o), (3, .int y), (4, .int z)]) rfl ?_
  refine zb_st (st' := []) rfl ?_
  refine zb_aload_n d_Sh_alter_4 rfl rfl ?_
  refine zb_iload_n d_Sh_alter_5 rfl rfl ?_
  refine zx_callV (rest := []) (c_relationOf l G hl) (lk_Sh_24.cw rfl rfl ⟨Nat.le_of_ble_eq_true rfl, Nat.le_of_ble_eq_true rfl⟩) zgS rfl rfl rfl rfl (Nat.le_of_ble_eq_true rfl) d_Sh_alter_6 ⟨Nat.le_of_ble_eq_true rfl, Nat.le_of_ble_eq_true rfl⟩ ?_ ?_
  rotate_left
  · rintro E _ ⟨rfl, hx, rfl⟩; exact zx_out ⟨Or.inl ⟨rfl, fun z => hx z.2.1⟩, hw, zk.rf _⟩ (Nat.le_of_ble_eq_true rfl) (Nat.le_of_ble_eq_true rfl)
  rintro _ _ ⟨a, ha, rfl, rfl, rfl⟩
  refine zb_lv (lv' := [(0, .ref (zad G 0)), (1, .int (nI r)), (2, .int o), (3, .int (nI a)), (4, .int z)]) rfl ?_
  refine zb_st (st' := [.ref (zad G (zN (σ.1 1 a)))]) rfl ?_
  refine zb_astore (lv' := [(5, .ref (zad G (zN (σ.1 1 a)))), (0, .ref (zad G 0)), (1, .int (nI r)), (2, .int o), (3, .int (nI a)), (4, .int z)]) d_Sh_alter_9 (by decide) rfl ?_
  refine zb_aload_n d_Sh_alter_11 rfl rfl ?_
  refine zb_iload d_Sh_alter_12 rfl ?_
  refine zx_callV (rest := []) (c_relationOf l G hl) (lk_Sh_24.cw rfl rfl ⟨Nat.le_of_ble_eq_true rfl, Nat.le_of_ble_eq_true rfl⟩) zgS rfl rfl rfl rfl (Nat.le_of_ble_eq_true rfl) d_Sh_alter_14 ⟨Nat.le_of_ble_eq_true rfl, Nat.le_of_ble_eq_true rfl⟩ ?_ ?_
  rotate_left
  · rintro E _ ⟨rfl, hx, rfl⟩; exact zx_out ⟨Or.inl ⟨rfl, fun z => hx z.2.2⟩, hw, zk.rf _⟩ (Nat.le_of_ble_eq_true rfl) (Nat.le_of_ble_eq_true rfl)
  rintro _ _ ⟨b, hb, rfl, rfl, rfl⟩
  refine zb_lv (lv' := [(5, .ref (zad G (zN (σ.1 1 a)))), (0, .ref (zad G 0)), (1, .int (nI r)), (2, .int o), (3, .int (nI a)), (4, .int (nI b))]) rfl ?_
  refine zb_st (st' := [.ref (zad G (zN (σ.1 1 b)))]) rfl ?_
  refine zb_astore (lv' := [(6, .ref (zad G (zN (σ.1 1 b)))), (5, .ref (zad G (zN (σ.1 1 a)))), (0, .ref (zad G 0)), (1, .int (nI r)), (2, .int o), (3, .int (nI a)), (4, .int (nI b))]) d_Sh_alter_17 (by decide) rfl ?_
  refine zb_iload_n d_Sh_alter_19 rfl rfl ?_
  refine zb_if_lt (tgt := 32) d_Sh_alter_20 rfl (fun h20 => ?_) (fun h20 => ?_)
  · refine zb_iconst (v := 0) d_Sh_alter_32 rfl ?_
    refine zx_callS (rest := []) (c_refuseUnless l G hl) (lk_Sh_28.cw rfl rfl ⟨Nat.le_of_ble_eq_true rfl, Nat.le_of_ble_eq_true rfl⟩) rfl rfl (Nat.le_of_ble_eq_true rfl) d_Sh_alter_33 ⟨Nat.le_of_ble_eq_true rfl, Nat.le_of_ble_eq_true rfl⟩ ?_ ?_
    rotate_left
    · rintro E _ ⟨rfl, -, rfl⟩; exact zx_out ⟨Or.inr (Or.inl ⟨rfl, r, a, b, hr, rfl, ha, rfl, hb, rfl, fun ⟨k, h1, e, h2⟩ => by subst e; exact absurd h20 (nI_pos (by omega))⟩), hw, zk.rf _⟩ (Nat.le_of_ble_eq_true rfl) (Nat.le_of_ble_eq_true rfl)
    rintro _ _ ⟨-, h0, -⟩
    exact absurd rfl h0
  · refine zb_iload_n d_Sh_alter_23 rfl rfl ?_
    refine zb_iconst (v := 5) d_Sh_alter_24 rfl ?_
    refine zb_icmp_gt (tgt := 32) d_Sh_alter_25 rfl (fun h25 => ?_) (fun h25 => ?_)
    · refine zb_iconst (v := 0) d_Sh_alter_32 rfl ?_
      refine zx_callS (rest := []) (c_refuseUnless l G hl) (lk_Sh_28.cw rfl rfl ⟨Nat.le_of_ble_eq_true rfl, Nat.le_of_ble_eq_true rfl⟩) rfl rfl (Nat.le_of_ble_eq_true rfl) d_Sh_alter_33 ⟨Nat.le_of_ble_eq_true rfl, Nat.le_of_ble_eq_true rfl⟩ ?_ ?_
      rotate_left
      · rintro E _ ⟨rfl, -, rfl⟩; exact zx_out ⟨Or.inr (Or.inl ⟨rfl, r, a, b, hr, rfl, ha, rfl, hb, rfl, fun ⟨k, h1, e, h2⟩ => by subst e; exact absurd h25 (nI_nlt (a := 5) (b := k) (by omega) (by decide))⟩), hw, zk.rf _⟩ (Nat.le_of_ble_eq_true rfl) (Nat.le_of_ble_eq_true rfl)
      rintro _ _ ⟨-, h0, -⟩
      exact absurd rfl h0
    · refine zb_iconst (v := 1) d_Sh_alter_28 rfl ?_
      refine zb_goto (tgt := 33) d_Sh_alter_29 rfl ?_
      refine zx_callS (rest := []) (c_refuseUnless l G hl) (lk_Sh_28.cw rfl rfl ⟨Nat.le_of_ble_eq_true rfl, Nat.le_of_ble_eq_true rfl⟩) rfl rfl (Nat.le_of_ble_eq_true rfl) d_Sh_alter_33 ⟨Nat.le_of_ble_eq_true rfl, Nat.le_of_ble_eq_true rfl⟩ ?_ ?_
      rotate_left
      · rintro E _ ⟨-, h0, -⟩; exact absurd h0 (by decide)
      rintro _ _ ⟨rfl, -, rfl⟩
      refine zb_st (st' := []) rfl ?_
      obtain ⟨op, ho31, rfl⟩ := nI_of h20
      have hop : op < 6 := by have := (nI_leI (b := 5) ho31 (by decide)).mp (Int32.not_lt.mp h25); omega
      have hwa := (hw.at ha).2.2.1
      have hwb := (hw.at hb).2.2.1
      refine zb_lv (lv' := [(6, .ref (zad G (zN (σ.1 1 b)))), (5, .ref (zad G (zN (σ.1 1 a)))), (0, .ref (zad G 0)), (1, .int (nI r)), (2, .int (nI op)), (3, .int (nI a)), (4, .int (nI b))]) (rfl) ?_
      refine zb_aload d_Sh_alter_36 rfl ?_
      refine zr_width (q := zN (σ.1 1 a)) d_Sh_alter_38 fl_Sh_40 (hw.rl ha) ?_
      refine zb_top (y := nI (w a)) ((hw.at ha).1) ?_
      refine zb_aload d_Sh_alter_41 rfl ?_
      refine zr_width (q := zN (σ.1 1 b)) d_Sh_alter_43 fl_Sh_40 (hw.rl hb) ?_
      refine zb_top (y := nI (w b)) ((hw.at hb).1) ?_
      refine zb_icmp_ne (tgt := 53) d_Sh_alter_46 rfl (fun h46 => ?_) (fun h46 => ?_)
      · refine zb_iconst (v := 0) d_Sh_alter_53 rfl ?_
        refine zx_callS (rest := []) (c_refuseUnless l G hl) (lk_Sh_28.cw rfl rfl ⟨Nat.le_of_ble_eq_true rfl, Nat.le_of_ble_eq_true rfl⟩) rfl rfl (Nat.le_of_ble_eq_true rfl) d_Sh_alter_54 ⟨Nat.le_of_ble_eq_true rfl, Nat.le_of_ble_eq_true rfl⟩ ?_ ?_
        rotate_left
        · rintro E _ ⟨rfl, -, rfl⟩; exact zx_out ⟨Or.inr (Or.inl ⟨rfl, r, a, b, hr, rfl, ha, rfl, hb, rfl, fun ⟨k, h1, e, h2⟩ => h46 (by rw [h2])⟩), hw, zk.rf _⟩ (Nat.le_of_ble_eq_true rfl) (Nat.le_of_ble_eq_true rfl)
        rintro _ _ ⟨-, h0, -⟩
        exact absurd rfl h0
      · refine zb_iconst (v := 1) d_Sh_alter_49 rfl ?_
        refine zb_goto (tgt := 54) d_Sh_alter_50 rfl ?_
        refine zx_callS (rest := []) (c_refuseUnless l G hl) (lk_Sh_28.cw rfl rfl ⟨Nat.le_of_ble_eq_true rfl, Nat.le_of_ble_eq_true rfl⟩) rfl rfl (Nat.le_of_ble_eq_true rfl) d_Sh_alter_54 ⟨Nat.le_of_ble_eq_true rfl, Nat.le_of_ble_eq_true rfl⟩ ?_ ?_
        rotate_left
        · rintro E _ ⟨-, h0, -⟩; exact absurd h0 (by decide)
        rintro _ _ ⟨rfl, -, rfl⟩
        refine zb_st (st' := []) rfl ?_
        have hww : w a = w b := (nI_eq (by omega) (by omega)).mp h46
        refine zb_aload_n d_Sh_alter_57 rfl rfl ?_
        refine zs_spare d_Sh_alter_58 fl_Sh_16 ?_
        refine zb_aload d_Sh_alter_61 rfl ?_
        refine zr_width (q := zN (σ.1 1 a)) d_Sh_alter_63 fl_Sh_40 (hw.rl ha) ?_
        refine zb_top (y := nI (w a)) ((hw.at ha).1) ?_
        refine zb_callV (rest := []) (c_startAnew l G hw.sp) (lk_Sh_36.cw rfl rfl ⟨Nat.le_of_ble_eq_true rfl, Nat.le_of_ble_eq_true rfl⟩) (zgR hw.sp) rfl rfl rfl rfl (Nat.le_of_ble_eq_true rfl) d_Sh_alter_66 ⟨Nat.le_of_ble_eq_true rfl, Nat.le_of_ble_eq_true rfl⟩ ?_
        rintro _ _ ⟨rfl, rfl⟩
        refine zb_st (st' := []) rfl ?_
        refine zb_iconst (v := 1) d_Sh_alter_69 rfl ?_
        refine zb_istore (lv' := [(7, .int 1), (6, .ref (zad G (zN (σ.1 1 b)))), (5, .ref (zad G (zN (σ.1 1 a)))), (0, .ref (zad G 0)), (1, .int (nI r)), (2, .int (nI op)), (3, .int (nI a)), (4, .int (nI b))]) d_Sh_alter_70 (by decide) rfl ?_
        refine zb_lv (lv' := [(7, .int (nI 1)), (6, .ref (zad G (zN (σ.1 1 b)))), (5, .ref (zad G (zN (σ.1 1 a)))), (0, .ref (zad G 0)), (1, .int (nI r)), (2, .int (nI op)), (3, .int (nI a)), (4, .int (nI b))]) (rfl) ?_
        refine zb_iconst (v := 0) d_Sh_alter_72 rfl ?_
        refine zb_istore (lv' := [(8, .int 0), (7, .int (nI 1)), (6, .ref (zad G (zN (σ.1 1 b)))), (5, .ref (zad G (zN (σ.1 1 a)))), (0, .ref (zad G 0)), (1, .int (nI r)), (2, .int (nI op)), (3, .int (nI a)), (4, .int (nI b))]) d_Sh_alter_73 (by decide) rfl ?_
        refine zb_lv (lv' := [(8, .int (nI 0)), (7, .int (nI 1)), (6, .ref (zad G (zN (σ.1 1 b)))), (5, .ref (zad G (zN (σ.1 1 a)))), (0, .ref (zad G 0)), (1, .int (nI r)), (2, .int (nI op)), (3, .int (nI a)), (4, .int (nI b))]) rfl ?_
        obtain ⟨n, hn⟩ := (hw.at ha).2.2.2.1
        obtain ⟨n2, hn2⟩ := (hw.at hb).2.2.2.1
        have ap := (hw.rl ha).apart hw.sp (hw.1.2 a ha).2
        have ap2 := (hw.rl hb).apart hw.sp (hw.1.2 b hb).2
        have hsn := hw.sp.1
        have hzq : zr (zst σ (zN (σ.1 0 0)) (nI (w a))) (zN (σ.1 1 a)) n (M a) := hn.same (zst_n σ _ ap.1) (zst_n σ _ ap.2.2.2.1) (zst_n σ _ ap.2.2.2.2.2.2.1)
        have hzq2 : zr (zst σ (zN (σ.1 0 0)) (nI (w a))) (zN (σ.1 1 b)) n2 (M b) := hn2.same (zst_n σ _ ap2.1) (zst_n σ _ ap2.2.2.2.1) (zst_n σ _ ap2.2.2.2.2.2.2.1)
        have h00 : (zst σ (zN (σ.1 0 0)) (nI (w a))).1 0 0 = nI (zN (σ.1 0 0)) := by rw [zst_n σ _ (by omega)]; exact hw.sp.nI
        refine zb_sub [0, 1, 4, 5, 6, 7, 8, 3, 2] rfl ?_
        refine lp_alter1 l G (s := zN (σ.1 0 0)) (q := zN (σ.1 1 a)) (q2 := zN (σ.1 1 b)) hw.sp (hw.1.2 a ha).2 (hw.1.2 b hb).2 h00 hzq hzq2 hop (fun τ ns hf hz => ?_) (fun τ i hf hfull => ?_) n 0 _ 0 (by omega) (zf.rf _ _) (zr_start hw.sp)
        · refine zb_iconst (v := 0) d_Sh_alter_136 rfl ?_
          refine zb_istore (lv' := [(8, .int 0), (7, .int (nI 1)), (0, .ref (zad G 0)), (1, .int (nI r)), (2, .int (nI op)), (3, .int (nI a)), (4, .int (nI b)), (5, .ref (zad G (zN (σ.1 1 a)))), (6, .ref (zad G (zN (σ.1 1 b))))]) d_Sh_alter_137 (by decide) rfl ?_
          refine zb_lv (lv' := [(8, .int (nI 0)), (7, .int (nI 1)), (0, .ref (zad G 0)), (1, .int (nI r)), (2, .int (nI op)), (3, .int (nI a)), (4, .int (nI b)), (5, .ref (zad G (zN (σ.1 1 a)))), (6, .ref (zad G (zN (σ.1 1 b))))]) rfl ?_
          refine zb_sub [0, 1, 2, 3, 4, 5, 6, 7, 8] rfl ?_
          refine lp_alter2 l G (s := zN (σ.1 0 0)) (q := zN (σ.1 1 a)) (q2 := zN (σ.1 1 b)) hw.sp (hw.1.2 a ha).2 (hw.1.2 b hb).2 h00 hzq hzq2 hop (fun τ2 ns2 hf2 hz2 => ?_) (fun τ2 i2 hf2 hfull2 => ?_) n2 0 τ ns (by omega) hf hz
          · refine zb_iload d_Sh_alter_204 rfl ?_
            refine zx_callS (rest := []) (c_refuseIfFull l G hl) (lk_Sh_50.cw rfl rfl ⟨Nat.le_of_ble_eq_true rfl, Nat.le_of_ble_eq_true rfl⟩) rfl rfl (Nat.le_of_ble_eq_true rfl) d_Sh_alter_206 ⟨Nat.le_of_ble_eq_true rfl, Nat.le_of_ble_eq_true rfl⟩ ?_ ?_
            rotate_left
            · rintro E _ ⟨-, h0, -⟩; exact absurd h0 (by decide)
            rintro _ _ ⟨rfl, -, rfl⟩
            refine zb_st (st' := []) rfl ?_
            have t0 : τ2.1 0 = σ.1 0 := (hf2.1 0 (by omega) (by omega) (by omega)).trans (zst_n σ _ (by omega))
            have t1 : τ2.1 1 = σ.1 1 := (hf2.1 1 (by omega) (by omega) (by omega)).trans (zst_n σ _ (by omega))
            rw [alt_all hzq.2.2 hzq2.2.2 hop] at hz2
            refine zb_aload_n d_Sh_alter_209 rfl rfl ?_
            refine zb_iload_n d_Sh_alter_210 rfl rfl ?_
            refine zb_callV (rest := []) (c_keepSpareAs l G hr (by rw [t0]; exact hw.sp) (by rw [t1]; exact hw.rl hr)) (lk_Sh_70.cw rfl rfl ⟨Nat.le_of_ble_eq_true rfl, Nat.le_of_ble_eq_true rfl⟩) zgS rfl rfl rfl rfl (Nat.le_of_ble_eq_true rfl) d_Sh_alter_211 ⟨Nat.le_of_ble_eq_true rfl, Nat.le_of_ble_eq_true rfl⟩ ?_
            rintro _ _ ⟨rfl, k1, k2, k3, k4⟩
            rename_i σ9
            refine zb_st (st' := [.int (τ2.1 (zN (τ2.1 0 0)) 1)]) rfl ?_
            exact zx_ret (zb_iret d_Sh_alter_214 rfl ⟨r, op, a, b, hr, rfl, hop, rfl, ha, rfl, hb, rfl, hww, by rw [zct_eq hz2.2.2]; exact hz2.2.2.1, zfin hw ((zst_k σ _ hw.sp).tr (zf.k hw.sp hf2)) (fun k h1 h2 h3 h4 => (hf2.1 k h1 h2 h3).trans (zst_n σ _ h1)) hr (hf2.2.2.trans (zst_0 σ _ _)) (hw.at ha).2.1 (hw.at ha).2.2.1 hz2 (fun t ht => by
              by_cases e : M a t = 0
              · by_cases e2 : M b t = 0
                · exact absurd (show alt op (M a t) (M b t) = 0 by rw [e, e2]; exact alt_00 op hop) ht
                · rw [hww]; exact (hw.at hb).2.2.2.2 t e2
              · exact (hw.at ha).2.2.2.2 t e) ⟨rfl, k1, k2, k3, k4⟩⟩)
          · refine zb_iload d_Sh_alter_204 rfl ?_
            refine zx_callS (rest := []) (c_refuseIfFull l G hl) (lk_Sh_50.cw rfl rfl ⟨Nat.le_of_ble_eq_true rfl, Nat.le_of_ble_eq_true rfl⟩) rfl rfl (Nat.le_of_ble_eq_true rfl) d_Sh_alter_206 ⟨Nat.le_of_ble_eq_true rfl, Nat.le_of_ble_eq_true rfl⟩ ?_ ?_
            rotate_left
            · rintro E _ ⟨rfl, -, rfl⟩; exact zx_out ⟨Or.inr (Or.inr ⟨rfl, r, op, a, b, hr, rfl, hop, rfl, ha, rfl, hb, rfl, hww, hfull2⟩), zwf_spare hw (fun k h1 h2 h3 h4 => (hf2.1 k h1 h2 h3).trans (zst_n σ _ h1)), (zst_k σ _ hw.sp).tr (zf.k hw.sp hf2)⟩ (Nat.le_of_ble_eq_true rfl) (Nat.le_of_ble_eq_true rfl)
            rintro _ _ ⟨-, h0, -⟩
            exact absurd rfl h0
        · refine zb_iconst (v := 0) d_Sh_alter_136 rfl ?_
          refine zb_istore (lv' := [(8, .int 0), (7, .int (nI 0)), (0, .ref (zad G 0)), (1, .int (nI r)), (2, .int (nI op)), (3, .int (nI a)), (4, .int (nI b)), (5, .ref (zad G (zN (σ.1 1 a)))), (6, .ref (zad G (zN (σ.1 1 b))))]) d_Sh_alter_137 (by decide) rfl ?_
          refine zb_lv (lv' := [(8, .int (nI 0)), (7, .int (nI 0)), (0, .ref (zad G 0)), (1, .int (nI r)), (2, .int (nI op)), (3, .int (nI a)), (4, .int (nI b)), (5, .ref (zad G (zN (σ.1 1 a)))), (6, .ref (zad G (zN (σ.1 1 b))))]) rfl ?_
          refine zb_sub [0, 1, 2, 3, 4, 5, 6, 7, 8] rfl ?_
          refine lf_alter2 l G (s := zN (σ.1 0 0)) (q := zN (σ.1 1 a)) (q2 := zN (σ.1 1 b)) hw.sp (hw.1.2 a ha).2 (hw.1.2 b hb).2 h00 hzq hzq2 hop hf (fun i3 => ?_) _
          refine zb_iload d_Sh_alter_204 rfl ?_
          refine zx_callS (rest := []) (c_refuseIfFull l G hl) (lk_Sh_50.cw rfl rfl ⟨Nat.le_of_ble_eq_true rfl, Nat.le_of_ble_eq_true rfl⟩) rfl rfl (Nat.le_of_ble_eq_true rfl) d_Sh_alter_206 ⟨Nat.le_of_ble_eq_true rfl, Nat.le_of_ble_eq_true rfl⟩ ?_ ?_
          rotate_left
          · rintro E _ ⟨rfl, -, rfl⟩; exact zx_out ⟨Or.inr (Or.inr ⟨rfl, r, op, a, b, hr, rfl, hop, rfl, ha, rfl, hb, rfl, hww, hfull⟩), zwf_spare hw (fun k h1 h2 h3 h4 => (hf.1 k h1 h2 h3).trans (zst_n σ _ h1)), (zst_k σ _ hw.sp).tr (zf.k hw.sp hf)⟩ (Nat.le_of_ble_eq_true rfl) (Nat.le_of_ble_eq_true rfl)
          rintro _ _ ⟨-, h0, -⟩
          exact absurd rfl h0
set_option maxHeartbeats 4000000 in
set_option maxRecDepth 100000 in
/-- same(a, b) -/
theorem c_same (l : Launch) (G : zG) {σ : zS} {x y : Int32} {M : Nat → Nat → Int32} {w : Nat → Nat} (hl : l.stackTraces = false) (hw : zwf σ M w) : zCX l G y_Sh_same w_Sh_same (zrz 8 130 2) 2 12 [.ref (zad G 0), .int x, .int y] σ (fun v σ' => ∃ a b : Nat, a < 8 ∧ x = nI a ∧ b < 8 ∧ y = nI b ∧ ((w a = w b ∧ M a = M b) ∧ v = some (.int 1) ∨ ¬ (w a = w b ∧ M a = M b) ∧ v = some (.int 0)) ∧ σ = σ') (fun E σ' => E = zNS ∧ ¬ (zgr x ∧ zgr y) ∧ σ = σ') := by
  refine zCX_of (cc := c_Sh_same) (nL := 5) (ret := (some .boolean)) (own := R_Sh) (by decide +kernel) rfl rfl (Nat.le_of_ble_eq_true rfl) ?_
  refine zb_lv (lv' := [(0, .ref (zad G 0)), (1, .int x), (2, .int y)]) rfl ?_
  refine zb_aload_n d_Sh_same_0 rfl rfl ?_
  refine zb_iload_n d_Sh_same_1 rfl rfl ?_
  refine zx_callV (rest := []) (c_relationOf l G hl) (lk_Sh_24.cw rfl rfl ⟨Nat.le_of_ble_eq_true rfl, Nat.le_of_ble_eq_true rfl⟩) zgS rfl rfl rfl rfl (Nat.le_of_ble_eq_true rfl) d_Sh_same_2 ⟨Nat.le_of_ble_eq_true rfl, Nat.le_of_ble_eq_true rfl⟩ ?_ ?_
  rotate_left
  · rintro E _ ⟨rfl, hx, rfl⟩; exact zx_out ⟨rfl, fun z => hx z.1, rfl⟩ (Nat.le_of_ble_eq_true rfl) (Nat.le_of_ble_eq_true rfl)
  rintro _ _ ⟨a, ha, rfl, rfl, rfl⟩
  refine zb_lv (lv' := [(0, .ref (zad G 0)), (1, .int (nI a)), (2, .int y)]) rfl ?_
  refine zb_st (st' := [.ref (zad G (zN (σ.1 1 a)))]) rfl ?_
  refine zb_astore_n (lv' := [(3, .ref (zad G (zN (σ.1 1 a)))), (0, .ref (zad G 0)), (1, .int (nI a)), (2, .int y)]) d_Sh_same_5 rfl (by decide) rfl ?_
  refine zb_aload_n d_Sh_same_6 rfl rfl ?_
  refine zb_iload_n d_Sh_same_7 rfl rfl ?_
  refine zx_callV (rest := []) (c_relationOf l G hl) (lk_Sh_24.cw rfl rfl ⟨Nat.le_of_ble_eq_true rfl, Nat.le_of_ble_eq_true rfl⟩) zgS rfl rfl rfl rfl (Nat.le_of_ble_eq_true rfl) d_Sh_same_8 ⟨Nat.le_of_ble_eq_true rfl, Nat.le_of_ble_eq_true rfl⟩ ?_ ?_
  rotate_left
  · rintro E _ ⟨rfl, hx, rfl⟩; exact zx_out ⟨rfl, fun z => hx z.2, rfl⟩ (Nat.le_of_ble_eq_true rfl) (Nat.le_of_ble_eq_true rfl)
  rintro _ _ ⟨b, hb, rfl, rfl, rfl⟩
  refine zb_lv (lv' := [(3, .ref (zad G (zN (σ.1 1 a)))), (0, .ref (zad G 0)), (1, .int (nI a)), (2, .int (nI b))]) rfl ?_
  refine zb_st (st' := [.ref (zad G (zN (σ.1 1 b)))]) rfl ?_
  refine zb_astore (lv' := [(4, .ref (zad G (zN (σ.1 1 b)))), (3, .ref (zad G (zN (σ.1 1 a)))), (0, .ref (zad G 0)), (1, .int (nI a)), (2, .int (nI b))]) d_Sh_same_11 (by decide) rfl ?_
  obtain ⟨n, hn⟩ := (hw.at ha).2.2.2.1
  obtain ⟨n2, hn2⟩ := (hw.at hb).2.2.2.1
  refine zb_aload_n d_Sh_same_13 rfl rfl ?_
  refine zb_aload d_Sh_same_14 rfl ?_
  by_cases hc : w a = w b ∧ M a = M b
  · refine zb_callV (rest := []) (c_holdsWhat l G hn hn2 (hw.at ha).1 (hw.at hb).1 (hw.at ha).2.2.1 (hw.at hb).2.2.1) (lk_Sh_119.cw rfl rfl ⟨(Nat.le_of_ble_eq_true rfl), (Nat.le_of_ble_eq_true rfl)⟩) (zgR (hw.rl ha)) rfl rfl rfl rfl (Nat.le_of_ble_eq_true rfl) d_Sh_same_16 ⟨(Nat.le_of_ble_eq_true rfl), (Nat.le_of_ble_eq_true rfl)⟩ ?_
    rintro v9 _ ⟨v1, -, rfl⟩
    cases v1 hc
    refine zb_st (st' := [.int 1]) rfl ?_
    exact zx_ret (zb_zret d_Sh_same_19 rfl rfl ⟨a, b, ha, rfl, hb, rfl, Or.inl ⟨hc, rfl⟩, rfl⟩)
  · refine zb_callV (rest := []) (c_holdsWhat l G hn hn2 (hw.at ha).1 (hw.at hb).1 (hw.at ha).2.2.1 (hw.at hb).2.2.1) (lk_Sh_119.cw rfl rfl ⟨(Nat.le_of_ble_eq_true rfl), (Nat.le_of_ble_eq_true rfl)⟩) (zgR (hw.rl ha)) rfl rfl rfl rfl (Nat.le_of_ble_eq_true rfl) d_Sh_same_16 ⟨(Nat.le_of_ble_eq_true rfl), (Nat.le_of_ble_eq_true rfl)⟩ ?_
    rintro v9 _ ⟨-, v1, rfl⟩
    cases v1 hc
    refine zb_st (st' := [.int 0]) rfl ?_
    exact zx_ret (zb_zret d_Sh_same_19 rfl rfl ⟨a, b, ha, rfl, hb, rfl, Or.inr ⟨hc, rfl⟩, rfl⟩)
/-- what about answers -/
def abt (w : Nat) (m : Nat → Int32) (k : Nat) : Int64 := if k = 0 then (nI w).toInt64 else if k = 1 then (nI (zct m 4096)).toInt64 else if k = 2 then (nI (pc16 (fm fF 0 m 4096))).toInt64 else if k = 3 then fm fS 0 m 4096 else ((fm fG none m 4096).getD 0).toInt64
set_option maxHeartbeats 4000000 in
set_option maxRecDepth 100000 in
/-- about(r, what) -/
theorem c_about (l : Launch) (G : zG) {σ : zS} {x y : Int32} {M : Nat → Nat → Int32} {w : Nat → Nat} (hl : l.stackTraces = false) (hw : zwf σ M w) : zCX l G y_Sh_about w_Sh_about (zrz 8 130 2) 2 12 [.ref (zad G 0), .int x, .int y] σ (fun v σ' => ∃ a k : Nat, a < 8 ∧ x = nI a ∧ k < 5 ∧ y = nI k ∧ v = some (.long (abt (w a) (M a) k)) ∧ σ = σ') (fun E σ' => (E = zNS ∧ ¬ zgr x ∨ E = zIA ∧ zgr x ∧ ¬ ∃ k : Nat, k < 5 ∧ y = nI k) ∧ σ = σ') := by
  refine zCX_of (cc := c_Sh_about) (nL := 4) (ret := (some .long)) (own := R_Sh) (by decide +kernel) rfl rfl (Nat.le_of_ble_eq_true rfl) ?_
  refine zb_lv (lv' := [(0, .ref (zad G 0)), (1, .int x), (2, .int y)]) rfl ?_
  refine zb_aload_n d_Sh_about_0 rfl rfl ?_
  refine zb_iload_n d_Sh_about_1 rfl rfl ?_
  refine zx_callV (rest := []) (c_relationOf l G hl) (lk_Sh_24.cw rfl rfl ⟨Nat.le_of_ble_eq_true rfl, Nat.le_of_ble_eq_true rfl⟩) zgS rfl rfl rfl rfl (Nat.le_of_ble_eq_true rfl) d_Sh_about_2 ⟨Nat.le_of_ble_eq_true rfl, Nat.le_of_ble_eq_true rfl⟩ ?_ ?_
  rotate_left
  · rintro E _ ⟨rfl, hx, rfl⟩; exact zx_out ⟨Or.inl ⟨rfl, hx⟩, rfl⟩ (Nat.le_of_ble_eq_true rfl) (Nat.le_of_ble_eq_true rfl)
  rintro _ _ ⟨a, ha, rfl, rfl, rfl⟩
  refine zb_lv (lv' := [(0, .ref (zad G 0)), (1, .int (nI a)), (2, .int y)]) rfl ?_
  refine zb_st (st' := [.ref (zad G (zN (σ.1 1 a)))]) rfl ?_
  refine zb_astore_n (lv' := [(3, .ref (zad G (zN (σ.1 1 a)))), (0, .ref (zad G 0)), (1, .int (nI a)), (2, .int y)]) d_Sh_about_5 rfl (by decide) rfl ?_
  refine zb_iload_n d_Sh_about_6 rfl rfl ?_
  refine zb_if_lt (tgt := 19) d_Sh_about_7 rfl (fun h7 => ?_) (fun h7 => ?_)
  · refine zb_iconst (v := 0) d_Sh_about_19 rfl ?_
    refine zx_callS (rest := []) (c_refuseUnless l G hl) (lk_Sh_28.cw rfl rfl ⟨Nat.le_of_ble_eq_true rfl, Nat.le_of_ble_eq_true rfl⟩) rfl rfl (Nat.le_of_ble_eq_true rfl) d_Sh_about_20 ⟨Nat.le_of_ble_eq_true rfl, Nat.le_of_ble_eq_true rfl⟩ ?_ ?_
    rotate_left
    · rintro E _ ⟨rfl, -, rfl⟩; exact zx_out ⟨Or.inr ⟨rfl, ⟨a, ha, rfl⟩, fun ⟨k, h1, e⟩ => by subst e; exact absurd h7 (nI_pos (by omega))⟩, rfl⟩ (Nat.le_of_ble_eq_true rfl) (Nat.le_of_ble_eq_true rfl)
    rintro _ _ ⟨-, h0, -⟩
    exact absurd rfl h0
  · refine zb_iload_n d_Sh_about_10 rfl rfl ?_
    refine zb_iconst (v := 4) d_Sh_about_11 rfl ?_
    refine zb_icmp_gt (tgt := 19) d_Sh_about_12 rfl (fun h12 => ?_) (fun h12 => ?_)
    · refine zb_iconst (v := 0) d_Sh_about_19 rfl ?_
      refine zx_callS (rest := []) (c_refuseUnless l G hl) (lk_Sh_28.cw rfl rfl ⟨Nat.le_of_ble_eq_true rfl, Nat.le_of_ble_eq_true rfl⟩) rfl rfl (Nat.le_of_ble_eq_true rfl) d_Sh_about_20 ⟨Nat.le_of_ble_eq_true rfl, Nat.le_of_ble_eq_true rfl⟩ ?_ ?_
      rotate_left
      · rintro E _ ⟨rfl, -, rfl⟩; exact zx_out ⟨Or.inr ⟨rfl, ⟨a, ha, rfl⟩, fun ⟨k, h1, e⟩ => by subst e; exact absurd h12 (nI_nlt (a := 4) (b := k) (by omega) (by decide))⟩, rfl⟩ (Nat.le_of_ble_eq_true rfl) (Nat.le_of_ble_eq_true rfl)
      rintro _ _ ⟨-, h0, -⟩
      exact absurd rfl h0
    · refine zb_iconst (v := 1) d_Sh_about_15 rfl ?_
      refine zb_goto (tgt := 20) d_Sh_about_16 rfl ?_
      refine zx_callS (rest := []) (c_refuseUnless l G hl) (lk_Sh_28.cw rfl rfl ⟨Nat.le_of_ble_eq_true rfl, Nat.le_of_ble_eq_true rfl⟩) rfl rfl (Nat.le_of_ble_eq_true rfl) d_Sh_about_20 ⟨Nat.le_of_ble_eq_true rfl, Nat.le_of_ble_eq_true rfl⟩ ?_ ?_
      rotate_left
      · rintro E _ ⟨-, h0, -⟩; exact absurd h0 (by decide)
      rintro _ _ ⟨rfl, -, rfl⟩
      refine zb_st (st' := []) rfl ?_
      obtain ⟨k, hk31, rfl⟩ := nI_of h7
      have hk : k < 5 := by have := (nI_leI (b := 4) hk31 (by decide)).mp (Int32.not_lt.mp h12); omega
      obtain ⟨n, hn⟩ := (hw.at ha).2.2.2.1
      refine zb_lv (lv' := [(3, .ref (zad G (zN (σ.1 1 a)))), (0, .ref (zad G 0)), (1, .int (nI a)), (2, .int (nI k))]) (rfl) ?_
      refine zb_iload_n d_Sh_about_23 rfl rfl ?_
      rcases (show k = 0 ∨ k = 1 ∨ k = 2 ∨ k = 3 ∨ k = 4 by omega) with rfl | rfl | rfl | rfl | rfl
      · refine zb_tableIn (tgt := 56) d_Sh_about_24 (by decide) (by decide) rfl rfl ?_
        refine zb_lv (lv' := [(3, .ref (zad G (zN (σ.1 1 a)))), (0, .ref (zad G 0)), (1, .int (nI a)), (2, .int (nI 0))]) rfl ?_
        refine zb_aload_n d_Sh_about_56 rfl rfl ?_
        refine zr_width (q := zN (σ.1 1 a)) d_Sh_about_57 fl_Sh_40 (hw.rl ha) ?_
        refine zb_top (y := nI (w a)) ((hw.at ha).1) ?_
        refine zb_i2l (v := (nI (w a)).toInt64) d_Sh_about_60 rfl ?_
        exact zx_ret (zb_lret d_Sh_about_61 rfl ⟨a, 0, ha, rfl, by decide, rfl, rfl, rfl⟩)
      · refine zb_tableIn (tgt := 62) d_Sh_about_24 (by decide) (by decide) rfl rfl ?_
        refine zb_lv (lv' := [(3, .ref (zad G (zN (σ.1 1 a)))), (0, .ref (zad G 0)), (1, .int (nI a)), (2, .int (nI 1))]) rfl ?_
        refine zb_aload_n d_Sh_about_62 rfl rfl ?_
        refine zr_size (q := zN (σ.1 1 a)) d_Sh_about_63 fl_Sh_32 (hw.rl ha) ?_
        refine zb_top (y := nI n) (hn.2.1) ?_
        refine zb_i2l (v := (nI n).toInt64) d_Sh_about_66 rfl ?_
        exact zx_ret (zb_lret d_Sh_about_67 rfl ⟨a, 1, ha, rfl, by decide, rfl, by show _ = some (Value.long (nI (zct (M a) 4096)).toInt64); rw [zct_eq hn.2.2], rfl⟩)
      · refine zb_tableIn (tgt := 68) d_Sh_about_24 (by decide) (by decide) rfl rfl ?_
        refine zb_lv (lv' := [(3, .ref (zad G (zN (σ.1 1 a)))), (0, .ref (zad G 0)), (1, .int (nI a)), (2, .int (nI 2))]) rfl ?_
        refine zb_aload_n d_Sh_about_68 rfl rfl ?_
        refine zb_callV (rest := []) (c_firstNumbers l G (hw.rl ha) hn.2.1 hn.2.2) (lk_Sh_108.cw rfl rfl ⟨Nat.le_of_ble_eq_true rfl, Nat.le_of_ble_eq_true rfl⟩) (zgR (hw.rl ha)) rfl rfl rfl rfl (Nat.le_of_ble_eq_true rfl) d_Sh_about_69 ⟨Nat.le_of_ble_eq_true rfl, Nat.le_of_ble_eq_true rfl⟩ ?_
        rintro _ _ ⟨rfl, rfl⟩
        refine zb_st (st' := [.int (nI (pc16 (fc fF 0 (σ.1 (zN (σ.1 1 a) + 1)) (σ.1 (zN (σ.1 1 a) + 2)) n)))]) rfl ?_
        refine zb_i2l (v := (nI (pc16 (fc fF 0 (σ.1 (zN (σ.1 1 a) + 1)) (σ.1 (zN (σ.1 1 a) + 2)) n))).toInt64) d_Sh_about_72 rfl ?_
        exact zx_ret (zb_lret d_Sh_about_73 rfl ⟨a, 2, ha, rfl, by decide, rfl, by show _ = some (Value.long (nI (pc16 (fm fF 0 (M a) 4096))).toInt64); rw [fm_eq _ _ hn.2.2], rfl⟩)
      · refine zb_tableIn (tgt := 74) d_Sh_about_24 (by decide) (by decide) rfl rfl ?_
        refine zb_lv (lv' := [(3, .ref (zad G (zN (σ.1 1 a)))), (0, .ref (zad G 0)), (1, .int (nI a)), (2, .int (nI 3))]) rfl ?_
        refine zb_aload_n d_Sh_about_74 rfl rfl ?_
        refine zb_callV (rest := []) (c_sum l G (hw.rl ha) hn.2.1 hn.2.2.1) (lk_Sh_112.cw rfl rfl ⟨Nat.le_of_ble_eq_true rfl, Nat.le_of_ble_eq_true rfl⟩) (zgR (hw.rl ha)) rfl rfl rfl rfl (Nat.le_of_ble_eq_true rfl) d_Sh_about_75 ⟨Nat.le_of_ble_eq_true rfl, Nat.le_of_ble_eq_true rfl⟩ ?_
        rintro _ _ ⟨rfl, rfl⟩
        refine zb_st (st' := [.long (fc fS 0 (σ.1 (zN (σ.1 1 a) + 1)) (σ.1 (zN (σ.1 1 a) + 2)) n)]) rfl ?_
        exact zx_ret (zb_lret d_Sh_about_78 rfl ⟨a, 3, ha, rfl, by decide, rfl, by show _ = some (Value.long (fm fS 0 (M a) 4096)); rw [fm_eq _ _ hn.2.2], rfl⟩)
      · refine zb_tableOut (tgt := 79) d_Sh_about_24 (by decide) rfl ?_
        refine zb_lv (lv' := [(3, .ref (zad G (zN (σ.1 1 a)))), (0, .ref (zad G 0)), (1, .int (nI a)), (2, .int (nI 4))]) rfl ?_
        refine zb_aload_n d_Sh_about_79 rfl rfl ?_
        refine zb_callV (rest := []) (c_greatest l G (hw.rl ha) hn.2.1 hn.2.2.1) (lk_Sh_116.cw rfl rfl ⟨Nat.le_of_ble_eq_true rfl, Nat.le_of_ble_eq_true rfl⟩) (zgR (hw.rl ha)) rfl rfl rfl rfl (Nat.le_of_ble_eq_true rfl) d_Sh_about_80 ⟨Nat.le_of_ble_eq_true rfl, Nat.le_of_ble_eq_true rfl⟩ ?_
        rintro _ _ ⟨rfl, rfl⟩
        refine zb_st (st' := [.int ((fc fG none (σ.1 (zN (σ.1 1 a) + 1)) (σ.1 (zN (σ.1 1 a) + 2)) n).getD 0)]) rfl ?_
        refine zb_i2l (v := ((fc fG none (σ.1 (zN (σ.1 1 a) + 1)) (σ.1 (zN (σ.1 1 a) + 2)) n).getD 0).toInt64) d_Sh_about_83 rfl ?_
        exact zx_ret (zb_lret d_Sh_about_84 rfl ⟨a, 4, ha, rfl, by decide, rfl, by show _ = some (Value.long ((fm fG none (M a) 4096).getD 0).toInt64); rw [fm_eq _ _ hn.2.2], rfl⟩)
end
section
/-- only the row of the numbers reached has changed -/
def z29 (σ σ' : zS) : Prop := (∀ k, k ≠ 29 → σ'.1 k = σ.1 k) ∧ σ'.2 = σ.2
theorem z29.rf (σ : zS) : z29 σ σ := ⟨fun _ _ => rfl, rfl⟩
theorem z29.tr {a b c : zS} (h : z29 a b) (h2 : z29 b c) : z29 a c := ⟨fun k hk => (h2.1 k hk).trans (h.1 k hk), h2.2.trans h.2⟩
theorem z29_zu (σ : zS) (f : Nat → Int32) : z29 σ (zu σ 29 f) := ⟨fun k hk => zu_ne σ f hk, rfl⟩
def zrow (τ : zS) (R : Nat → Nat) : Prop := ∀ x, x < 16 → τ.1 29 x = nI (R x) ∧ R x < 65536
theorem zrow_up {τ : zS} {R : Nat → Nat} (h : zrow τ R) {x v : Nat} (hv : v < 65536) : zrow (zu τ 29 (upd (τ.1 29) x (nI v))) (uM R x v) := by
  intro y hy
  rw [zu_self]
  by_cases e : y = x
  · subst e; rw [pk_us, uM_s]; exact ⟨rfl, hv⟩
  · rw [pk_un e, uM_n _ _ e]; exact h y hy
theorem ia29 : zia 29 := by unfold zia; omega
def ws (E : Nat → Nat → Prop) : Nat → Nat → Nat → Prop
  | 0 => E
  | k + 1 => fun x y => ws E k x y ∨ (ws E k x k ∧ ws E k k y)
theorem tb_div (a y : Nat) : a.testBit y = true ↔ a / 2 ^ y % 2 = 1 := by rw [Nat.testBit_eq_decide_div_mod_eq]; simp
set_option maxHeartbeats 4000000 in
set_option maxRecDepth 100000 in
theorem lp_take2 (l : Launch) (G : zG) {σ : zS} {q n : Nat} {m : Nat → Int32} (h : zr σ q n m) : ∀ (k i : Nat) (τ : zS) (R : Nat → Nat), i + k = n → z29 σ τ → zrow τ R → (∀ x y, x < 16 → y < 16 → ((R x).testBit y = true ↔ ∃ j, j < i ∧ nu (zN (σ.1 (q + 1) j)) 0 = x ∧ nu (zN (σ.1 (q + 1) j)) 1 = y)) → zB l G w_Sh_takeSteps R_Sh c_Sh_takeSteps 4 none [] (zrm 2 50) (zR G (fun v σ' => v = none ∧ z29 σ σ' ∧ ∃ R : Nat → Nat, zrow σ' R ∧ ∀ x y, x < 16 → y < 16 → ((R x).testBit y = true ↔ ∃ j, j < n ∧ nu (zN (σ.1 (q + 1) j)) 0 = x ∧ nu (zN (σ.1 (q + 1) j)) 1 = y)) 0 0) 0 0 23 [(2, .int (nI i)), (0, .ref (zad G 0)), (1, .ref (zad G q))] [] τ := by
  intro k
  induction k with
  | zero =>
    intro i τ R hi hf hR hI
    have e : i = n := by omega
    have hq := h.1
    have hp := h.2.2
    have hn3 := hp.1
    have ne : q ≠ 29 ∧ q + 1 ≠ 29 := by have := hq; unfold zrl at this; omega
    have eq0 : τ.1 q = σ.1 q := hf.1 q ne.1
    have eq1 : τ.1 (q + 1) = σ.1 (q + 1) := hf.1 _ ne.2
    refine zb_iload_n d_Sh_takeSteps_23 rfl rfl ?_
    refine zb_aload_n d_Sh_takeSteps_24 rfl rfl ?_
    refine zr_size (q := q) d_Sh_takeSteps_25 fl_Sh_32 hq ?_
    refine zb_top (y := nI n) (by rw [eq0]; exact h.2.1) ?_
    refine zb_icmp_ge (tgt := 64) d_Sh_takeSteps_28 rfl (fun h28 => ?_) (fun h28 => absurd (nI_le (a := n) (b := i) (by omega) (by omega)) h28)
    exact zb_vret d_Sh_takeSteps_64 rfl ⟨rfl, hf, R, hR, by rw [← e]; exact hI⟩
  | succ k ih =>
    intro i τ R hi hf hR hI
    have hlt : i < n := by omega
    have hq := h.1
    have hp := h.2.2
    have hn3 := hp.1
    have ne : q ≠ 29 ∧ q + 1 ≠ 29 := by have := hq; unfold zrl at this; omega
    have eq0 : τ.1 q = σ.1 q := hf.1 q ne.1
    have eq1 : τ.1 (q + 1) = σ.1 (q + 1) := hf.1 _ ne.2
    refine zb_iload_n d_Sh_takeSteps_23 rfl rfl ?_
    refine zb_aload_n d_Sh_takeSteps_24 rfl rfl ?_
    refine zr_size (q := q) d_Sh_takeSteps_25 fl_Sh_32 hq ?_
    refine zb_top (y := nI n) (by rw [eq0]; exact h.2.1) ?_
    refine zb_icmp_ge (tgt := 64) d_Sh_takeSteps_28 rfl (fun h28 => absurd h28 (nI_ge (a := i) (b := n) (by omega) (by omega))) (fun h28 => ?_)
    refine zb_aload_n d_Sh_takeSteps_31 rfl rfl ?_
    refine zr_tuples (q := q) d_Sh_takeSteps_32 fl_Sh_60 hq ?_
    refine zb_iload_n d_Sh_takeSteps_35 rfl rfl ?_
    refine zb_ialdN (q := q + 1) (j := i) d_Sh_takeSteps_36 (hq.t) (by rw [hq.nt]; omega) ?_
    refine zb_top (y := nI (zN (σ.1 (q + 1) i))) (by rw [eq1]; exact (hp.2.1 i hlt).2) ?_
    refine zb_istore_n (lv' := [(3, .int (nI (zN (σ.1 (q + 1) i)))), (2, .int (nI i)), (0, .ref (zad G 0)), (1, .ref (zad G q))]) d_Sh_takeSteps_37 rfl (by decide) rfl ?_
    refine zb_aload_n d_Sh_takeSteps_38 rfl rfl ?_
    refine zs_reached d_Sh_takeSteps_39 fl_Sh_20 ?_
    refine zb_iload_n d_Sh_takeSteps_42 rfl rfl ?_
    refine zb_iconst (v := 0) d_Sh_takeSteps_43 rfl ?_
    refine zb_callS (rest := [.ref (zad G 29)]) (c_numberAt l G (t := (zN (σ.1 (q + 1) i))) (p := 0) (hp.2.1 i hlt).1 (by decide)) (lk_Sh_85.cw rfl rfl ⟨Nat.le_of_ble_eq_true rfl, Nat.le_of_ble_eq_true rfl⟩) rfl rfl (Nat.le_of_ble_eq_true rfl) d_Sh_takeSteps_44 ⟨Nat.le_of_ble_eq_true rfl, Nat.le_of_ble_eq_true rfl⟩ ?_
    rintro _ _ ⟨rfl, rfl⟩
    refine zb_st (st' := [.int (nI (nu (zN (σ.1 (q + 1) i)) 0)), .ref (zad G 29)]) rfl ?_
    refine zb_dup2 d_Sh_takeSteps_47 rfl rfl ?_
    refine zb_ialdN (q := 29) (j := (nu (zN (σ.1 (q + 1) i)) 0)) d_Sh_takeSteps_48 (ia29) (nu_lt (zN (σ.1 (q + 1) i)) 0) ?_
    refine zb_top (y := nI (R (nu (zN (σ.1 (q + 1) i)) 0))) ((hR _ (nu_lt (zN (σ.1 (q + 1) i)) 0)).1) ?_
    refine zb_iconst (v := 1) d_Sh_takeSteps_49 rfl ?_
    refine zb_iload_n d_Sh_takeSteps_50 rfl rfl ?_
    refine zb_iconst (v := 1) d_Sh_takeSteps_51 rfl ?_
    refine zb_callS (rest := [.int 1, .int (nI (R (nu (zN (σ.1 (q + 1) i)) 0))), .int (nI (nu (zN (σ.1 (q + 1) i)) 0)), .ref (zad G 29)]) (c_numberAt l G (t := (zN (σ.1 (q + 1) i))) (p := 1) (hp.2.1 i hlt).1 (by decide)) (lk_Sh_85.cw rfl rfl ⟨Nat.le_of_ble_eq_true rfl, Nat.le_of_ble_eq_true rfl⟩) rfl rfl (Nat.le_of_ble_eq_true rfl) d_Sh_takeSteps_52 ⟨Nat.le_of_ble_eq_true rfl, Nat.le_of_ble_eq_true rfl⟩ ?_
    rintro _ _ ⟨rfl, rfl⟩
    refine zb_st (st' := [.int (nI (nu (zN (σ.1 (q + 1) i)) 1)), .int 1, .int (nI (R (nu (zN (σ.1 (q + 1) i)) 0))), .int (nI (nu (zN (σ.1 (q + 1) i)) 0)), .ref (zad G 29)]) rfl ?_
    refine zb_ishl d_Sh_takeSteps_55 ?_
    refine zb_top (y := nI (2 ^ nu (zN (σ.1 (q + 1) i)) 1)) (nI_bit _ (nu_lt (zN (σ.1 (q + 1) i)) 1)) ?_
    refine zb_ior d_Sh_takeSteps_56 ?_
    refine zb_top (y := nI (R (nu (zN (σ.1 (q + 1) i)) 0) ||| 2 ^ nu (zN (σ.1 (q + 1) i)) 1)) (nI_or _ _) ?_
    refine zb_iastN (q := 29) (j := (nu (zN (σ.1 (q + 1) i)) 0)) d_Sh_takeSteps_57 (ia29) (nu_lt (zN (σ.1 (q + 1) i)) 0) ?_
    refine zb_iinc (v := nI (i + 1)) (lv' := [(2, .int (nI (i + 1))), (3, .int (nI (zN (σ.1 (q + 1) i)))), (0, .ref (zad G 0)), (1, .ref (zad G q))]) d_Sh_takeSteps_58 rfl (nI_1 i) (by decide) rfl ?_
    refine zb_goto (tgt := 23) d_Sh_takeSteps_61 rfl ?_
    refine zb_sub [0, 2, 3] rfl ?_
    exact ih (i + 1) _ (uM R (nu (zN (σ.1 (q + 1) i)) 0) (R (nu (zN (σ.1 (q + 1) i)) 0) ||| 2 ^ nu (zN (σ.1 (q + 1) i)) 1)) (by omega) (hf.tr (z29_zu _ _)) (zrow_up hR (Nat.or_lt_two_pow (n := 16) (hR _ (nu_lt (zN (σ.1 (q + 1) i)) 0)).2 (Nat.pow_lt_pow_right (by decide) (nu_lt (zN (σ.1 (q + 1) i)) 1)))) (fun x y hx hy => by
      rw [show (∃ j, j < i + 1 ∧ nu (zN (σ.1 (q + 1) j)) 0 = x ∧ nu (zN (σ.1 (q + 1) j)) 1 = y) ↔ ((∃ j, j < i ∧ nu (zN (σ.1 (q + 1) j)) 0 = x ∧ nu (zN (σ.1 (q + 1) j)) 1 = y) ∨ (nu (zN (σ.1 (q + 1) i)) 0 = x ∧ nu (zN (σ.1 (q + 1) i)) 1 = y)) from ⟨fun ⟨j, h1, h2⟩ => by
        rcases Nat.lt_or_eq_of_le (Nat.le_of_lt_succ h1) with z | z
        · exact Or.inl ⟨j, z, h2⟩
        · subst z; exact Or.inr h2, fun hh => hh.elim (fun ⟨j, h1, h2⟩ => ⟨j, Nat.lt_succ_of_lt h1, h2⟩) (fun h2 => ⟨i, Nat.lt_succ_self _, h2⟩)⟩, ← hI x y hx hy]
      by_cases e : x = nu (zN (σ.1 (q + 1) i)) 0
      · subst e
        rw [uM_s, Nat.testBit_or, Nat.testBit_two_pow]
        simp
      · rw [uM_n _ _ e]
        simp [Ne.symm e])
set_option maxHeartbeats 4000000 in
set_option maxRecDepth 100000 in
theorem lp_take1 (l : Launch) (G : zG) {σ : zS} {q n : Nat} {m : Nat → Int32} (h : zr σ q n m) : ∀ (k i : Nat) (τ : zS), i + k = 16 → z29 σ τ → (∀ x, x < i → τ.1 29 x = nI 0) → zB l G w_Sh_takeSteps R_Sh c_Sh_takeSteps 4 none [] (zrm 2 50) (zR G (fun v σ' => v = none ∧ z29 σ σ' ∧ ∃ R : Nat → Nat, zrow σ' R ∧ ∀ x y, x < 16 → y < 16 → ((R x).testBit y = true ↔ ∃ j, j < n ∧ nu (zN (σ.1 (q + 1) j)) 0 = x ∧ nu (zN (σ.1 (q + 1) j)) 1 = y)) 0 0) 0 0 2 [(2, .int (nI i)), (0, .ref (zad G 0)), (1, .ref (zad G q))] [] τ := by
  intro k
  induction k with
  | zero =>
    intro i τ hi hf hz
    have e : i = 16 := by omega
    refine zb_iload_n d_Sh_takeSteps_2 rfl rfl ?_
    refine zb_bipush (v := 16) d_Sh_takeSteps_3 rfl ?_
    refine zb_icmp_ge (tgt := 21) d_Sh_takeSteps_5 rfl (fun h5 => ?_) (fun h5 => absurd (nI_le (a := 16) (b := i) (by omega) (by omega)) h5)
    refine zb_iconst (v := 0) d_Sh_takeSteps_21 rfl ?_
    refine zb_istore_n (lv' := [(2, .int 0), (0, .ref (zad G 0)), (1, .ref (zad G q))]) d_Sh_takeSteps_22 rfl (by decide) rfl ?_
    refine zb_lv (lv' := [(2, .int (nI 0)), (0, .ref (zad G 0)), (1, .ref (zad G q))]) rfl ?_
    refine zb_sub [0, 1, 2] rfl ?_
    exact lp_take2 l G h n 0 τ (fun _ => 0) (by omega) hf (fun x hx => ⟨hz x (by omega), Nat.zero_lt_succ _⟩) (fun x y _ _ => by simp)
  | succ k ih =>
    intro i τ hi hf hz
    have hlt : i < 16 := by omega
    refine zb_iload_n d_Sh_takeSteps_2 rfl rfl ?_
    refine zb_bipush (v := 16) d_Sh_takeSteps_3 rfl ?_
    refine zb_icmp_ge (tgt := 21) d_Sh_takeSteps_5 rfl (fun h5 => absurd h5 (nI_ge (a := i) (b := 16) (by omega) (by omega))) (fun h5 => ?_)
    refine zb_aload_n d_Sh_takeSteps_8 rfl rfl ?_
    refine zs_reached d_Sh_takeSteps_9 fl_Sh_20 ?_
    refine zb_iload_n d_Sh_takeSteps_12 rfl rfl ?_
    refine zb_iconst (v := 0) d_Sh_takeSteps_13 rfl ?_
    refine zb_iastN (q := 29) (j := i) d_Sh_takeSteps_14 (ia29) (by show i < 16; omega) ?_
    refine zb_iinc (v := nI (i + 1)) (lv' := [(2, .int (nI (i + 1))), (0, .ref (zad G 0)), (1, .ref (zad G q))]) d_Sh_takeSteps_15 rfl (nI_1 i) (by decide) rfl ?_
    refine zb_goto (tgt := 2) d_Sh_takeSteps_18 rfl ?_
    refine zb_sub [0, 1, 2] rfl ?_
    exact ih (i + 1) _ (by omega) (hf.tr (z29_zu _ _)) (fun x hx => by
      rw [zu_self]
      by_cases e : x = i
      · subst e; rw [pk_us]; rfl
      · rw [pk_un e]; exact hz x (by omega))
set_option maxHeartbeats 4000000 in
set_option maxRecDepth 100000 in
/-- takeSteps(steps) -/
theorem c_takeSteps (l : Launch) (G : zG) {σ : zS} {q n : Nat} {m : Nat → Int32} (h : zr σ q n m) : zC l G y_Sh_takeSteps w_Sh_takeSteps (zrm 2 50) 0 0 [.ref (zad G 0), .ref (zad G q)] σ (fun v σ' => v = none ∧ z29 σ σ' ∧ ∃ R : Nat → Nat, zrow σ' R ∧ ∀ x y, x < 16 → y < 16 → ((R x).testBit y = true ↔ ∃ j, j < n ∧ nu (zN (σ.1 (q + 1) j)) 0 = x ∧ nu (zN (σ.1 (q + 1) j)) 1 = y)) := by
  refine zC_of (cc := c_Sh_takeSteps) (nL := 4) (ret := none) (own := R_Sh) (by decide +kernel) rfl rfl (Nat.le_of_ble_eq_true rfl) ?_
  refine zb_lv (lv' := [(0, .ref (zad G 0)), (1, .ref (zad G q))]) rfl ?_
  refine zb_iconst (v := 0) d_Sh_takeSteps_0 rfl ?_
  refine zb_istore_n (lv' := [(2, .int 0), (0, .ref (zad G 0)), (1, .ref (zad G q))]) d_Sh_takeSteps_1 rfl (by decide) rfl ?_
  refine zb_lv (lv' := [(2, .int (nI 0)), (0, .ref (zad G 0)), (1, .ref (zad G q))]) rfl ?_
  refine zb_sub [0, 1, 2] rfl ?_
  exact lp_take1 l G h 16 0 σ rfl (z29.rf σ) (fun x hx => absurd hx (Nat.not_lt_zero x))
def fr (R : Nat → Nat) (k x : Nat) : Nat := if (R x).testBit k = true then R x ||| R k else R x
theorem fr_lt {R : Nat → Nat} {k x : Nat} (h : R x < 65536) (h2 : R k < 65536) : fr R k x < 65536 := by
  unfold fr
  split
  · exact Nat.or_lt_two_pow (n := 16) h h2
  · exact h
theorem fr_self (R : Nat → Nat) (k : Nat) : fr R k k = R k := by
  unfold fr
  split
  · exact Nat.or_self _
  · rfl
theorem fr_tb (R : Nat → Nat) (k x y : Nat) : (fr R k x).testBit y = true ↔ ((R x).testBit y = true ∨ ((R x).testBit k = true ∧ (R k).testBit y = true)) := by
  unfold fr
  by_cases h : (R x).testBit k = true
  · rw [if_pos h, Nat.testBit_or, Bool.or_eq_true]; simp [h]
  · rw [if_neg h]; simp [h]
set_option maxHeartbeats 4000000 in
set_option maxRecDepth 100000 in
theorem lp_follow1 (l : Launch) (G : zG) {σ σ1 : zS} {E : Nat → Nat → Prop} {k : Nat} {R : Nat → Nat} (hk : k < 16) (K : ∀ τ : zS, z29 σ1 τ → zrow τ (fr R k) → zB l G w_Sh_followSteps R_Sh c_Sh_followSteps 3 none [] (zrm 1 30) (zR G (fun v σ' => v = none ∧ z29 σ σ' ∧ ∃ R : Nat → Nat, zrow σ' R ∧ ∀ x y, x < 16 → y < 16 → ((R x).testBit y = true ↔ ws E 16 x y)) 0 0) 0 0 46 [(2, .int (nI 16)), (1, .int (nI k)), (0, .ref (zad G 0))] [] τ) : ∀ (j x : Nat) (τ : zS), x + j = 16 → z29 σ1 τ → zrow τ (fun z => if z < x then fr R k z else R z) → zB l G w_Sh_followSteps R_Sh c_Sh_followSteps 3 none [] (zrm 1 30) (zR G (fun v σ' => v = none ∧ z29 σ σ' ∧ ∃ R : Nat → Nat, zrow σ' R ∧ ∀ x y, x < 16 → y < 16 → ((R x).testBit y = true ↔ ws E 16 x y)) 0 0) 0 0 10 [(2, .int (nI x)), (1, .int (nI k)), (0, .ref (zad G 0))] [] τ := by
  intro j
  induction j with
  | zero =>
    intro x τ hi hf hR
    have e : x = 16 := by omega
    subst e
    refine zb_iload_n d_Sh_followSteps_10 rfl rfl ?_
    refine zb_bipush (v := 16) d_Sh_followSteps_11 rfl ?_
    refine zb_icmp_ge (tgt := 46) d_Sh_followSteps_13 rfl (fun h13 => ?_) (fun h13 => absurd (nI_le (a := 16) (b := 16) (by omega) (by omega)) h13)
    refine zb_sub [0, 1, 2] rfl ?_
    exact K τ hf (fun z hz => by
      have h9 := hR z hz
      simp only [if_pos (show z < 16 by omega)] at h9
      exact h9)
  | succ j ih =>
    intro x τ hi hf hR
    have hlt : x < 16 := by omega
    refine zb_iload_n d_Sh_followSteps_10 rfl rfl ?_
    refine zb_bipush (v := 16) d_Sh_followSteps_11 rfl ?_
    refine zb_icmp_ge (tgt := 46) d_Sh_followSteps_13 rfl (fun h13 => absurd h13 (nI_ge (a := x) (b := 16) (by omega) (by omega))) (fun h13 => ?_)
    refine zb_aload_n d_Sh_followSteps_16 rfl rfl ?_
    refine zb_iload_n d_Sh_followSteps_17 rfl rfl ?_
    refine zb_iload_n d_Sh_followSteps_18 rfl rfl ?_
    refine zb_callV (rest := []) (c_isReached l G (x := x) (y := k) (R := (fun z => if z < x then fr R k z else R z)) (by omega) (by omega) (hR x (by omega)).1 (hR x (by omega)).2) (lk_Sh_99.cw rfl rfl ⟨Nat.le_of_ble_eq_true rfl, Nat.le_of_ble_eq_true rfl⟩) zgS rfl rfl rfl rfl (Nat.le_of_ble_eq_true rfl) d_Sh_followSteps_19 ⟨Nat.le_of_ble_eq_true rfl, Nat.le_of_ble_eq_true rfl⟩ ?_
    rintro _ _ ⟨rfl, rfl⟩
    refine zb_st (st' := [.int (if (fun z => if z < x then fr R k z else R z) x / 2 ^ k % 2 = 1 then 1 else 0)]) rfl ?_
    have hx0 : (fun z => if z < x then fr R k z else R z) x = R x := if_neg (Nat.lt_irrefl _)
    have hk0 : (fun z => if z < x then fr R k z else R z) k = R k := by
      show (if k < x then fr R k k else R k) = R k
      split
      · exact fr_self R k
      · rfl
    by_cases hb : (R x).testBit k = true
    · refine zb_top (y := 1) (by rw [hx0, if_pos ((tb_div _ _).mp hb)]) ?_
      refine zb_if_eq (tgt := 40) d_Sh_followSteps_22 rfl (fun h22 => absurd h22 (by decide)) (fun h22 => ?_)
      refine zb_aload_n d_Sh_followSteps_25 rfl rfl ?_
      refine zs_reached d_Sh_followSteps_26 fl_Sh_20 ?_
      refine zb_iload_n d_Sh_followSteps_29 rfl rfl ?_
      refine zb_dup2 d_Sh_followSteps_30 rfl rfl ?_
      refine zb_ialdN (q := 29) (j := x) d_Sh_followSteps_31 (ia29) (by show x < 16; omega) ?_
      refine zb_top (y := nI (R x)) (by rw [(hR x (by omega)).1, hx0]) ?_
      refine zb_aload_n d_Sh_followSteps_32 rfl rfl ?_
      refine zs_reached d_Sh_followSteps_33 fl_Sh_20 ?_
      refine zb_iload_n d_Sh_followSteps_36 rfl rfl ?_
      refine zb_ialdN (q := 29) (j := k) d_Sh_followSteps_37 (ia29) (by show k < 16; omega) ?_
      refine zb_top (y := nI (R k)) (by rw [(hR k (by omega)).1, hk0]) ?_
      refine zb_ior d_Sh_followSteps_38 ?_
      refine zb_top (y := nI (R x ||| R k)) (nI_or _ _) ?_
      refine zb_iastN (q := 29) (j := x) d_Sh_followSteps_39 (ia29) (by show x < 16; omega) ?_
      refine zb_iinc (v := nI (x + 1)) (lv' := [(2, .int (nI (x + 1))), (1, .int (nI k)), (0, .ref (zad G 0))]) d_Sh_followSteps_40 rfl (nI_1 x) (by decide) rfl ?_
      refine zb_goto (tgt := 10) d_Sh_followSteps_43 rfl ?_
      refine zb_sub [0, 1, 2] rfl ?_
      exact ih (x + 1) _ (by omega) (hf.tr (z29_zu _ _)) (fun z hz => by
        have hzz := hR z hz
        by_cases e : z = x
        · subst e
          show (zu _ 29 _).1 29 z = nI (if z < z + 1 then fr R k z else R z) ∧ _
          rw [zu_self, pk_us, if_pos (Nat.lt_succ_self z)]
          have h9 := hx0 ▸ (hR z hz).2
          have h8 := hk0 ▸ (hR k (by omega)).2
          exact ⟨by rw [fr, if_pos hb], by show (if z < z + 1 then fr R k z else R z) < _; rw [if_pos (Nat.lt_succ_self z)]; exact fr_lt h9 h8⟩
        · show (zu _ 29 _).1 29 z = nI (if z < x + 1 then fr R k z else R z) ∧ (if z < x + 1 then fr R k z else R z) < _
          rw [zu_self, pk_un e]
          by_cases e2 : z < x
          · simp only [if_pos e2] at hzz; rw [if_pos (show z < x + 1 by omega)]; exact hzz
          · simp only [if_neg e2] at hzz; rw [if_neg (show ¬ z < x + 1 by omega)]; exact hzz)
    · refine zb_top (y := 0) (by rw [hx0, if_neg (fun z => hb ((tb_div _ _).mpr z))]) ?_
      refine zb_if_eq (tgt := 40) d_Sh_followSteps_22 rfl (fun h22 => ?_) (fun h22 => absurd rfl h22)
      refine zb_iinc (v := nI (x + 1)) (lv' := [(2, .int (nI (x + 1))), (1, .int (nI k)), (0, .ref (zad G 0))]) d_Sh_followSteps_40 rfl (nI_1 x) (by decide) rfl ?_
      refine zb_goto (tgt := 10) d_Sh_followSteps_43 rfl ?_
      refine zb_sub [0, 1, 2] rfl ?_
      exact ih (x + 1) τ (by omega) hf (fun z hz => by
        have hzz := hR z hz
        by_cases e : z = x
        · subst e
          simp only [if_neg (Nat.lt_irrefl z)] at hzz
          show _ = nI (if z < z + 1 then fr R k z else R z) ∧ (if z < z + 1 then fr R k z else R z) < _
          rw [if_pos (Nat.lt_succ_self z), fr, if_neg hb]
          exact hzz
        · show _ = nI (if z < x + 1 then fr R k z else R z) ∧ (if z < x + 1 then fr R k z else R z) < _
          by_cases e2 : z < x
          · simp only [if_pos e2] at hzz; rw [if_pos (show z < x + 1 by omega)]; exact hzz
          · simp only [if_neg e2] at hzz; rw [if_neg (show ¬ z < x + 1 by omega)]; exact hzz)
set_option maxHeartbeats 4000000 in
set_option maxRecDepth 100000 in
theorem lp_follow2 (l : Launch) (G : zG) {σ : zS} {E : Nat → Nat → Prop} : ∀ (j k : Nat) (τ : zS) (R : Nat → Nat), k + j = 16 → z29 σ τ → zrow τ R → (∀ x y, x < 16 → y < 16 → ((R x).testBit y = true ↔ ws E k x y)) → zB l G w_Sh_followSteps R_Sh c_Sh_followSteps 3 none [] (zrm 1 30) (zR G (fun v σ' => v = none ∧ z29 σ σ' ∧ ∃ R : Nat → Nat, zrow σ' R ∧ ∀ x y, x < 16 → y < 16 → ((R x).testBit y = true ↔ ws E 16 x y)) 0 0) 0 0 2 [(1, .int (nI k)), (0, .ref (zad G 0))] [] τ := by
  intro j
  induction j with
  | zero =>
    intro k τ R hi hf hR hI
    have e : k = 16 := by omega
    refine zb_iload_n d_Sh_followSteps_2 rfl rfl ?_
    refine zb_bipush (v := 16) d_Sh_followSteps_3 rfl ?_
    refine zb_icmp_ge (tgt := 52) d_Sh_followSteps_5 rfl (fun h5 => ?_) (fun h5 => absurd (nI_le (a := 16) (b := k) (by omega) (by omega)) h5)
    exact zb_vret d_Sh_followSteps_52 rfl ⟨rfl, hf, R, hR, by rw [e] at hI; exact hI⟩
  | succ j ih =>
    intro k τ R hi hf hR hI
    have hlt : k < 16 := by omega
    refine zb_iload_n d_Sh_followSteps_2 rfl rfl ?_
    refine zb_bipush (v := 16) d_Sh_followSteps_3 rfl ?_
    refine zb_icmp_ge (tgt := 52) d_Sh_followSteps_5 rfl (fun h5 => absurd h5 (nI_ge (a := k) (b := 16) (by omega) (by omega))) (fun h5 => ?_)
    refine zb_iconst (v := 0) d_Sh_followSteps_8 rfl ?_
    refine zb_istore_n (lv' := [(2, .int 0), (1, .int (nI k)), (0, .ref (zad G 0))]) d_Sh_followSteps_9 rfl (by decide) rfl ?_
    refine zb_lv (lv' := [(2, .int (nI 0)), (1, .int (nI k)), (0, .ref (zad G 0))]) rfl ?_
    refine zb_sub [0, 1, 2] rfl ?_
    refine lp_follow1 l G (σ1 := τ) (R := R) (by omega) (fun τ2 hf2 hR2 => ?_) 16 0 τ rfl (z29.rf τ) (fun z hz => by simpa using hR z hz)
    refine zb_iinc (v := nI (k + 1)) (lv' := [(1, .int (nI (k + 1))), (2, .int (nI 16)), (0, .ref (zad G 0))]) d_Sh_followSteps_46 rfl (nI_1 k) (by decide) rfl ?_
    refine zb_goto (tgt := 2) d_Sh_followSteps_49 rfl ?_
    refine zb_sub [0, 2] rfl ?_
    exact ih (k + 1) τ2 (fr R k) (by omega) (hf.tr hf2) hR2 (fun x y hx hy => by rw [fr_tb, hI x y hx hy, hI x k hx (by omega), hI k y (by omega) hy]; rfl)
set_option maxHeartbeats 4000000 in
set_option maxRecDepth 100000 in
/-- followSteps() -/
theorem c_followSteps (l : Launch) (G : zG) {σ : zS} {E : Nat → Nat → Prop} {R : Nat → Nat} (hR : zrow σ R) (hI : ∀ x y, x < 16 → y < 16 → ((R x).testBit y = true ↔ E x y)) : zC l G y_Sh_followSteps w_Sh_followSteps (zrm 1 30) 0 0 [.ref (zad G 0)] σ (fun v σ' => v = none ∧ z29 σ σ' ∧ ∃ R : Nat → Nat, zrow σ' R ∧ ∀ x y, x < 16 → y < 16 → ((R x).testBit y = true ↔ ws E 16 x y)) := by
  refine zC_of (cc := c_Sh_followSteps) (nL := 3) (ret := none) (own := R_Sh) (by decide +kernel) rfl rfl (Nat.le_of_ble_eq_true rfl) ?_
  refine zb_lv (lv' := [(0, .ref (zad G 0))]) rfl ?_
  refine zb_iconst (v := 0) d_Sh_followSteps_0 rfl ?_
  refine zb_istore_n (lv' := [(1, .int 0), (0, .ref (zad G 0))]) d_Sh_followSteps_1 rfl (by decide) rfl ?_
  refine zb_lv (lv' := [(1, .int (nI 0)), (0, .ref (zad G 0))]) rfl ?_
  refine zb_sub [0, 1] rfl ?_
  exact lp_follow2 l G 16 0 σ R rfl (z29.rf σ) hR hI
end
section
/-- what reach makes of k pairs of numbers -/
def gm (R : Nat → Nat) (k t : Nat) : Int32 := if t % 16 = 0 ∧ t < 4096 ∧ t / 16 < k ∧ (R (t / 256)).testBit (t / 16 % 16) = true then 1 else 0
theorem gm_e {R : Nat → Nat} {k t : Nat} (e : t ≠ 16 * k) : gm R k t = gm R (k + 1) t := by
  unfold gm
  by_cases c : t % 16 = 0 ∧ t < 4096 ∧ t / 16 < k ∧ (R (t / 256)).testBit (t / 16 % 16) = true
  · rw [if_pos c, if_pos ⟨c.1, c.2.1, by omega, c.2.2.2⟩]
  · rw [if_neg c, if_neg (fun z => c ⟨z.1, z.2.1, by omega, z.2.2.2⟩)]
theorem gm_k (R : Nat → Nat) (k : Nat) : gm R k (16 * k) = 0 := if_neg (fun z => by omega)
theorem gm_y {R : Nat → Nat} {x y : Nat} (hx : x < 16) (hy : y < 16) (h : (R x).testBit y = true) : upd (gm R (16 * x + y)) (16 * (16 * x + y)) (gm R (16 * x + y) (16 * (16 * x + y)) + 1) = gm R (16 * x + y + 1) := by
  funext t
  by_cases e : t = 16 * (16 * x + y)
  · rw [e, pk_us, gm_k]
    refine Eq.trans (by decide : (0 : Int32) + 1 = 1) (if_pos ⟨by omega, by omega, by omega, ?_⟩).symm
    rw [show 16 * (16 * x + y) / 256 = x by omega, show 16 * (16 * x + y) / 16 % 16 = y by omega]
    exact h
  · rw [pk_un e]; exact gm_e e
theorem gm_n {R : Nat → Nat} {x y : Nat} (hy : y < 16) (h : ¬ (R x).testBit y = true) : gm R (16 * x + y) = gm R (16 * x + y + 1) := by
  funext t
  by_cases e : t = 16 * (16 * x + y)
  · rw [e, gm_k]
    refine (if_neg (fun z => h ?_)).symm
    have z4 := z.2.2.2
    rw [show 16 * (16 * x + y) / 256 = x by omega, show 16 * (16 * x + y) / 16 % 16 = y by omega] at z4
    exact z4
  · exact gm_e e
theorem or_xy : ∀ x, x < 16 → ∀ y, y < 16 → wn x 0 ||| wn y 1 = 16 * (16 * x + y) := by decide +kernel
/-- what reach makes: a tuple of two numbers has the count 1 where the second can be reached from the first -/
def zrch (m D : Nat → Int32) : Prop := ∀ t, (D t = 1 ∧ t % 16 = 0 ∧ t < 4096 ∧ ws (fun x y => m (256 * x + 16 * y) ≠ 0) 16 (t / 256) (t / 16 % 16)) ∨ (D t = 0 ∧ ¬ (t % 16 = 0 ∧ t < 4096 ∧ ws (fun x y => m (256 * x + 16 * y) ≠ 0) 16 (t / 256) (t / 16 % 16)))
theorem gm_rch {R : Nat → Nat} {m : Nat → Int32} (hI : ∀ x y, x < 16 → y < 16 → ((R x).testBit y = true ↔ ws (fun x y => m (256 * x + 16 * y) ≠ 0) 16 x y)) : zrch m (gm R 256) := by
  intro t
  unfold gm
  by_cases c : t % 16 = 0 ∧ t < 4096 ∧ t / 16 < 256 ∧ (R (t / 256)).testBit (t / 16 % 16) = true
  · refine Or.inl ⟨if_pos c, c.1, c.2.1, (hI _ _ (by omega) (by omega)).mp c.2.2.2⟩
  · refine Or.inr ⟨if_neg c, fun z => c ⟨z.1, z.2.1, by omega, (hI _ _ (by omega) (by omega)).mpr z.2.2⟩⟩
theorem st_iff {T C m : Nat → Int32} {n : Nat} (h : zp T C n m) (hm : ∀ t, m t ≠ 0 → t % 16 = 0) {x y : Nat} (hx : x < 16) (hy : y < 16) : (∃ j, j < n ∧ nu (zN (T j)) 0 = x ∧ nu (zN (T j)) 1 = y) ↔ m (256 * x + 16 * y) ≠ 0 := by
  constructor
  · rintro ⟨j, hj, h1, h2⟩
    have a := h.2.1 j hj
    have b := h.2.2.2.1 j hj
    have c : m (zN (T j)) ≠ 0 := by rw [b.2]; exact b.1
    have d := hm _ c
    have e : zN (T j) = 256 * x + 16 * y := by
      have h1' : zN (T j) / 256 % 16 = x := h1
      have h2' : zN (T j) / 16 % 16 = y := h2
      omega
    rw [← e]; exact c
  · intro hh
    obtain ⟨i, hi, e⟩ := h.2.2.2.2 _ hh
    refine ⟨i, hi, ?_, ?_⟩
    · rw [e]; show (256 * x + 16 * y) / 256 % 16 = x; omega
    · rw [e]; show (256 * x + 16 * y) / 16 % 16 = y; omega
theorem z29.k {σ σ' : zS} (h : z29 σ σ') : zk σ σ' := ⟨fun q hq => h.1 q (by omega), h.2⟩
set_option maxHeartbeats 4000000 in
set_option maxRecDepth 100000 in
theorem lp_reach1 (l : Launch) (G : zG) {σ : zS} {s r : Nat} {ya : Int32} {q : Nat} {R : Nat → Nat} {Fin : List Frame → Array Value → State → State → Prop} (hs : zrl s) (h0 : σ.1 0 0 = nI s) (hR : zrow σ R) {x : Nat} (hx : x < 16) (K : ∀ (τ : zS) (ns : Nat), zf σ τ s → zr τ s ns (gm R (16 * x + 16)) → ns ≤ 16 * x + 16 → zB l G w_Sh_reach R_Sh c_Sh_reach 6 (some .int) [] (zrz 8 150 3) Fin 3 18 102 [(5, .int (nI 16)), (4, .int (nI x)), (0, .ref (zad G 0)), (1, .int (nI r)), (2, .int ya), (3, .ref (zad G q))] [] τ) : ∀ (k y : Nat) (τ : zS) (ns : Nat), y + k = 16 → zf σ τ s → zr τ s ns (gm R (16 * x + y)) → ns ≤ 16 * x + y → zB l G w_Sh_reach R_Sh c_Sh_reach 6 (some .int) [] (zrz 8 150 3) Fin 3 18 56 [(5, .int (nI y)), (4, .int (nI x)), (0, .ref (zad G 0)), (1, .int (nI r)), (2, .int ya), (3, .ref (zad G q))] [] τ := by
  intro k
  induction k with
  | zero =>
    intro y τ ns hi hf hz hns
    have e : y = 16 := by omega
    have z0 : (0 : Nat) ≠ s ∧ (0 : Nat) ≠ s + 1 ∧ (0 : Nat) ≠ s + 2 := by have := hs.1; omega
    have z9 : (29 : Nat) ≠ s ∧ (29 : Nat) ≠ s + 1 ∧ (29 : Nat) ≠ s + 2 := by have := hs; unfold zrl at this; omega
    have hs31 : s < 2 ^ 31 := by have := hs.lt; omega
    have e0 : τ.1 0 0 = nI s := by rw [hf.1 0 z0.1 z0.2.1 z0.2.2]; exact h0
    have e29 : τ.1 29 = σ.1 29 := hf.1 29 z9.1 z9.2.1 z9.2.2
    refine zb_iload d_Sh_reach_56 rfl ?_
    refine zb_bipush (v := 16) d_Sh_reach_58 rfl ?_
    refine zb_icmp_ge (tgt := 102) d_Sh_reach_60 rfl (fun h60 => ?_) (fun h60 => absurd (nI_le (a := 16) (b := y) (by omega) (by omega)) h60)
    refine zb_sub [0, 1, 2, 3, 4, 5] rfl ?_
    rw [e] at hz hns ⊢
    exact K τ ns hf hz hns
  | succ k ih =>
    intro y τ ns hi hf hz hns
    have hlt : y < 16 := by omega
    have z0 : (0 : Nat) ≠ s ∧ (0 : Nat) ≠ s + 1 ∧ (0 : Nat) ≠ s + 2 := by have := hs.1; omega
    have z9 : (29 : Nat) ≠ s ∧ (29 : Nat) ≠ s + 1 ∧ (29 : Nat) ≠ s + 2 := by have := hs; unfold zrl at this; omega
    have hs31 : s < 2 ^ 31 := by have := hs.lt; omega
    have e0 : τ.1 0 0 = nI s := by rw [hf.1 0 z0.1 z0.2.1 z0.2.2]; exact h0
    have e29 : τ.1 29 = σ.1 29 := hf.1 29 z9.1 z9.2.1 z9.2.2
    refine zb_iload d_Sh_reach_56 rfl ?_
    refine zb_bipush (v := 16) d_Sh_reach_58 rfl ?_
    refine zb_icmp_ge (tgt := 102) d_Sh_reach_60 rfl (fun h60 => absurd h60 (nI_ge (a := y) (b := 16) (by omega) (by omega))) (fun h60 => ?_)
    refine zb_aload_n d_Sh_reach_63 rfl rfl ?_
    refine zb_iload d_Sh_reach_64 rfl ?_
    refine zb_iload d_Sh_reach_66 rfl ?_
    refine zb_callV (rest := []) (c_isReached l G (x := x) (y := y) (R := R) hx (by omega) (by rw [e29]; exact (hR x hx).1) (hR x hx).2) (lk_Sh_99.cw rfl rfl ⟨Nat.le_of_ble_eq_true rfl, Nat.le_of_ble_eq_true rfl⟩) zgS rfl rfl rfl rfl (Nat.le_of_ble_eq_true rfl) d_Sh_reach_68 ⟨Nat.le_of_ble_eq_true rfl, Nat.le_of_ble_eq_true rfl⟩ ?_
    rintro _ _ ⟨rfl, rfl⟩
    refine zb_st (st' := [.int (if R x / 2 ^ y % 2 = 1 then 1 else 0)]) rfl ?_
    by_cases hb : (R x).testBit y = true
    · refine zb_top (y := 1) (by rw [if_pos ((tb_div _ _).mp hb)]) ?_
      refine zb_if_eq (tgt := 96) d_Sh_reach_71 rfl (fun h71 => absurd h71 (by decide)) (fun h71 => ?_)
      refine zb_aload_n d_Sh_reach_74 rfl rfl ?_
      refine zs_spare d_Sh_reach_75 fl_Sh_16 ?_
      refine zb_st (st' := .ref (zad G s) :: []) (by rw [e0, nI_clamp hs31]) ?_
      refine zb_iload d_Sh_reach_78 rfl ?_
      refine zb_iconst (v := 0) d_Sh_reach_80 rfl ?_
      refine zb_callS (rest := [.ref (zad G s)]) (c_withNumber l G (x := x) (p := 0) hx (by decide)) (lk_Sh_102.cw rfl rfl ⟨Nat.le_of_ble_eq_true rfl, Nat.le_of_ble_eq_true rfl⟩) rfl rfl (Nat.le_of_ble_eq_true rfl) d_Sh_reach_81 ⟨Nat.le_of_ble_eq_true rfl, Nat.le_of_ble_eq_true rfl⟩ ?_
      rintro _ _ ⟨rfl, rfl⟩
      refine zb_st (st' := [.int (nI (wn x 0)), .ref (zad G s)]) rfl ?_
      refine zb_iload d_Sh_reach_84 rfl ?_
      refine zb_iconst (v := 1) d_Sh_reach_86 rfl ?_
      refine zb_callS (rest := [.int (nI (wn x 0)), .ref (zad G s)]) (c_withNumber l G (x := y) (p := 1) hlt (by decide)) (lk_Sh_102.cw rfl rfl ⟨Nat.le_of_ble_eq_true rfl, Nat.le_of_ble_eq_true rfl⟩) rfl rfl (Nat.le_of_ble_eq_true rfl) d_Sh_reach_87 ⟨Nat.le_of_ble_eq_true rfl, Nat.le_of_ble_eq_true rfl⟩ ?_
      rintro _ _ ⟨rfl, rfl⟩
      refine zb_st (st' := [.int (nI (wn y 1)), .int (nI (wn x 0)), .ref (zad G s)]) rfl ?_
      refine zb_ior d_Sh_reach_90 ?_
      refine zb_top (y := nI (16 * (16 * x + y))) (by rw [nI_or, or_xy x hx y hlt]) ?_
      refine zb_iconst (v := 1) d_Sh_reach_91 rfl ?_
      refine zb_callV (rest := []) (c_raise_y l G hz (t := 16 * (16 * x + y)) (by omega) (Or.inr (Or.inr (by omega)))) (lk_Sh_47.cw rfl rfl ⟨Nat.le_of_ble_eq_true rfl, Nat.le_of_ble_eq_true rfl⟩) (zgR hs) rfl rfl rfl rfl (Nat.le_of_ble_eq_true rfl) d_Sh_reach_92 ⟨Nat.le_of_ble_eq_true rfl, Nat.le_of_ble_eq_true rfl⟩ ?_
      rintro _ _ ⟨rfl, n2, w1, w2⟩
      rename_i τ9
      refine zb_st (st' := [.int 1]) rfl ?_
      refine zb_pop d_Sh_reach_95 rfl ?_
      refine zb_iinc (v := nI (y + 1)) (lv' := [(5, .int (nI (y + 1))), (4, .int (nI x)), (0, .ref (zad G 0)), (1, .int (nI r)), (2, .int ya), (3, .ref (zad G q))]) d_Sh_reach_96 rfl (nI_1 y) (by decide) rfl ?_
      refine zb_goto (tgt := 56) d_Sh_reach_99 rfl ?_
      refine zb_sub [0, 1, 2, 3, 4, 5] rfl ?_
      exact ih (y + 1) τ9 n2 (by omega) (hf.tr w2) (by rw [gm_y hx hlt hb] at w1; exact w1) (Nat.le_trans (zr_up hz w1) (by omega))
    · refine zb_top (y := 0) (by rw [if_neg (fun z => hb ((tb_div _ _).mpr z))]) ?_
      refine zb_if_eq (tgt := 96) d_Sh_reach_71 rfl (fun h71 => ?_) (fun h71 => absurd rfl h71)
      refine zb_iinc (v := nI (y + 1)) (lv' := [(5, .int (nI (y + 1))), (4, .int (nI x)), (0, .ref (zad G 0)), (1, .int (nI r)), (2, .int ya), (3, .ref (zad G q))]) d_Sh_reach_96 rfl (nI_1 y) (by decide) rfl ?_
      refine zb_goto (tgt := 56) d_Sh_reach_99 rfl ?_
      refine zb_sub [0, 1, 2, 3, 4, 5] rfl ?_
      exact ih (y + 1) τ ns (by omega) hf (by rw [gm_n hlt hb] at hz; exact hz) (by omega)
set_option maxHeartbeats 4000000 in
set_option maxRecDepth 100000 in
theorem lp_reach2 (l : Launch) (G : zG) {σ : zS} {s r : Nat} {ya : Int32} {q : Nat} {R : Nat → Nat} {Fin : List Frame → Array Value → State → State → Prop} (hs : zrl s) (h0 : σ.1 0 0 = nI s) (hR : zrow σ R) (K : ∀ (τ : zS) (ns : Nat), zf σ τ s → zr τ s ns (gm R (16 * 16)) → zB l G w_Sh_reach R_Sh c_Sh_reach 6 (some .int) [] (zrz 8 150 3) Fin 3 18 108 [(4, .int (nI 16)), (0, .ref (zad G 0)), (1, .int (nI r)), (2, .int ya), (3, .ref (zad G q))] [] τ) : ∀ (k x : Nat) (τ : zS) (ns : Nat), x + k = 16 → zf σ τ s → zr τ s ns (gm R (16 * x)) → ns ≤ 16 * x → zB l G w_Sh_reach R_Sh c_Sh_reach 6 (some .int) [] (zrz 8 150 3) Fin 3 18 46 [(4, .int (nI x)), (0, .ref (zad G 0)), (1, .int (nI r)), (2, .int ya), (3, .ref (zad G q))] [] τ := by
  intro k
  induction k with
  | zero =>
    intro x τ ns hi hf hz hns
    have e : x = 16 := by omega
    refine zb_iload d_Sh_reach_46 rfl ?_
    refine zb_bipush (v := 16) d_Sh_reach_48 rfl ?_
    refine zb_icmp_ge (tgt := 108) d_Sh_reach_50 rfl (fun h50 => ?_) (fun h50 => absurd (nI_le (a := 16) (b := x) (by omega) (by omega)) h50)
    refine zb_sub [0, 1, 2, 3, 4] rfl ?_
    rw [e] at hz ⊢
    exact K τ ns hf hz
  | succ k ih =>
    intro x τ ns hi hf hz hns
    have hlt : x < 16 := by omega
    refine zb_iload d_Sh_reach_46 rfl ?_
    refine zb_bipush (v := 16) d_Sh_reach_48 rfl ?_
    refine zb_icmp_ge (tgt := 108) d_Sh_reach_50 rfl (fun h50 => absurd h50 (nI_ge (a := x) (b := 16) (by omega) (by omega))) (fun h50 => ?_)
    refine zb_iconst (v := 0) d_Sh_reach_53 rfl ?_
    refine zb_istore (lv' := [(5, .int 0), (4, .int (nI x)), (0, .ref (zad G 0)), (1, .int (nI r)), (2, .int ya), (3, .ref (zad G q))]) d_Sh_reach_54 (by decide) rfl ?_
    refine zb_lv (lv' := [(5, .int (nI 0)), (4, .int (nI x)), (0, .ref (zad G 0)), (1, .int (nI r)), (2, .int ya), (3, .ref (zad G q))]) rfl ?_
    refine zb_sub [0, 1, 2, 3, 4, 5] rfl ?_
    refine lp_reach1 l G hs h0 hR hlt (fun τ2 ns2 hf2 hz2 hns2 => ?_) 16 0 τ ns rfl hf hz hns
    refine zb_iinc (v := nI (x + 1)) (lv' := [(4, .int (nI (x + 1))), (5, .int (nI 16)), (0, .ref (zad G 0)), (1, .int (nI r)), (2, .int ya), (3, .ref (zad G q))]) d_Sh_reach_102 rfl (nI_1 x) (by decide) rfl ?_
    refine zb_goto (tgt := 46) d_Sh_reach_105 rfl ?_
    refine zb_sub [0, 2, 3, 4, 5] rfl ?_
    exact ih (x + 1) τ2 ns2 (by omega) hf2 (by rw [Nat.mul_succ]; exact hz2) (by omega)
set_option maxHeartbeats 4000000 in
set_option maxRecDepth 100000 in
/-- reach(to, a) -/
theorem c_reach (l : Launch) (G : zG) {σ : zS} {x y : Int32} {M : Nat → Nat → Int32} {w : Nat → Nat} (hl : l.stackTraces = false) (hw : zwf σ M w) : zCX l G y_Sh_reach w_Sh_reach (zrz 8 150 3) 3 18 [.ref (zad G 0), .int x, .int y] σ (fun v σ' => ∃ r a : Nat, r < 8 ∧ x = nI r ∧ a < 8 ∧ y = nI a ∧ w a = 2 ∧ ∃ D : Nat → Int32, zrch (M a) D ∧ v = some (.int (nI (zct D 4096))) ∧ zwf σ' (uM M r D) (uM w r 2) ∧ zk σ σ') (fun E σ' => (E = zNS ∧ ¬ (zgr x ∧ zgr y) ∨ E = zIA ∧ ∃ r : Nat, r < 8 ∧ x = nI r ∧ ∃ a : Nat, a < 8 ∧ y = nI a ∧ w a ≠ 2) ∧ zwf σ' M w ∧ zk σ σ') := by
  refine zCX_of (cc := c_Sh_reach) (nL := 6) (ret := (some .int)) (own := R_Sh) (by decide +kernel) rfl rfl (Nat.le_of_ble_eq_true rfl) ?_
  refine zb_lv (lv' := [(0, .ref (zad G 0)), (1, .int x), (2, .int y)]) rfl ?_
  refine zb_iload_n d_Sh_reach_0 rfl rfl ?_
  refine zx_callS (rest := []) (c_mustBe l G hl) (lk_Sh_63.cw rfl rfl ⟨Nat.le_of_ble_eq_true rfl, Nat.le_of_ble_eq_true rfl⟩) rfl rfl (Nat.le_of_ble_eq_true rfl) d_Sh_reach_1 ⟨Nat.le_of_ble_eq_true rfl, Nat.le_of_ble_eq_true rfl⟩ ?_ ?_
  rotate_left
  · rintro E _ ⟨rfl, hx, rfl⟩; exact zx_out ⟨Or.inl ⟨rfl, fun z => hx z.1⟩, hw, zk.rf _⟩ (Nat.le_of_ble_eq_true rfl) (Nat.le_of_ble_eq_true rfl)
  rintro _ _ ⟨rfl, ⟨r, hr, rfl⟩, rfl⟩
  refine zb_lv (lv' := [(0, .ref (zad G 0)), (1, .int (nI r)), (2, .int y)]) rfl ?_
  refine zb_st (st' := []) rfl ?_
  refine zb_aload_n d_Sh_reach_4 rfl rfl ?_
  refine zb_iload_n d_Sh_reach_5 rfl rfl ?_
  refine zx_callV (rest := []) (c_relationOf l G hl) (lk_Sh_24.cw rfl rfl ⟨Nat.le_of_ble_eq_true rfl, Nat.le_of_ble_eq_true rfl⟩) zgS rfl rfl rfl rfl (Nat.le_of_ble_eq_true rfl) d_Sh_reach_6 ⟨Nat.le_of_ble_eq_true rfl, Nat.le_of_ble_eq_true rfl⟩ ?_ ?_
  rotate_left
  · rintro E _ ⟨rfl, hx, rfl⟩; exact zx_out ⟨Or.inl ⟨rfl, fun z => hx z.2⟩, hw, zk.rf _⟩ (Nat.le_of_ble_eq_true rfl) (Nat.le_of_ble_eq_true rfl)
  rintro _ _ ⟨a, ha, rfl, rfl, rfl⟩
  refine zb_lv (lv' := [(0, .ref (zad G 0)), (1, .int (nI r)), (2, .int (nI a))]) rfl ?_
  refine zb_st (st' := [.ref (zad G (zN (σ.1 1 a)))]) rfl ?_
  refine zb_astore_n (lv' := [(3, .ref (zad G (zN (σ.1 1 a)))), (0, .ref (zad G 0)), (1, .int (nI r)), (2, .int (nI a))]) d_Sh_reach_9 rfl (by decide) rfl ?_
  have ha2 := hw.at ha
  obtain ⟨n, hn⟩ := ha2.2.2.2.1
  have hw3 := ha2.2.2.1
  refine zb_aload_n d_Sh_reach_10 rfl rfl ?_
  refine zr_width (q := zN (σ.1 1 a)) d_Sh_reach_11 fl_Sh_40 (hw.rl ha) ?_
  refine zb_top (y := nI (w a)) (ha2.1) ?_
  refine zb_iconst (v := 2) d_Sh_reach_14 rfl ?_
  refine zb_icmp_ne (tgt := 22) d_Sh_reach_15 rfl (fun h15 => ?_) (fun h15 => ?_)
  · refine zb_iconst (v := 0) d_Sh_reach_22 rfl ?_
    refine zx_callS (rest := []) (c_refuseUnless l G hl) (lk_Sh_28.cw rfl rfl ⟨Nat.le_of_ble_eq_true rfl, Nat.le_of_ble_eq_true rfl⟩) rfl rfl (Nat.le_of_ble_eq_true rfl) d_Sh_reach_23 ⟨Nat.le_of_ble_eq_true rfl, Nat.le_of_ble_eq_true rfl⟩ ?_ ?_
    rotate_left
    · rintro E _ ⟨rfl, -, rfl⟩; exact zx_out ⟨Or.inr ⟨rfl, r, hr, rfl, a, ha, rfl, fun e => h15 (by rw [e]; rfl)⟩, hw, zk.rf _⟩ (Nat.le_of_ble_eq_true rfl) (Nat.le_of_ble_eq_true rfl)
    rintro _ _ ⟨-, h0, -⟩
    exact absurd rfl h0
  · refine zb_iconst (v := 1) d_Sh_reach_18 rfl ?_
    refine zb_goto (tgt := 23) d_Sh_reach_19 rfl ?_
    refine zx_callS (rest := []) (c_refuseUnless l G hl) (lk_Sh_28.cw rfl rfl ⟨Nat.le_of_ble_eq_true rfl, Nat.le_of_ble_eq_true rfl⟩) rfl rfl (Nat.le_of_ble_eq_true rfl) d_Sh_reach_23 ⟨Nat.le_of_ble_eq_true rfl, Nat.le_of_ble_eq_true rfl⟩ ?_ ?_
    rotate_left
    · rintro E _ ⟨-, h0, -⟩; exact absurd h0 (by decide)
    rintro _ _ ⟨rfl, -, rfl⟩
    refine zb_st (st' := []) rfl ?_
    have hwa : w a = 2 := (nI_eq (b := 2) (by omega) (by decide)).mp h15
    refine zb_aload_n d_Sh_reach_26 rfl rfl ?_
    refine zb_aload_n d_Sh_reach_27 rfl rfl ?_
    refine zb_callV (rest := []) (c_takeSteps l G hn) (lk_Sh_92.cw rfl rfl ⟨Nat.le_of_ble_eq_true rfl, Nat.le_of_ble_eq_true rfl⟩) zgS rfl rfl rfl rfl (Nat.le_of_ble_eq_true rfl) d_Sh_reach_28 ⟨Nat.le_of_ble_eq_true rfl, Nat.le_of_ble_eq_true rfl⟩ ?_
    rintro _ _ ⟨rfl, f1, R1, hR1, hI1⟩
    rename_i σ1
    refine zb_st (st' := []) rfl ?_
    refine zb_aload_n d_Sh_reach_31 rfl rfl ?_
    refine zb_callV (rest := []) (c_followSteps l G (E := fun x y => M a (256 * x + 16 * y) ≠ 0) hR1 (fun x y hx hy => (hI1 x y hx hy).trans (st_iff hn.2.2 (fun t ht => by have := ha2.2.2.2.2 t ht; rw [hwa] at this; exact this) hx hy))) (lk_Sh_96.cw rfl rfl ⟨Nat.le_of_ble_eq_true rfl, Nat.le_of_ble_eq_true rfl⟩) zgS rfl rfl rfl rfl (Nat.le_of_ble_eq_true rfl) d_Sh_reach_32 ⟨Nat.le_of_ble_eq_true rfl, Nat.le_of_ble_eq_true rfl⟩ ?_
    rintro _ _ ⟨rfl, f2, R, hR, hI⟩
    rename_i σ2
    have f12 := f1.tr f2
    have hw2 : zwf σ2 M w := zwf_spare hw (fun k _ _ _ h => f12.1 k (by omega))
    refine zb_st (st' := []) rfl ?_
    refine zb_aload_n d_Sh_reach_35 rfl rfl ?_
    refine zs_spare d_Sh_reach_36 fl_Sh_16 ?_
    refine zb_iconst (v := 2) d_Sh_reach_39 rfl ?_
    refine zb_callV (rest := []) (c_startAnew l G hw2.sp) (lk_Sh_36.cw rfl rfl ⟨Nat.le_of_ble_eq_true rfl, Nat.le_of_ble_eq_true rfl⟩) (zgR hw2.sp) rfl rfl rfl rfl (Nat.le_of_ble_eq_true rfl) d_Sh_reach_40 ⟨Nat.le_of_ble_eq_true rfl, Nat.le_of_ble_eq_true rfl⟩ ?_
    rintro _ _ ⟨rfl, rfl⟩
    refine zb_st (st' := []) rfl ?_
    refine zb_iconst (v := 0) d_Sh_reach_43 rfl ?_
    refine zb_istore (lv' := [(4, .int 0), (3, .ref (zad G (zN (σ.1 1 a)))), (0, .ref (zad G 0)), (1, .int (nI r)), (2, .int (nI a))]) d_Sh_reach_44 (by decide) rfl ?_
    refine zb_lv (lv' := [(4, .int (nI 0)), (3, .ref (zad G (zN (σ.1 1 a)))), (0, .ref (zad G 0)), (1, .int (nI r)), (2, .int (nI a))]) rfl ?_
    refine zb_sub [0, 2, 3, 4, 1] rfl ?_
    have hs2 := hw2.sp
    have n29 : (29 : Nat) ≠ zN (σ2.1 0 0) := by have := hs2; unfold zrl at this; omega
    have n0 : (0 : Nat) ≠ zN (σ2.1 0 0) := by have := hs2.1; omega
    have n1 : (1 : Nat) ≠ zN (σ2.1 0 0) := by have := hs2.1; omega
    have nn0 : (0 : Nat) ≠ zN (σ2.1 0 0) + 1 ∧ (0 : Nat) ≠ zN (σ2.1 0 0) + 2 ∧ (1 : Nat) ≠ zN (σ2.1 0 0) + 1 ∧ (1 : Nat) ≠ zN (σ2.1 0 0) + 2 := by have := hs2.1; omega
    refine lp_reach2 l G (s := zN (σ2.1 0 0)) (R := R) hs2 (by rw [zst_n σ2 _ n0]; exact hs2.nI) (fun x hx => by rw [zst_n σ2 _ n29]; exact hR x hx) (fun τ ns hf hz => ?_) 16 0 _ 0 (by omega) (zf.rf _ _) (by rw [show gm R (16 * 0) = (fun _ => 0) from funext fun t => if_neg (fun z => by omega)]; exact zr_start hs2) (Nat.le_refl _)
    have t0 : τ.1 0 = σ2.1 0 := (hf.1 0 n0 nn0.1 nn0.2.1).trans (zst_n σ2 _ n0)
    have t1 : τ.1 1 = σ2.1 1 := (hf.1 1 n1 nn0.2.2.1 nn0.2.2.2).trans (zst_n σ2 _ n1)
    refine zb_aload_n d_Sh_reach_108 rfl rfl ?_
    refine zb_iload_n d_Sh_reach_109 rfl rfl ?_
    refine zb_callV (rest := []) (c_keepSpareAs l G hr (by rw [t0]; exact hw2.sp) (by rw [t1]; exact hw2.rl hr)) (lk_Sh_70.cw rfl rfl ⟨Nat.le_of_ble_eq_true rfl, Nat.le_of_ble_eq_true rfl⟩) zgS rfl rfl rfl rfl (Nat.le_of_ble_eq_true rfl) d_Sh_reach_110 ⟨Nat.le_of_ble_eq_true rfl, Nat.le_of_ble_eq_true rfl⟩ ?_
    rintro _ _ ⟨rfl, k1, k2, k3, k4⟩
    rename_i σ9
    refine zb_st (st' := [.int (τ.1 (zN (τ.1 0 0)) 1)]) rfl ?_
    have hfin := zfin (u := 2) hw2 ((zst_k σ2 _ hw2.sp).tr (zf.k hw2.sp hf)) (fun k h1 h2 h3 h4 => (hf.1 k h1 h2 h3).trans (zst_n σ2 _ h1)) hr (hf.2.2.trans (zst_0 σ2 _ _)) (by decide) (by decide) hz (fun t h => by
      rcases gm_rch hI t with z | z
      · exact z.2.1
      · exact absurd z.1 h) (v := some (.int (τ.1 (zN (τ.1 0 0)) 1))) ⟨rfl, k1, k2, k3, k4⟩
    exact zx_ret (zb_iret d_Sh_reach_113 rfl ⟨r, a, hr, rfl, ha, rfl, hwa, gm R 256, gm_rch hI, hfin.1, hfin.2.1, f12.k.tr hfin.2.2⟩)
end
section
/-! PURE: joining. u and v: the widths, k: how many numbers are shared; jx, jy: the two tuples of which a joined one is made -/
theorem or_low {p d : Nat} (A c : Nat) (h : d < 2 ^ p) : (A * 2 ^ p) ||| (c * 2 ^ p + d) = (A ||| c) * 2 ^ p + d := by
  apply Nat.eq_of_testBit_eq
  intro i
  rw [Nat.testBit_or, Nat.mul_comm c, Nat.mul_comm (A ||| c), Nat.testBit_two_pow_mul_add _ h, Nat.testBit_two_pow_mul_add _ h, Nat.testBit_mul_two_pow]
  by_cases q : i < p
  · have : ¬ p ≤ i := by omega
    simp [q, this]
  · have : p ≤ i := by omega
    simp [q, this, Nat.testBit_or]
theorem or_md (A j : Nat) : A ||| (A % 2 ^ j) = A := by
  apply Nat.eq_of_testBit_eq
  intro i
  rw [Nat.testBit_or, Nat.testBit_mod_two_pow]
  cases A.testBit i <;> simp
def jok (u v k : Nat) : Prop := 1 ≤ u ∧ u ≤ 3 ∧ 1 ≤ v ∧ v ≤ 3 ∧ k ≤ u ∧ k ≤ v ∧ u + v - k ≤ 3
def jx (u t : Nat) : Nat := t / 2 ^ (12 - 4 * u) * 2 ^ (12 - 4 * u)
def jy (u k t : Nat) : Nat := t * 2 ^ (4 * (u - k)) % 4096
def jj (u k a b : Nat) : Nat := a ||| b / 2 ^ (4 * (u - k))
def jm (u v k a b : Nat) : Prop := a < 4096 ∧ a % 2 ^ (12 - 4 * u) = 0 ∧ b < 4096 ∧ b % 2 ^ (12 - 4 * v) = 0 ∧ b / 2 ^ (12 - 4 * k) = a / 2 ^ (12 - 4 * u) % 2 ^ (4 * k)
theorem jj_eq {u v k a b : Nat} (h : jok u v k) (hm : jm u v k a b) : jj u k a b = a + b / 2 ^ (4 * (u - k)) % 2 ^ (12 - 4 * u) := by
  have e1 : a = a / 2 ^ (12 - 4 * u) * 2 ^ (12 - 4 * u) := by
    have := Nat.div_add_mod a (2 ^ (12 - 4 * u))
    rw [hm.2.1, Nat.add_zero, Nat.mul_comm] at this
    exact this.symm
  have e2 : b / 2 ^ (4 * (u - k)) = a / 2 ^ (12 - 4 * u) % 2 ^ (4 * k) * 2 ^ (12 - 4 * u) + b / 2 ^ (4 * (u - k)) % 2 ^ (12 - 4 * u) := by
    rw [← hm.2.2.2.2]
    have := Nat.div_add_mod (b / 2 ^ (4 * (u - k))) (2 ^ (12 - 4 * u))
    rw [Nat.div_div_eq_div_mul, ← Nat.pow_add, show 4 * (u - k) + (12 - 4 * u) = 12 - 4 * k by unfold jok at h; omega, Nat.mul_comm] at this
    exact this.symm
  unfold jj
  rw [e2]
  conv => lhs; lhs; rw [e1]
  rw [or_low _ _ (Nat.mod_lt _ (Nat.two_pow_pos _)), or_md, ← e1]
  conv => rhs; rw [← e2]
theorem jj_in {u v k a b : Nat} (h : jok u v k) (hm : jm u v k a b) : jj u k a b < 4096 ∧ jj u k a b % 2 ^ (12 - 4 * (u + v - k)) = 0 ∧ jx u (jj u k a b) = a ∧ jy u k (jj u k a b) = b := by
  rw [jj_eq h hm]
  unfold jok at h
  unfold jm at hm
  unfold jx jy
  rcases (show u = 1 ∨ u = 2 ∨ u = 3 by omega) with rfl | rfl | rfl <;> rcases (show v = 1 ∨ v = 2 ∨ v = 3 by omega) with rfl | rfl | rfl <;> rcases (show k = 0 ∨ k = 1 ∨ k = 2 ∨ k = 3 by omega) with rfl | rfl | rfl | rfl <;> simp only [Nat.reduceMul, Nat.reduceSub, Nat.reducePow, Nat.reduceAdd] at h hm ⊢ <;> omega
theorem jm_of {u v k t : Nat} (h : jok u v k) (ht : t < 4096) (hd : t % 2 ^ (12 - 4 * (u + v - k)) = 0) : jm u v k (jx u t) (jy u k t) := by
  unfold jok at h
  unfold jm jx jy
  rcases (show u = 1 ∨ u = 2 ∨ u = 3 by omega) with rfl | rfl | rfl <;> rcases (show v = 1 ∨ v = 2 ∨ v = 3 by omega) with rfl | rfl | rfl <;> rcases (show k = 0 ∨ k = 1 ∨ k = 2 ∨ k = 3 by omega) with rfl | rfl | rfl | rfl <;> simp only [Nat.reduceMul, Nat.reduceSub, Nat.reducePow, Nat.reduceAdd] at h hd ⊢ <;> omega
theorem jj_of {u v k t : Nat} (h : jok u v k) (ht : t < 4096) (hd : t % 2 ^ (12 - 4 * (u + v - k)) = 0) : jj u k (jx u t) (jy u k t) = t := by
  rw [jj_eq h (jm_of h ht hd)]
  unfold jok at h
  unfold jx jy
  rcases (show u = 1 ∨ u = 2 ∨ u = 3 by omega) with rfl | rfl | rfl <;> rcases (show v = 1 ∨ v = 2 ∨ v = 3 by omega) with rfl | rfl | rfl <;> rcases (show k = 0 ∨ k = 1 ∨ k = 2 ∨ k = 3 by omega) with rfl | rfl | rfl | rfl <;> simp only [Nat.reduceMul, Nat.reduceSub, Nat.reducePow, Nat.reduceAdd] at h hd ⊢ <;> omega
/-- the joined relation -/
def jD (u v k : Nat) (m1 m2 : Nat → Int32) (t : Nat) : Int32 := if t < 4096 ∧ t % 2 ^ (12 - 4 * (u + v - k)) = 0 then m1 (jx u t) * m2 (jy u k t) else 0
theorem jD_ne {u v k t : Nat} {m1 m2 : Nat → Int32} (h : jD u v k m1 m2 t ≠ 0) : t < 4096 ∧ t % 2 ^ (12 - 4 * (u + v - k)) = 0 ∧ m1 (jx u t) ≠ 0 ∧ m2 (jy u k t) ≠ 0 := by
  unfold jD at h
  split at h
  · rename_i c
    exact ⟨c.1, c.2, fun e => h (by rw [e]; exact Int32.zero_mul), fun e => h (by rw [e]; exact Int32.mul_zero)⟩
  · exact absurd rfl h
theorem jD_at {u v k a b : Nat} {m1 m2 : Nat → Int32} (h : jok u v k) (hm : jm u v k a b) : jD u v k m1 m2 (jj u k a b) = m1 a * m2 b := by
  have z := jj_in h hm
  unfold jD
  rw [if_pos ⟨z.1, z.2.1⟩, z.2.2.1, z.2.2.2]
/-- S: what has been made so far -/
def inv (D m : Nat → Int32) (S : Nat → Prop) : Prop := ∀ t, (S t → m t = D t) ∧ (¬ S t → m t = 0)
theorem inv_or {D m : Nat → Int32} {S : Nat → Prop} (h : inv D m S) (t : Nat) : m t = 0 ∨ m t = D t := by
  by_cases s : S t
  · exact Or.inr ((h t).1 s)
  · exact Or.inl ((h t).2 s)
theorem inv_ext {D m : Nat → Int32} {S S' : Nat → Prop} (h : inv D m S) (e : ∀ t, D t ≠ 0 → (S t ↔ S' t)) : inv D m S' := by
  intro t
  by_cases d : D t = 0
  · have : m t = 0 := by
      rcases inv_or h t with z | z
      · exact z
      · rw [z, d]
    exact ⟨fun _ => by rw [this, d], fun _ => this⟩
  · exact ⟨fun s => (h t).1 ((e t d).mpr s), fun s => (h t).2 (fun z => s ((e t d).mp z))⟩
theorem inv_up {D m : Nat → Int32} {S : Nat → Prop} (h : inv D m S) {t0 : Nat} (h0 : ¬ S t0) : inv D (upd m t0 (m t0 + D t0)) (fun t => S t ∨ t = t0) := by
  intro t
  by_cases e : t = t0
  · subst e
    rw [pk_us, (h t).2 h0, Int32.zero_add]
    exact ⟨fun _ => rfl, fun z => absurd (Or.inr rfl) z⟩
  · rw [pk_un e]
    exact ⟨fun s => (h t).1 (s.resolve_right e), fun s => (h t).2 (fun z => s (Or.inl z))⟩
def jS1 (u : Nat) (T1 : Nat → Int32) (i t : Nat) : Prop := ∃ i', i' < i ∧ zN (T1 i') = jx u t
def jS2 (u k : Nat) (T1 T2 : Nat → Int32) (i f j t : Nat) : Prop := jS1 u T1 i t ∨ (zN (T1 i) = jx u t ∧ ∃ j', f ≤ j' ∧ j' < j ∧ zN (T2 j') = jy u k t)
theorem jS_start (u k : Nat) (T1 T2 : Nat → Int32) (i f t : Nat) : jS1 u T1 i t ↔ jS2 u k T1 T2 i f f t := ⟨Or.inl, fun h => h.elim id (fun ⟨_, j', a, b, _⟩ => by omega)⟩
/-- the places of the tuples that begin with the numbers shared -/
theorem pl_rng {T C m : Nat → Int32} {n k s f e : Nat} (h : zp T C n m) (hk : k ≤ 3) (hs : s < 2 ^ (4 * k)) (hf : pl T n (nI (s * 2 ^ (12 - 4 * k))) f) (he : pl T n (nI ((s + 1) * 2 ^ (12 - 4 * k))) e) : ∀ j, j < n → ((f ≤ j ∧ j < e) ↔ zN (T j) / 2 ^ (12 - 4 * k) = s) := by
  intro j hj
  have hb : (s + 1) * 2 ^ (12 - 4 * k) ≤ 4096 := by
    have h1 : (s + 1) * 2 ^ (12 - 4 * k) ≤ 2 ^ (4 * k) * 2 ^ (12 - 4 * k) := Nat.mul_le_mul_right _ hs
    rw [← Nat.pow_add, show 4 * k + (12 - 4 * k) = 12 by omega] at h1
    exact h1
  have hb1 : s * 2 ^ (12 - 4 * k) ≤ (s + 1) * 2 ^ (12 - 4 * k) := Nat.mul_le_mul_right _ (Nat.le_succ s)
  have a1 : (j < f ↔ zN (T j) < s * 2 ^ (12 - 4 * k)) := by
    rw [← h.lt hj (by omega)]
    exact ⟨fun z => hf.2.1 j z, fun z => Nat.not_le.mp fun y => hf.2.2 j (by omega) hj z⟩
  have a2 : (j < e ↔ zN (T j) < (s + 1) * 2 ^ (12 - 4 * k)) := by
    rw [← h.lt hj (by omega)]
    exact ⟨fun z => he.2.1 j z, fun z => Nat.not_le.mp fun y => he.2.2 j (by omega) hj z⟩
  rw [a2, ← Nat.not_lt, a1, Nat.not_lt, Nat.div_eq_iff (Nat.two_pow_pos _)]
  have := Nat.two_pow_pos (12 - 4 * k)
  have e3 : (s + 1) * 2 ^ (12 - 4 * k) = s * 2 ^ (12 - 4 * k) + 2 ^ (12 - 4 * k) := Nat.succ_mul _ _
  omega
theorem jS_step {u v k i f j n1 n2 : Nat} {T1 C1 m1 T2 C2 m2 : Nat → Int32} (h : jok u v k) (h2 : zp T2 C2 n2 m2) (hj : j < n2) (hfj : f ≤ j) (hm : jm u v k (zN (T1 i)) (zN (T2 j))) (t : Nat) (hD : jD u v k m1 m2 t ≠ 0) : (jS2 u k T1 T2 i f j t ∨ t = jj u k (zN (T1 i)) (zN (T2 j))) ↔ jS2 u k T1 T2 i f (j + 1) t := by
  have d := jD_ne hD
  have z := jj_in h hm
  constructor
  · rintro ((a | ⟨a, j', b, c, e⟩) | a)
    · exact Or.inl a
    · exact Or.inr ⟨a, j', b, Nat.lt_succ_of_lt c, e⟩
    · subst a
      exact Or.inr ⟨z.2.2.1.symm, j, hfj, Nat.lt_succ_self j, z.2.2.2.symm⟩
  · rintro (a | ⟨a, j', b, c, e⟩)
    · exact Or.inl (Or.inl a)
    · rcases Nat.lt_or_eq_of_le (Nat.le_of_lt_succ c) with q | q
      · exact Or.inl (Or.inr ⟨a, j', b, q, e⟩)
      · subst q
        refine Or.inr ?_
        rw [a, e]
        exact (jj_of h d.1 d.2.1).symm
theorem jS_new {u v k i f j n1 n2 : Nat} {T1 C1 m1 T2 C2 m2 : Nat → Int32} (h : jok u v k) (h1 : zp T1 C1 n1 m1) (h2 : zp T2 C2 n2 m2) (hi : i < n1) (hj : j < n2) (hm : jm u v k (zN (T1 i)) (zN (T2 j))) : ¬ jS2 u k T1 T2 i f j (jj u k (zN (T1 i)) (zN (T2 j))) := by
  have z := jj_in h hm
  rintro (⟨i', a, b⟩ | ⟨a, j', b, c, e⟩)
  · rw [z.2.2.1] at b
    have := h1.2.2.1 i' i a hi
    omega
  · rw [z.2.2.2] at e
    have := h2.2.2.1 j' j c hj
    omega
theorem jS_end {u v k i f e n1 n2 : Nat} {T1 C1 m1 T2 C2 m2 : Nat → Int32} (h : jok u v k) (h2 : zp T2 C2 n2 m2) (hr : ∀ j, j < n2 → ((f ≤ j ∧ j < e) ↔ zN (T2 j) / 2 ^ (12 - 4 * k) = zN (T1 i) / 2 ^ (12 - 4 * u) % 2 ^ (4 * k))) (t : Nat) (hD : jD u v k m1 m2 t ≠ 0) : jS2 u k T1 T2 i f e t ↔ jS1 u T1 (i + 1) t := by
  have d := jD_ne hD
  constructor
  · rintro (⟨i', a, b⟩ | ⟨a, _⟩)
    · exact ⟨i', Nat.lt_succ_of_lt a, b⟩
    · exact ⟨i, Nat.lt_succ_self i, a⟩
  · rintro ⟨i', a, b⟩
    rcases Nat.lt_or_eq_of_le (Nat.le_of_lt_succ a) with q | q
    · exact Or.inl ⟨i', q, b⟩
    · subst q
      obtain ⟨j, hj, ej⟩ := h2.2.2.2.2 _ d.2.2.2
      have mm := (jm_of h d.1 d.2.1).2.2.2.2
      have := (hr j hj).mpr (by rw [ej, b]; exact mm)
      exact Or.inr ⟨b, j, this.1, this.2, ej⟩
theorem jS_all {u v k n1 : Nat} {T1 C1 m1 m2 m : Nat → Int32} (h1 : zp T1 C1 n1 m1) (hi : inv (jD u v k m1 m2) m (jS1 u T1 n1)) : m = jD u v k m1 m2 := by
  funext t
  by_cases d : jD u v k m1 m2 t = 0
  · rcases inv_or hi t with z | z
    · rw [z, d]
    · exact z
  · obtain ⟨i, hi', e⟩ := h1.2.2.2.2 _ (jD_ne d).2.2.1
    exact (hi t).1 ⟨i, hi', e⟩
theorem jS_nil {D : Nat → Int32} (u : Nat) (T1 : Nat → Int32) : inv D (fun _ => 0) (jS1 u T1 0) := fun t => ⟨fun ⟨_, a, _⟩ => absurd a (Nat.not_lt_zero _), fun _ => rfl⟩
end
section
theorem pl_le {T C m : Nat → Int32} {n a b f g : Nat} (h : zp T C n m) (hab : a ≤ b) (hb : b < 2 ^ 31) (hf : pl T n (nI a) f) (hg : pl T n (nI b) g) : f ≤ g := by
  refine Nat.not_lt.mp fun z => ?_
  have hn : g < n := Nat.lt_of_lt_of_le z hf.1
  have h1 := hf.2.1 g z
  have h2 := hg.2.2 g (Nat.le_refl _) hn
  rw [h.lt hn (by omega)] at h1
  rw [h.lt hn hb] at h2
  omega
set_option maxHeartbeats 4000000 in
set_option maxRecDepth 100000 in
theorem lp_join1 (l : Launch) (G : zG) {σ : zS} {s q1 q2 n1 n2 u v k i f g : Nat} {m1 m2 : Nat → Int32} (hs : zrl s) (n1s : q1 ≠ s) (n2s : q2 ≠ s) (h0 : σ.1 0 0 = nI s) (h1 : zr σ q1 n1 m1) (h2 : zr σ q2 n2 m2) (hu : σ.1 q1 0 = nI u) (hj : jok u v k) (d1 : ∀ t, m1 t ≠ 0 → t % 2 ^ (12 - 4 * u) = 0) (d2 : ∀ t, m2 t ≠ 0 → t % 2 ^ (12 - 4 * v) = 0) (hi : i < n1) (hgn : g ≤ n2) (hrg : ∀ j, j < n2 → ((f ≤ j ∧ j < g) ↔ (zN (σ.1 (q2 + 1) j)) / 2 ^ (12 - 4 * k) = ((zN (σ.1 (q1 + 1) i)) / 2 ^ (12 - 4 * u) % 2 ^ (4 * k)))) : ∀ (d j : Nat) (τ : zS) (ns : Nat) (m : Nat → Int32), j + d = g → f ≤ j → zf σ τ s → zr τ s ns m → inv (jD u v k m1 m2) m (jS2 u k (σ.1 (q1 + 1)) (σ.1 (q2 + 1)) i f j) → zB l G w_Sh_joinOne R_Sh c_Sh_joinOne 12 (some .boolean) [] (zrm 4 150) (zR G (fun x σ' => (x = some (.int 1) ∧ (∃ (n' : Nat) (m' : Nat → Int32), zr σ' s n' m' ∧ inv (jD u v k m1 m2) m' (jS1 u (σ.1 (q1 + 1)) (i + 1))) ∨ x = some (.int 0) ∧ 300 < zct (jD u v k m1 m2) 4096) ∧ zf σ σ' s) 0 0) 0 0 69 [(11, .int (nI j)), (10, .int 1), (9, .int (nI (4 * (u - k)))), (8, .int (nI g)), (7, .int (nI f)), (6, .int (nI ((zN (σ.1 (q1 + 1) i)) / 2 ^ (12 - 4 * u) % 2 ^ (4 * k)))), (5, .int (nI (zN (σ.1 (q1 + 1) i)))), (0, .ref (zad G 0)), (1, .ref (zad G q1)), (2, .int (nI i)), (3, .ref (zad G q2)), (4, .int (nI k))] [] τ := by
  intro d
  induction d with
  | zero =>
    intro j τ ns m hd hfj hf hz hI
    have e : g = j := by omega
    have ap1 := h1.1.apart hs n1s
    have ap2 := h2.1.apart hs n2s
    have z0 : (0 : Nat) ≠ s ∧ (0 : Nat) ≠ s + 1 ∧ (0 : Nat) ≠ s + 2 := by have := hs.1; omega
    have hs31 : s < 2 ^ 31 := by have := hs.lt; omega
    have e0 : τ.1 0 0 = nI s := by rw [hf.1 0 z0.1 z0.2.1 z0.2.2]; exact h0
    have e11 : τ.1 (q1 + 1) = σ.1 (q1 + 1) := hf.1 _ ap1.2.2.2.1 ap1.2.2.2.2.1 ap1.2.2.2.2.2.1
    have e12 : τ.1 (q1 + 2) = σ.1 (q1 + 2) := hf.1 _ ap1.2.2.2.2.2.2.1 ap1.2.2.2.2.2.2.2.1 ap1.2.2.2.2.2.2.2.2
    have e21 : τ.1 (q2 + 1) = σ.1 (q2 + 1) := hf.1 _ ap2.2.2.2.1 ap2.2.2.2.2.1 ap2.2.2.2.2.2.1
    have e22 : τ.1 (q2 + 2) = σ.1 (q2 + 2) := hf.1 _ ap2.2.2.2.2.2.2.1 ap2.2.2.2.2.2.2.2.1 ap2.2.2.2.2.2.2.2.2
    have hn1 := h1.2.2.1
    have hn2 := h2.2.2.1
    have ho := hj
    unfold jok at ho
    refine zb_iload d_Sh_joinOne_69 rfl ?_
    refine zb_iload d_Sh_joinOne_71 rfl ?_
    refine zb_icmp_ge (tgt := 123) d_Sh_joinOne_73 rfl (fun h73 => ?_) (fun h73 => absurd (nI_le (a := g) (b := j) (by omega) (by omega)) h73)
    refine zb_iload d_Sh_joinOne_123 rfl ?_
    exact zb_zret d_Sh_joinOne_125 rfl rfl ⟨Or.inl ⟨rfl, ns, m, hz, inv_ext hI (fun t ht => by rw [← e]; exact jS_end (C1 := σ.1 (q1 + 2)) (n1 := n1) hj h2.2.2 hrg t ht)⟩, hf⟩
  | succ d ih =>
    intro j τ ns m hd hfj hf hz hI
    have hlt : j < g := by omega
    have hj2 : j < n2 := by omega
    have ap1 := h1.1.apart hs n1s
    have ap2 := h2.1.apart hs n2s
    have z0 : (0 : Nat) ≠ s ∧ (0 : Nat) ≠ s + 1 ∧ (0 : Nat) ≠ s + 2 := by have := hs.1; omega
    have hs31 : s < 2 ^ 31 := by have := hs.lt; omega
    have e0 : τ.1 0 0 = nI s := by rw [hf.1 0 z0.1 z0.2.1 z0.2.2]; exact h0
    have e11 : τ.1 (q1 + 1) = σ.1 (q1 + 1) := hf.1 _ ap1.2.2.2.1 ap1.2.2.2.2.1 ap1.2.2.2.2.2.1
    have e12 : τ.1 (q1 + 2) = σ.1 (q1 + 2) := hf.1 _ ap1.2.2.2.2.2.2.1 ap1.2.2.2.2.2.2.2.1 ap1.2.2.2.2.2.2.2.2
    have e21 : τ.1 (q2 + 1) = σ.1 (q2 + 1) := hf.1 _ ap2.2.2.2.1 ap2.2.2.2.2.1 ap2.2.2.2.2.2.1
    have e22 : τ.1 (q2 + 2) = σ.1 (q2 + 2) := hf.1 _ ap2.2.2.2.2.2.2.1 ap2.2.2.2.2.2.2.2.1 ap2.2.2.2.2.2.2.2.2
    have hn1 := h1.2.2.1
    have hn2 := h2.2.2.1
    have ho := hj
    unfold jok at ho
    have hm : jm u v k (zN (σ.1 (q1 + 1) i)) (zN (σ.1 (q2 + 1) j)) := ⟨(h1.2.2.2.1 i hi).1, d1 _ (by rw [(h1.2.2.2.2.2.1 i hi).2]; exact (h1.2.2.2.2.2.1 i hi).1), (h2.2.2.2.1 j hj2).1, d2 _ (by rw [(h2.2.2.2.2.2.1 j hj2).2]; exact (h2.2.2.2.2.2.1 j hj2).1), (hrg j hj2).mp ⟨hfj, hlt⟩⟩
    have hJ : jj u k (zN (σ.1 (q1 + 1) i)) (zN (σ.1 (q2 + 1) j)) < 4096 := (jj_in hj hm).1
    refine zb_iload d_Sh_joinOne_69 rfl ?_
    refine zb_iload d_Sh_joinOne_71 rfl ?_
    refine zb_icmp_ge (tgt := 123) d_Sh_joinOne_73 rfl (fun h73 => absurd h73 (nI_ge (a := j) (b := g) (by omega) (by omega))) (fun h73 => ?_)
    refine zb_iload d_Sh_joinOne_76 rfl ?_
    refine zb_if_eq (tgt := 123) d_Sh_joinOne_78 rfl (fun h78 => absurd h78 (by decide)) (fun h78 => ?_)
    refine zb_aload_n d_Sh_joinOne_81 rfl rfl ?_
    refine zs_spare d_Sh_joinOne_82 fl_Sh_16 ?_
    refine zb_st (st' := .ref (zad G s) :: []) (by rw [e0, nI_clamp hs31]) ?_
    refine zb_iload d_Sh_joinOne_85 rfl ?_
    refine zb_aload_n d_Sh_joinOne_87 rfl rfl ?_
    refine zr_tuples (q := q2) d_Sh_joinOne_88 fl_Sh_60 h2.1 ?_
    refine zb_iload d_Sh_joinOne_91 rfl ?_
    refine zb_ialdN (q := q2 + 1) (j := j) d_Sh_joinOne_93 (h2.1.t) (by rw [h2.1.nt]; omega) ?_
    refine zb_top (y := nI (zN (σ.1 (q2 + 1) j))) (by rw [e21]; exact (h2.2.2.2.1 j hj2).2) ?_
    refine zb_iload d_Sh_joinOne_94 rfl ?_
    refine zb_ishr d_Sh_joinOne_96 ?_
    refine zb_top (y := nI ((zN (σ.1 (q2 + 1) j)) / 2 ^ (4 * (u - k)))) (sh_r (by have := (h2.2.2.2.1 j hj2).1; omega) (by omega)) ?_
    refine zb_ior d_Sh_joinOne_97 ?_
    refine zb_top (y := nI (jj u k (zN (σ.1 (q1 + 1) i)) (zN (σ.1 (q2 + 1) j)))) (nI_or _ _) ?_
    refine zb_aload_n d_Sh_joinOne_98 rfl rfl ?_
    refine zr_counts (q := q1) d_Sh_joinOne_99 fl_Sh_82 h1.1 ?_
    refine zb_iload_n d_Sh_joinOne_102 rfl rfl ?_
    refine zb_ialdN (q := q1 + 2) (j := i) d_Sh_joinOne_103 (h1.1.c) (by rw [h1.1.nc]; omega) ?_
    refine zb_top (y := σ.1 (q1 + 2) i) (by rw [e12]) ?_
    refine zb_aload_n d_Sh_joinOne_104 rfl rfl ?_
    refine zr_counts (q := q2) d_Sh_joinOne_105 fl_Sh_82 h2.1 ?_
    refine zb_iload d_Sh_joinOne_108 rfl ?_
    refine zb_ialdN (q := q2 + 2) (j := j) d_Sh_joinOne_110 (h2.1.c) (by rw [h2.1.nc]; omega) ?_
    refine zb_top (y := σ.1 (q2 + 2) j) (by rw [e22]) ?_
    refine zb_imul d_Sh_joinOne_111 ?_
    refine zb_top (y := (jD u v k m1 m2) (jj u k (zN (σ.1 (q1 + 1) i)) (zN (σ.1 (q2 + 1) j)))) (by rw [jD_at hj hm, (h1.2.2.2.2.2.1 i hi).2, (h2.2.2.2.2.2.1 j hj2).2]) ?_
    by_cases hc : m (jj u k (zN (σ.1 (q1 + 1) i)) (zN (σ.1 (q2 + 1) j))) ≠ 0 ∨ (jD u v k m1 m2) (jj u k (zN (σ.1 (q1 + 1) i)) (zN (σ.1 (q2 + 1) j))) = 0 ∨ ns < 300
    · refine zb_callV (rest := []) (c_raise_y l G hz (t := jj u k (zN (σ.1 (q1 + 1) i)) (zN (σ.1 (q2 + 1) j))) hJ hc) (lk_Sh_47.cw rfl rfl ⟨Nat.le_of_ble_eq_true rfl, Nat.le_of_ble_eq_true rfl⟩) (zgR hs) rfl rfl rfl rfl (Nat.le_of_ble_eq_true rfl) d_Sh_joinOne_112 ⟨Nat.le_of_ble_eq_true rfl, Nat.le_of_ble_eq_true rfl⟩ ?_
      rintro _ _ ⟨rfl, n9, w1, w2⟩
      rename_i τ9
      refine zb_st (st' := [.int 1]) rfl ?_
      refine zb_istore (lv' := [(10, .int 1), (11, .int (nI j)), (9, .int (nI (4 * (u - k)))), (8, .int (nI g)), (7, .int (nI f)), (6, .int (nI ((zN (σ.1 (q1 + 1) i)) / 2 ^ (12 - 4 * u) % 2 ^ (4 * k)))), (5, .int (nI (zN (σ.1 (q1 + 1) i)))), (0, .ref (zad G 0)), (1, .ref (zad G q1)), (2, .int (nI i)), (3, .ref (zad G q2)), (4, .int (nI k))]) d_Sh_joinOne_115 (by decide) rfl ?_
      refine zb_iinc (v := nI (j + 1)) (lv' := [(11, .int (nI (j + 1))), (10, .int 1), (9, .int (nI (4 * (u - k)))), (8, .int (nI g)), (7, .int (nI f)), (6, .int (nI ((zN (σ.1 (q1 + 1) i)) / 2 ^ (12 - 4 * u) % 2 ^ (4 * k)))), (5, .int (nI (zN (σ.1 (q1 + 1) i)))), (0, .ref (zad G 0)), (1, .ref (zad G q1)), (2, .int (nI i)), (3, .ref (zad G q2)), (4, .int (nI k))]) d_Sh_joinOne_117 rfl (nI_1 j) (by decide) rfl ?_
      refine zb_goto (tgt := 69) d_Sh_joinOne_120 rfl ?_
      refine zb_sub [0, 1, 2, 3, 4, 5, 6, 7, 8, 9, 10, 11] rfl ?_
      exact ih (j + 1) τ9 n9 _ (by omega) (by omega) (hf.tr w2) w1 (inv_ext (inv_up hI (jS_new hj h1.2.2 h2.2.2 hi hj2 hm)) (fun t ht => jS_step (C1 := σ.1 (q1 + 2)) (n1 := n1) hj h2.2.2 hj2 hfj hm t ht))
    · refine zb_callV (rest := []) (c_raise_n l G hz (t := jj u k (zN (σ.1 (q1 + 1) i)) (zN (σ.1 (q2 + 1) j))) hJ hc) (lk_Sh_47.cw rfl rfl ⟨Nat.le_of_ble_eq_true rfl, Nat.le_of_ble_eq_true rfl⟩) (zgR hs) rfl rfl rfl rfl (Nat.le_of_ble_eq_true rfl) d_Sh_joinOne_112 ⟨Nat.le_of_ble_eq_true rfl, Nat.le_of_ble_eq_true rfl⟩ ?_
      rintro _ _ ⟨rfl, rfl⟩
      refine zb_st (st' := [.int 0]) rfl ?_
      refine zb_istore (lv' := [(10, .int 0), (11, .int (nI j)), (9, .int (nI (4 * (u - k)))), (8, .int (nI g)), (7, .int (nI f)), (6, .int (nI ((zN (σ.1 (q1 + 1) i)) / 2 ^ (12 - 4 * u) % 2 ^ (4 * k)))), (5, .int (nI (zN (σ.1 (q1 + 1) i)))), (0, .ref (zad G 0)), (1, .ref (zad G q1)), (2, .int (nI i)), (3, .ref (zad G q2)), (4, .int (nI k))]) d_Sh_joinOne_115 (by decide) rfl ?_
      refine zb_iinc (v := nI (j + 1)) (lv' := [(11, .int (nI (j + 1))), (10, .int 0), (9, .int (nI (4 * (u - k)))), (8, .int (nI g)), (7, .int (nI f)), (6, .int (nI ((zN (σ.1 (q1 + 1) i)) / 2 ^ (12 - 4 * u) % 2 ^ (4 * k)))), (5, .int (nI (zN (σ.1 (q1 + 1) i)))), (0, .ref (zad G 0)), (1, .ref (zad G q1)), (2, .int (nI i)), (3, .ref (zad G q2)), (4, .int (nI k))]) d_Sh_joinOne_117 rfl (nI_1 j) (by decide) rfl ?_
      refine zb_goto (tgt := 69) d_Sh_joinOne_120 rfl ?_
      refine zb_iload d_Sh_joinOne_69 rfl ?_
      refine zb_iload d_Sh_joinOne_71 rfl ?_
      refine zb_icmp_ge (tgt := 123) d_Sh_joinOne_73 rfl (fun h73 => ?_) (fun h73 => ?_)
      · refine zb_iload d_Sh_joinOne_123 rfl ?_
        exact zb_zret d_Sh_joinOne_125 rfl rfl ⟨Or.inr ⟨rfl, full hz (inv_or hI) hJ hc⟩, hf⟩
      · refine zb_iload d_Sh_joinOne_76 rfl ?_
        refine zb_if_eq (tgt := 123) d_Sh_joinOne_78 rfl (fun h78 => ?_) (fun h78 => absurd rfl h78)
        refine zb_iload d_Sh_joinOne_123 rfl ?_
        exact zb_zret d_Sh_joinOne_125 rfl rfl ⟨Or.inr ⟨rfl, full hz (inv_or hI) hJ hc⟩, hf⟩
set_option maxHeartbeats 4000000 in
set_option maxRecDepth 100000 in
/-- joinOne(left, i, right, on) -/
theorem c_joinOne (l : Launch) (G : zG) {σ : zS} {s q1 q2 n1 n2 u v k i ns : Nat} {m1 m2 m : Nat → Int32} (hs : zrl s) (n1s : q1 ≠ s) (n2s : q2 ≠ s) (h0 : σ.1 0 0 = nI s) (h1 : zr σ q1 n1 m1) (h2 : zr σ q2 n2 m2) (hu : σ.1 q1 0 = nI u) (hj : jok u v k) (d1 : ∀ t, m1 t ≠ 0 → t % 2 ^ (12 - 4 * u) = 0) (d2 : ∀ t, m2 t ≠ 0 → t % 2 ^ (12 - 4 * v) = 0) (hi : i < n1) (hz : zr σ s ns m) (hI : inv (jD u v k m1 m2) m (jS1 u (σ.1 (q1 + 1)) i)) : zC l G y_Sh_joinOne w_Sh_joinOne (zrm 4 150) 0 0 [.ref (zad G 0), .ref (zad G q1), .int (nI i), .ref (zad G q2), .int (nI k)] σ (fun x σ' => (x = some (.int 1) ∧ (∃ (n' : Nat) (m' : Nat → Int32), zr σ' s n' m' ∧ inv (jD u v k m1 m2) m' (jS1 u (σ.1 (q1 + 1)) (i + 1))) ∨ x = some (.int 0) ∧ 300 < zct (jD u v k m1 m2) 4096) ∧ zf σ σ' s) := by
  refine zC_of (cc := c_Sh_joinOne) (nL := 12) (ret := (some .boolean)) (own := R_Sh) (by decide +kernel) rfl rfl (Nat.le_of_ble_eq_true rfl) ?_
  refine zb_lv (lv' := [(0, .ref (zad G 0)), (1, .ref (zad G q1)), (2, .int (nI i)), (3, .ref (zad G q2)), (4, .int (nI k))]) rfl ?_
  have ho := hj
  unfold jok at ho
  have hk3 : k ≤ 3 := by omega
  have hu3 : u ≤ 3 := by omega
  have hn1 := h1.2.2.1
  have ha := (h1.2.2.2.1 i hi).1
  have hsh : ((zN (σ.1 (q1 + 1) i)) / 2 ^ (12 - 4 * u) % 2 ^ (4 * k)) < 2 ^ (4 * k) := Nat.mod_lt _ (Nat.two_pow_pos _)
  have hb : (((zN (σ.1 (q1 + 1) i)) / 2 ^ (12 - 4 * u) % 2 ^ (4 * k)) + 1) * 2 ^ (12 - 4 * k) ≤ 4096 := by
    have h9 : (((zN (σ.1 (q1 + 1) i)) / 2 ^ (12 - 4 * u) % 2 ^ (4 * k)) + 1) * 2 ^ (12 - 4 * k) ≤ 2 ^ (4 * k) * 2 ^ (12 - 4 * k) := Nat.mul_le_mul_right _ hsh
    rw [← Nat.pow_add, show 4 * k + (12 - 4 * k) = 12 by omega] at h9
    exact h9
  have hle : ((zN (σ.1 (q1 + 1) i)) / 2 ^ (12 - 4 * u) % 2 ^ (4 * k)) * 2 ^ (12 - 4 * k) ≤ (((zN (σ.1 (q1 + 1) i)) / 2 ^ (12 - 4 * u) % 2 ^ (4 * k)) + 1) * 2 ^ (12 - 4 * k) := Nat.mul_le_mul_right _ (Nat.le_succ _)
  refine zb_aload_n d_Sh_joinOne_0 rfl rfl ?_
  refine zr_tuples (q := q1) d_Sh_joinOne_1 fl_Sh_60 h1.1 ?_
  refine zb_iload_n d_Sh_joinOne_4 rfl rfl ?_
  refine zb_ialdN (q := q1 + 1) (j := i) d_Sh_joinOne_5 (h1.1.t) (by rw [h1.1.nt]; omega) ?_
  refine zb_top (y := nI (zN (σ.1 (q1 + 1) i))) ((h1.2.2.2.1 i hi).2) ?_
  refine zb_istore (lv' := [(5, .int (nI (zN (σ.1 (q1 + 1) i)))), (0, .ref (zad G 0)), (1, .ref (zad G q1)), (2, .int (nI i)), (3, .ref (zad G q2)), (4, .int (nI k))]) d_Sh_joinOne_6 (by decide) rfl ?_
  refine zb_iload d_Sh_joinOne_8 rfl ?_
  refine zb_aload_n d_Sh_joinOne_10 rfl rfl ?_
  refine zr_width (q := q1) d_Sh_joinOne_11 fl_Sh_40 h1.1 ?_
  refine zb_top (y := nI u) (hu) ?_
  refine zb_iload d_Sh_joinOne_14 rfl ?_
  refine zb_callS (rest := []) (c_lastNumbers l G ha hu3 hk3) (lk_Sh_129.cw rfl rfl ⟨Nat.le_of_ble_eq_true rfl, Nat.le_of_ble_eq_true rfl⟩) rfl rfl (Nat.le_of_ble_eq_true rfl) d_Sh_joinOne_16 ⟨Nat.le_of_ble_eq_true rfl, Nat.le_of_ble_eq_true rfl⟩ ?_
  rintro _ _ ⟨rfl, rfl⟩
  refine zb_st (st' := [.int (nI ((zN (σ.1 (q1 + 1) i)) / 2 ^ (12 - 4 * u) % 2 ^ (4 * k)))]) rfl ?_
  refine zb_istore (lv' := [(6, .int (nI ((zN (σ.1 (q1 + 1) i)) / 2 ^ (12 - 4 * u) % 2 ^ (4 * k)))), (5, .int (nI (zN (σ.1 (q1 + 1) i)))), (0, .ref (zad G 0)), (1, .ref (zad G q1)), (2, .int (nI i)), (3, .ref (zad G q2)), (4, .int (nI k))]) d_Sh_joinOne_19 (by decide) rfl ?_
  refine zb_aload_n d_Sh_joinOne_21 rfl rfl ?_
  refine zb_iload d_Sh_joinOne_22 rfl ?_
  refine zb_iload d_Sh_joinOne_24 rfl ?_
  refine zb_callS (rest := [.int (nI ((zN (σ.1 (q1 + 1) i)) / 2 ^ (12 - 4 * u) % 2 ^ (4 * k))), .ref (zad G q2)]) (c_bitsBehind l G hk3) (lk_Sh_132.cw rfl rfl ⟨Nat.le_of_ble_eq_true rfl, Nat.le_of_ble_eq_true rfl⟩) rfl rfl (Nat.le_of_ble_eq_true rfl) d_Sh_joinOne_26 ⟨Nat.le_of_ble_eq_true rfl, Nat.le_of_ble_eq_true rfl⟩ ?_
  rintro _ _ ⟨rfl, rfl⟩
  refine zb_st (st' := [.int (nI (12 - 4 * k)), .int (nI ((zN (σ.1 (q1 + 1) i)) / 2 ^ (12 - 4 * u) % 2 ^ (4 * k))), .ref (zad G q2)]) rfl ?_
  refine zb_ishl d_Sh_joinOne_29 ?_
  refine zb_top (y := nI (((zN (σ.1 (q1 + 1) i)) / 2 ^ (12 - 4 * u) % 2 ^ (4 * k)) * 2 ^ (12 - 4 * k))) (sh_lN (by omega) (by omega)) ?_
  refine zb_callV (rest := []) (c_placeOf l G h2.1 h2.2.1 h2.2.2.1 h2.2.2.srt) (lk_Sh_135.cw rfl rfl ⟨Nat.le_of_ble_eq_true rfl, Nat.le_of_ble_eq_true rfl⟩) (zgR h2.1) rfl rfl rfl rfl (Nat.le_of_ble_eq_true rfl) d_Sh_joinOne_30 ⟨Nat.le_of_ble_eq_true rfl, Nat.le_of_ble_eq_true rfl⟩ ?_
  rintro _ _ ⟨⟨f, rfl, hpf⟩, rfl⟩
  refine zb_st (st' := [.int (nI f)]) rfl ?_
  refine zb_istore (lv' := [(7, .int (nI f)), (6, .int (nI ((zN (σ.1 (q1 + 1) i)) / 2 ^ (12 - 4 * u) % 2 ^ (4 * k)))), (5, .int (nI (zN (σ.1 (q1 + 1) i)))), (0, .ref (zad G 0)), (1, .ref (zad G q1)), (2, .int (nI i)), (3, .ref (zad G q2)), (4, .int (nI k))]) d_Sh_joinOne_33 (by decide) rfl ?_
  refine zb_aload_n d_Sh_joinOne_35 rfl rfl ?_
  refine zb_iload d_Sh_joinOne_36 rfl ?_
  refine zb_iconst (v := 1) d_Sh_joinOne_38 rfl ?_
  refine zb_iadd d_Sh_joinOne_39 ?_
  refine zb_top (y := nI (((zN (σ.1 (q1 + 1) i)) / 2 ^ (12 - 4 * u) % 2 ^ (4 * k)) + 1)) (nI_1 _) ?_
  refine zb_iload d_Sh_joinOne_40 rfl ?_
  refine zb_callS (rest := [.int (nI (((zN (σ.1 (q1 + 1) i)) / 2 ^ (12 - 4 * u) % 2 ^ (4 * k)) + 1)), .ref (zad G q2)]) (c_bitsBehind l G hk3) (lk_Sh_132.cw rfl rfl ⟨Nat.le_of_ble_eq_true rfl, Nat.le_of_ble_eq_true rfl⟩) rfl rfl (Nat.le_of_ble_eq_true rfl) d_Sh_joinOne_42 ⟨Nat.le_of_ble_eq_true rfl, Nat.le_of_ble_eq_true rfl⟩ ?_
  rintro _ _ ⟨rfl, rfl⟩
  refine zb_st (st' := [.int (nI (12 - 4 * k)), .int (nI (((zN (σ.1 (q1 + 1) i)) / 2 ^ (12 - 4 * u) % 2 ^ (4 * k)) + 1)), .ref (zad G q2)]) rfl ?_
  refine zb_ishl d_Sh_joinOne_45 ?_
  refine zb_top (y := nI ((((zN (σ.1 (q1 + 1) i)) / 2 ^ (12 - 4 * u) % 2 ^ (4 * k)) + 1) * 2 ^ (12 - 4 * k))) (sh_lN (by omega) (by omega)) ?_
  refine zb_callV (rest := []) (c_placeOf l G h2.1 h2.2.1 h2.2.2.1 h2.2.2.srt) (lk_Sh_135.cw rfl rfl ⟨Nat.le_of_ble_eq_true rfl, Nat.le_of_ble_eq_true rfl⟩) (zgR h2.1) rfl rfl rfl rfl (Nat.le_of_ble_eq_true rfl) d_Sh_joinOne_46 ⟨Nat.le_of_ble_eq_true rfl, Nat.le_of_ble_eq_true rfl⟩ ?_
  rintro _ _ ⟨⟨g, rfl, hpg⟩, rfl⟩
  refine zb_st (st' := [.int (nI g)]) rfl ?_
  refine zb_istore (lv' := [(8, .int (nI g)), (7, .int (nI f)), (6, .int (nI ((zN (σ.1 (q1 + 1) i)) / 2 ^ (12 - 4 * u) % 2 ^ (4 * k)))), (5, .int (nI (zN (σ.1 (q1 + 1) i)))), (0, .ref (zad G 0)), (1, .ref (zad G q1)), (2, .int (nI i)), (3, .ref (zad G q2)), (4, .int (nI k))]) d_Sh_joinOne_49 (by decide) rfl ?_
  refine zb_iconst (v := 4) d_Sh_joinOne_51 rfl ?_
  refine zb_aload_n d_Sh_joinOne_52 rfl rfl ?_
  refine zr_width (q := q1) d_Sh_joinOne_53 fl_Sh_40 h1.1 ?_
  refine zb_top (y := nI u) (hu) ?_
  refine zb_iload d_Sh_joinOne_56 rfl ?_
  refine zb_isub d_Sh_joinOne_58 ?_
  refine zb_top (y := nI (u - k)) (pk_sub (by omega)) ?_
  refine zb_imul d_Sh_joinOne_59 ?_
  refine zb_top (y := nI (4 * (u - k))) (pk_mul 4 _) ?_
  refine zb_istore (lv' := [(9, .int (nI (4 * (u - k)))), (8, .int (nI g)), (7, .int (nI f)), (6, .int (nI ((zN (σ.1 (q1 + 1) i)) / 2 ^ (12 - 4 * u) % 2 ^ (4 * k)))), (5, .int (nI (zN (σ.1 (q1 + 1) i)))), (0, .ref (zad G 0)), (1, .ref (zad G q1)), (2, .int (nI i)), (3, .ref (zad G q2)), (4, .int (nI k))]) d_Sh_joinOne_60 (by decide) rfl ?_
  refine zb_iconst (v := 1) d_Sh_joinOne_62 rfl ?_
  refine zb_istore (lv' := [(10, .int 1), (9, .int (nI (4 * (u - k)))), (8, .int (nI g)), (7, .int (nI f)), (6, .int (nI ((zN (σ.1 (q1 + 1) i)) / 2 ^ (12 - 4 * u) % 2 ^ (4 * k)))), (5, .int (nI (zN (σ.1 (q1 + 1) i)))), (0, .ref (zad G 0)), (1, .ref (zad G q1)), (2, .int (nI i)), (3, .ref (zad G q2)), (4, .int (nI k))]) d_Sh_joinOne_63 (by decide) rfl ?_
  refine zb_iload d_Sh_joinOne_65 rfl ?_
  refine zb_istore (lv' := [(11, .int (nI f)), (10, .int 1), (9, .int (nI (4 * (u - k)))), (8, .int (nI g)), (7, .int (nI f)), (6, .int (nI ((zN (σ.1 (q1 + 1) i)) / 2 ^ (12 - 4 * u) % 2 ^ (4 * k)))), (5, .int (nI (zN (σ.1 (q1 + 1) i)))), (0, .ref (zad G 0)), (1, .ref (zad G q1)), (2, .int (nI i)), (3, .ref (zad G q2)), (4, .int (nI k))]) d_Sh_joinOne_67 (by decide) rfl ?_
  refine zb_sub [0, 1, 2, 3, 4, 5, 6, 7, 8, 9, 10, 11] rfl ?_
  exact lp_join1 l G hs n1s n2s h0 h1 h2 hu hj d1 d2 hi hpg.1 (pl_rng h2.2.2 hk3 hsh hpf hpg) (g - f) f σ ns m (by have := pl_le h2.2.2 hle (by omega) hpf hpg; omega) (Nat.le_refl _) (zf.rf _ _) hz (inv_ext hI (fun t _ => jS_start u k _ _ i f t))
set_option maxHeartbeats 4000000 in
set_option maxRecDepth 100000 in
theorem lp_join2 (l : Launch) (G : zG) {σ : zS} {s q1 q2 n1 n2 u v k r : Nat} {ya zb : Int32} {m1 m2 : Nat → Int32} {Fin : List Frame → Array Value → State → State → Prop} (hs : zrl s) (n1s : q1 ≠ s) (n2s : q2 ≠ s) (h0 : σ.1 0 0 = nI s) (h1 : zr σ q1 n1 m1) (h2 : zr σ q2 n2 m2) (hu : σ.1 q1 0 = nI u) (hj : jok u v k) (d1 : ∀ t, m1 t ≠ 0 → t % 2 ^ (12 - 4 * u) = 0) (d2 : ∀ t, m2 t ≠ 0 → t % 2 ^ (12 - 4 * v) = 0) (K1 : ∀ (τ : zS) (ns : Nat), zf σ τ s → zr τ s ns (jD u v k m1 m2) → zB l G w_Sh_join R_Sh c_Sh_join 10 (some .int) [] (zrz 8 190 6) Fin 5 30 131 [(9, .int (nI n1)), (8, .int 1), (7, .int (nI (u + v - k))), (0, .ref (zad G 0)), (1, .int (nI r)), (2, .int ya), (3, .int zb), (4, .int (nI k)), (5, .ref (zad G q1)), (6, .ref (zad G q2))] [] τ) (K0 : ∀ (τ : zS) (i : Int32), zf σ τ s → 300 < zct (jD u v k m1 m2) 4096 → zB l G w_Sh_join R_Sh c_Sh_join 10 (some .int) [] (zrz 8 190 6) Fin 5 30 131 [(9, .int i), (8, .int 0), (7, .int (nI (u + v - k))), (0, .ref (zad G 0)), (1, .int (nI r)), (2, .int ya), (3, .int zb), (4, .int (nI k)), (5, .ref (zad G q1)), (6, .ref (zad G q2))] [] τ) : ∀ (d i : Nat) (τ : zS) (ns : Nat) (m : Nat → Int32), i + d = n1 → zf σ τ s → zr τ s ns m → inv (jD u v k m1 m2) m (jS1 u (σ.1 (q1 + 1)) i) → zB l G w_Sh_join R_Sh c_Sh_join 10 (some .int) [] (zrz 8 190 6) Fin 5 30 96 [(9, .int (nI i)), (8, .int 1), (7, .int (nI (u + v - k))), (0, .ref (zad G 0)), (1, .int (nI r)), (2, .int ya), (3, .int zb), (4, .int (nI k)), (5, .ref (zad G q1)), (6, .ref (zad G q2))] [] τ := by
  intro d
  induction d with
  | zero =>
    intro i τ ns m hd hf hz hI
    have e : i = n1 := by omega
    have ap1 := h1.1.apart hs n1s
    have ap2 := h2.1.apart hs n2s
    have z0 : (0 : Nat) ≠ s ∧ (0 : Nat) ≠ s + 1 ∧ (0 : Nat) ≠ s + 2 := by have := hs.1; omega
    have e0 : τ.1 0 0 = nI s := by rw [hf.1 0 z0.1 z0.2.1 z0.2.2]; exact h0
    have e10 : τ.1 q1 = σ.1 q1 := hf.1 _ ap1.1 ap1.2.1 ap1.2.2.1
    have e11 : τ.1 (q1 + 1) = σ.1 (q1 + 1) := hf.1 _ ap1.2.2.2.1 ap1.2.2.2.2.1 ap1.2.2.2.2.2.1
    have e12 : τ.1 (q1 + 2) = σ.1 (q1 + 2) := hf.1 _ ap1.2.2.2.2.2.2.1 ap1.2.2.2.2.2.2.2.1 ap1.2.2.2.2.2.2.2.2
    have e20 : τ.1 q2 = σ.1 q2 := hf.1 _ ap2.1 ap2.2.1 ap2.2.2.1
    have e21 : τ.1 (q2 + 1) = σ.1 (q2 + 1) := hf.1 _ ap2.2.2.2.1 ap2.2.2.2.2.1 ap2.2.2.2.2.2.1
    have e22 : τ.1 (q2 + 2) = σ.1 (q2 + 2) := hf.1 _ ap2.2.2.2.2.2.2.1 ap2.2.2.2.2.2.2.2.1 ap2.2.2.2.2.2.2.2.2
    have g1 := h1.same (σ' := τ) e10 e11 e12
    have g2 := h2.same (σ' := τ) e20 e21 e22
    have hn1 := h1.2.2.1
    refine zb_iload d_Sh_join_96 rfl ?_
    refine zb_aload d_Sh_join_98 rfl ?_
    refine zr_size (q := q1) d_Sh_join_100 fl_Sh_32 h1.1 ?_
    refine zb_top (y := nI n1) (by rw [e10]; exact h1.2.1) ?_
    refine zb_icmp_ge (tgt := 131) d_Sh_join_103 rfl (fun h103 => ?_) (fun h103 => absurd (nI_le (a := n1) (b := i) (by omega) (by omega)) h103)
    refine zb_sub [0, 1, 2, 3, 4, 5, 6, 7, 8, 9] rfl ?_
    rw [e] at hI ⊢
    rw [jS_all h1.2.2 hI] at hz
    exact K1 τ ns hf hz
  | succ d ih =>
    intro i τ ns m hd hf hz hI
    have hlt : i < n1 := by omega
    have ap1 := h1.1.apart hs n1s
    have ap2 := h2.1.apart hs n2s
    have z0 : (0 : Nat) ≠ s ∧ (0 : Nat) ≠ s + 1 ∧ (0 : Nat) ≠ s + 2 := by have := hs.1; omega
    have e0 : τ.1 0 0 = nI s := by rw [hf.1 0 z0.1 z0.2.1 z0.2.2]; exact h0
    have e10 : τ.1 q1 = σ.1 q1 := hf.1 _ ap1.1 ap1.2.1 ap1.2.2.1
    have e11 : τ.1 (q1 + 1) = σ.1 (q1 + 1) := hf.1 _ ap1.2.2.2.1 ap1.2.2.2.2.1 ap1.2.2.2.2.2.1
    have e12 : τ.1 (q1 + 2) = σ.1 (q1 + 2) := hf.1 _ ap1.2.2.2.2.2.2.1 ap1.2.2.2.2.2.2.2.1 ap1.2.2.2.2.2.2.2.2
    have e20 : τ.1 q2 = σ.1 q2 := hf.1 _ ap2.1 ap2.2.1 ap2.2.2.1
    have e21 : τ.1 (q2 + 1) = σ.1 (q2 + 1) := hf.1 _ ap2.2.2.2.1 ap2.2.2.2.2.1 ap2.2.2.2.2.2.1
    have e22 : τ.1 (q2 + 2) = σ.1 (q2 + 2) := hf.1 _ ap2.2.2.2.2.2.2.1 ap2.2.2.2.2.2.2.2.1 ap2.2.2.2.2.2.2.2.2
    have g1 := h1.same (σ' := τ) e10 e11 e12
    have g2 := h2.same (σ' := τ) e20 e21 e22
    have hn1 := h1.2.2.1
    refine zb_iload d_Sh_join_96 rfl ?_
    refine zb_aload d_Sh_join_98 rfl ?_
    refine zr_size (q := q1) d_Sh_join_100 fl_Sh_32 h1.1 ?_
    refine zb_top (y := nI n1) (by rw [e10]; exact h1.2.1) ?_
    refine zb_icmp_ge (tgt := 131) d_Sh_join_103 rfl (fun h103 => absurd h103 (nI_ge (a := i) (b := n1) (by omega) (by omega))) (fun h103 => ?_)
    refine zb_iload d_Sh_join_106 rfl ?_
    refine zb_if_eq (tgt := 131) d_Sh_join_108 rfl (fun h108 => absurd h108 (by decide)) (fun h108 => ?_)
    refine zb_aload_n d_Sh_join_111 rfl rfl ?_
    refine zb_aload d_Sh_join_112 rfl ?_
    refine zb_iload d_Sh_join_114 rfl ?_
    refine zb_aload d_Sh_join_116 rfl ?_
    refine zb_iload d_Sh_join_118 rfl ?_
    refine zb_callV (rest := []) (c_joinOne l G hs n1s n2s e0 g1 g2 (by rw [e10]; exact hu) hj d1 d2 hlt hz (by rw [e11]; exact hI)) (lk_Sh_66.cw rfl rfl ⟨(Nat.le_of_ble_eq_true rfl), (Nat.le_of_ble_eq_true rfl)⟩) zgS rfl rfl rfl rfl (Nat.le_of_ble_eq_true rfl) d_Sh_join_120 ⟨(Nat.le_of_ble_eq_true rfl), (Nat.le_of_ble_eq_true rfl)⟩ ?_
    rintro v9 τ9 ⟨⟨rfl, n9, m9, z9, i9⟩ | ⟨rfl, hfull⟩, f9⟩
    · refine zb_st (st' := [.int 1]) rfl ?_
      refine zb_istore (lv' := [(8, .int 1), (9, .int (nI i)), (7, .int (nI (u + v - k))), (0, .ref (zad G 0)), (1, .int (nI r)), (2, .int ya), (3, .int zb), (4, .int (nI k)), (5, .ref (zad G q1)), (6, .ref (zad G q2))]) d_Sh_join_123 (by decide) rfl ?_
      refine zb_iinc (v := nI (i + 1)) (lv' := [(9, .int (nI (i + 1))), (8, .int 1), (7, .int (nI (u + v - k))), (0, .ref (zad G 0)), (1, .int (nI r)), (2, .int ya), (3, .int zb), (4, .int (nI k)), (5, .ref (zad G q1)), (6, .ref (zad G q2))]) d_Sh_join_125 rfl (nI_1 i) (by decide) rfl ?_
      refine zb_goto (tgt := 96) d_Sh_join_128 rfl ?_
      refine zb_sub [0, 1, 2, 3, 4, 5, 6, 7, 8, 9] rfl ?_
      exact ih (i + 1) τ9 n9 m9 (by omega) (hf.tr f9) z9 (by rw [e11] at i9; exact i9)
    · refine zb_st (st' := [.int 0]) rfl ?_
      refine zb_istore (lv' := [(8, .int 0), (9, .int (nI i)), (7, .int (nI (u + v - k))), (0, .ref (zad G 0)), (1, .int (nI r)), (2, .int ya), (3, .int zb), (4, .int (nI k)), (5, .ref (zad G q1)), (6, .ref (zad G q2))]) d_Sh_join_123 (by decide) rfl ?_
      refine zb_iinc (v := nI (i + 1)) (lv' := [(9, .int (nI (i + 1))), (8, .int 0), (7, .int (nI (u + v - k))), (0, .ref (zad G 0)), (1, .int (nI r)), (2, .int ya), (3, .int zb), (4, .int (nI k)), (5, .ref (zad G q1)), (6, .ref (zad G q2))]) d_Sh_join_125 rfl (nI_1 i) (by decide) rfl ?_
      refine zb_goto (tgt := 96) d_Sh_join_128 rfl ?_
      refine zb_iload d_Sh_join_96 rfl ?_
      refine zb_aload d_Sh_join_98 rfl ?_
      refine zr_size (q := q1) d_Sh_join_100 fl_Sh_32 h1.1 ?_
      refine zb_top (y := nI n1) (by rw [f9.1 _ ap1.1 ap1.2.1 ap1.2.2.1, e10]; exact h1.2.1) ?_
      refine zb_icmp_ge (tgt := 131) d_Sh_join_103 rfl (fun h103 => ?_) (fun h103 => ?_)
      · refine zb_sub [0, 1, 2, 3, 4, 5, 6, 7, 8, 9] rfl ?_
        exact K0 τ9 _ (hf.tr f9) hfull
      · refine zb_iload d_Sh_join_106 rfl ?_
        refine zb_if_eq (tgt := 131) d_Sh_join_108 rfl (fun h108 => ?_) (fun h108 => absurd rfl h108)
        refine zb_sub [0, 1, 2, 3, 4, 5, 6, 7, 8, 9] rfl ?_
        exact K0 τ9 _ (hf.tr f9) hfull
set_option maxHeartbeats 4000000 in
set_option maxRecDepth 100000 in
/-- join(to, a, b, on) -/
theorem c_join (l : Launch) (G : zG) {σ : zS} {x y z o : Int32} {M : Nat → Nat → Int32} {w : Nat → Nat} (hl : l.stackTraces = false) (hw : zwf σ M w) : zCX l G y_Sh_join w_Sh_join (zrz 8 190 6) 6 36 [.ref (zad G 0), .int x, .int y, .int z, .int o] σ (fun v σ' => ∃ r a b k : Nat, r < 8 ∧ x = nI r ∧ a < 8 ∧ y = nI a ∧ b < 8 ∧ z = nI b ∧ o = nI k ∧ jok (w a) (w b) k ∧ zct (jD (w a) (w b) k (M a) (M b)) 4096 ≤ 300 ∧ v = some (.int (nI (zct (jD (w a) (w b) k (M a) (M b)) 4096))) ∧ zwf σ' (uM M r (jD (w a) (w b) k (M a) (M b))) (uM w r (w a + w b - k)) ∧ zk σ σ') (fun E σ' => (E = zNS ∧ ¬ (zgr x ∧ zgr y ∧ zgr z) ∨ (E = zIA ∧ ∃ r a b : Nat, r < 8 ∧ x = nI r ∧ a < 8 ∧ y = nI a ∧ b < 8 ∧ z = nI b ∧ ¬ ∃ k : Nat, o = nI k ∧ jok (w a) (w b) k) ∨ E = zIS ∧ ∃ r a b k : Nat, r < 8 ∧ x = nI r ∧ a < 8 ∧ y = nI a ∧ b < 8 ∧ z = nI b ∧ o = nI k ∧ jok (w a) (w b) k ∧ 300 < zct (jD (w a) (w b) k (M a) (M b)) 4096) ∧ zwf σ' M w ∧ zk σ σ') := by
  refine zCX_of (cc := c_Sh_join) (nL := 10) (ret := (some .int)) (own := R_Sh) (by decide +kernel) rfl rfl (Nat.le_of_ble_eq_true rfl) ?_
  refine zb_lv (lv' := [(0, .ref (zad G 0)), (1, .int x), (2, .int y), (3, .int z), (4, .int o)]) rfl ?_
  refine zb_iload_n d_Sh_join_0 rfl rfl ?_
  refine zx_callS (rest := []) (c_mustBe l G hl) (lk_Sh_63.cw rfl rfl ⟨Nat.le_of_ble_eq_true rfl, Nat.le_of_ble_eq_true rfl⟩) rfl rfl (Nat.le_of_ble_eq_true rfl) d_Sh_join_1 ⟨Nat.le_of_ble_eq_true rfl, Nat.le_of_ble_eq_true rfl⟩ ?_ ?_
  rotate_left
  · rintro E _ ⟨rfl, hx, rfl⟩; exact zx_out ⟨Or.inl ⟨rfl, fun z => hx z.1⟩, hw, zk.rf _⟩ (Nat.le_of_ble_eq_true rfl) (Nat.le_of_ble_eq_true rfl)
  rintro _ _ ⟨rfl, ⟨r, hr, rfl⟩, rfl⟩
  refine zb_lv (lv' := [(0, .ref (zad G 0)), (1, .int (nI r)), (2, .int y), (3, .int z), (4, .int o)]) rfl ?_
  refine zb_st (st' := []) rfl ?_
  refine zb_aload_n d_Sh_join_4 rfl rfl ?_
  refine zb_iload_n d_Sh_join_5 rfl rfl ?_
  refine zx_callV (rest := []) (c_relationOf l G hl) (lk_Sh_24.cw rfl rfl ⟨Nat.le_of_ble_eq_true rfl, Nat.le_of_ble_eq_true rfl⟩) zgS rfl rfl rfl rfl (Nat.le_of_ble_eq_true rfl) d_Sh_join_6 ⟨Nat.le_of_ble_eq_true rfl, Nat.le_of_ble_eq_true rfl⟩ ?_ ?_
  rotate_left
  · rintro E _ ⟨rfl, hx, rfl⟩; exact zx_out ⟨Or.inl ⟨rfl, fun z => hx z.2.1⟩, hw, zk.rf _⟩ (Nat.le_of_ble_eq_true rfl) (Nat.le_of_ble_eq_true rfl)
  rintro _ _ ⟨a, ha, rfl, rfl, rfl⟩
  refine zb_lv (lv' := [(0, .ref (zad G 0)), (1, .int (nI r)), (2, .int (nI a)), (3, .int z), (4, .int o)]) rfl ?_
  refine zb_st (st' := [.ref (zad G (zN (σ.1 1 a)))]) rfl ?_
  refine zb_astore (lv' := [(5, .ref (zad G (zN (σ.1 1 a)))), (0, .ref (zad G 0)), (1, .int (nI r)), (2, .int (nI a)), (3, .int z), (4, .int o)]) d_Sh_join_9 (by decide) rfl ?_
  refine zb_aload_n d_Sh_join_11 rfl rfl ?_
  refine zb_iload_n d_Sh_join_12 rfl rfl ?_
  refine zx_callV (rest := []) (c_relationOf l G hl) (lk_Sh_24.cw rfl rfl ⟨Nat.le_of_ble_eq_true rfl, Nat.le_of_ble_eq_true rfl⟩) zgS rfl rfl rfl rfl (Nat.le_of_ble_eq_true rfl) d_Sh_join_13 ⟨Nat.le_of_ble_eq_true rfl, Nat.le_of_ble_eq_true rfl⟩ ?_ ?_
  rotate_left
  · rintro E _ ⟨rfl, hx, rfl⟩; exact zx_out ⟨Or.inl ⟨rfl, fun z => hx z.2.2⟩, hw, zk.rf _⟩ (Nat.le_of_ble_eq_true rfl) (Nat.le_of_ble_eq_true rfl)
  rintro _ _ ⟨b, hb, rfl, rfl, rfl⟩
  refine zb_lv (lv' := [(5, .ref (zad G (zN (σ.1 1 a)))), (0, .ref (zad G 0)), (1, .int (nI r)), (2, .int (nI a)), (3, .int (nI b)), (4, .int o)]) rfl ?_
  refine zb_st (st' := [.ref (zad G (zN (σ.1 1 b)))]) rfl ?_
  refine zb_astore (lv' := [(6, .ref (zad G (zN (σ.1 1 b)))), (5, .ref (zad G (zN (σ.1 1 a)))), (0, .ref (zad G 0)), (1, .int (nI r)), (2, .int (nI a)), (3, .int (nI b)), (4, .int o)]) d_Sh_join_16 (by decide) rfl ?_
  have hwa := (hw.at ha).2.2.1
  have hwb := (hw.at hb).2.2.1
  have hwa1 := (hw.at ha).2.1
  have hwb1 := (hw.at hb).2.1
  refine zb_iload d_Sh_join_18 rfl ?_
  refine zb_if_lt (tgt := 47) d_Sh_join_20 rfl (fun h20 => ?_) (fun h20 => ?_)
  · refine zb_iconst (v := 0) d_Sh_join_47 rfl ?_
    refine zx_callS (rest := []) (c_refuseUnless l G hl) (lk_Sh_28.cw rfl rfl ⟨Nat.le_of_ble_eq_true rfl, Nat.le_of_ble_eq_true rfl⟩) rfl rfl (Nat.le_of_ble_eq_true rfl) d_Sh_join_48 ⟨Nat.le_of_ble_eq_true rfl, Nat.le_of_ble_eq_true rfl⟩ ?_ ?_
    rotate_left
    · rintro E _ ⟨rfl, -, rfl⟩; exact zx_out ⟨Or.inr (Or.inl ⟨rfl, r, a, b, hr, rfl, ha, rfl, hb, rfl, fun ⟨k, e, h1⟩ => by subst e; unfold jok at h1; exact absurd h20 (nI_pos (by omega))⟩), hw, zk.rf _⟩ (Nat.le_of_ble_eq_true rfl) (Nat.le_of_ble_eq_true rfl)
    rintro _ _ ⟨-, h0, -⟩
    exact absurd rfl h0
  · refine zb_iload d_Sh_join_23 rfl ?_
    refine zb_aload d_Sh_join_25 rfl ?_
    refine zr_width (q := zN (σ.1 1 a)) d_Sh_join_27 fl_Sh_40 (hw.rl ha) ?_
    refine zb_top (y := nI (w a)) ((hw.at ha).1) ?_
    refine zb_icmp_gt (tgt := 47) d_Sh_join_30 rfl (fun h30 => ?_) (fun h30 => ?_)
    · refine zb_iconst (v := 0) d_Sh_join_47 rfl ?_
      refine zx_callS (rest := []) (c_refuseUnless l G hl) (lk_Sh_28.cw rfl rfl ⟨Nat.le_of_ble_eq_true rfl, Nat.le_of_ble_eq_true rfl⟩) rfl rfl (Nat.le_of_ble_eq_true rfl) d_Sh_join_48 ⟨Nat.le_of_ble_eq_true rfl, Nat.le_of_ble_eq_true rfl⟩ ?_ ?_
      rotate_left
      · rintro E _ ⟨rfl, -, rfl⟩; exact zx_out ⟨Or.inr (Or.inl ⟨rfl, r, a, b, hr, rfl, ha, rfl, hb, rfl, fun ⟨k, e, h1⟩ => by subst e; unfold jok at h1; exact absurd h30 (nI_nlt (by omega) (by omega))⟩), hw, zk.rf _⟩ (Nat.le_of_ble_eq_true rfl) (Nat.le_of_ble_eq_true rfl)
      rintro _ _ ⟨-, h0, -⟩
      exact absurd rfl h0
    · refine zb_iload d_Sh_join_33 rfl ?_
      refine zb_aload d_Sh_join_35 rfl ?_
      refine zr_width (q := zN (σ.1 1 b)) d_Sh_join_37 fl_Sh_40 (hw.rl hb) ?_
      refine zb_top (y := nI (w b)) ((hw.at hb).1) ?_
      refine zb_icmp_gt (tgt := 47) d_Sh_join_40 rfl (fun h40 => ?_) (fun h40 => ?_)
      · refine zb_iconst (v := 0) d_Sh_join_47 rfl ?_
        refine zx_callS (rest := []) (c_refuseUnless l G hl) (lk_Sh_28.cw rfl rfl ⟨Nat.le_of_ble_eq_true rfl, Nat.le_of_ble_eq_true rfl⟩) rfl rfl (Nat.le_of_ble_eq_true rfl) d_Sh_join_48 ⟨Nat.le_of_ble_eq_true rfl, Nat.le_of_ble_eq_true rfl⟩ ?_ ?_
        rotate_left
        · rintro E _ ⟨rfl, -, rfl⟩; exact zx_out ⟨Or.inr (Or.inl ⟨rfl, r, a, b, hr, rfl, ha, rfl, hb, rfl, fun ⟨k, e, h1⟩ => by subst e; unfold jok at h1; exact absurd h40 (nI_nlt (by omega) (by omega))⟩), hw, zk.rf _⟩ (Nat.le_of_ble_eq_true rfl) (Nat.le_of_ble_eq_true rfl)
        rintro _ _ ⟨-, h0, -⟩
        exact absurd rfl h0
      · refine zb_iconst (v := 1) d_Sh_join_43 rfl ?_
        refine zb_goto (tgt := 48) d_Sh_join_44 rfl ?_
        refine zx_callS (rest := []) (c_refuseUnless l G hl) (lk_Sh_28.cw rfl rfl ⟨Nat.le_of_ble_eq_true rfl, Nat.le_of_ble_eq_true rfl⟩) rfl rfl (Nat.le_of_ble_eq_true rfl) d_Sh_join_48 ⟨Nat.le_of_ble_eq_true rfl, Nat.le_of_ble_eq_true rfl⟩ ?_ ?_
        rotate_left
        · rintro E _ ⟨-, h0, -⟩; exact absurd h0 (by decide)
        rintro _ _ ⟨rfl, -, rfl⟩
        refine zb_st (st' := []) rfl ?_
        obtain ⟨k, hk31, rfl⟩ := nI_of h20
        have hka : k ≤ w a := (nI_leI hk31 (by omega)).mp (Int32.not_lt.mp h30)
        have hkb : k ≤ w b := (nI_leI hk31 (by omega)).mp (Int32.not_lt.mp h40)
        refine zb_lv (lv' := [(6, .ref (zad G (zN (σ.1 1 b)))), (5, .ref (zad G (zN (σ.1 1 a)))), (0, .ref (zad G 0)), (1, .int (nI r)), (2, .int (nI a)), (3, .int (nI b)), (4, .int (nI k))]) (rfl) ?_
        refine zb_aload d_Sh_join_51 rfl ?_
        refine zr_width (q := zN (σ.1 1 a)) d_Sh_join_53 fl_Sh_40 (hw.rl ha) ?_
        refine zb_top (y := nI (w a)) ((hw.at ha).1) ?_
        refine zb_aload d_Sh_join_56 rfl ?_
        refine zr_width (q := zN (σ.1 1 b)) d_Sh_join_58 fl_Sh_40 (hw.rl hb) ?_
        refine zb_top (y := nI (w b)) ((hw.at hb).1) ?_
        refine zb_iadd d_Sh_join_61 ?_
        refine zb_top (y := nI (w a + w b)) (nI_add _ _) ?_
        refine zb_iload d_Sh_join_62 rfl ?_
        refine zb_isub d_Sh_join_64 ?_
        refine zb_top (y := nI (w a + w b - k)) (pk_sub (by omega)) ?_
        refine zb_istore (lv' := [(7, .int (nI (w a + w b - k))), (6, .ref (zad G (zN (σ.1 1 b)))), (5, .ref (zad G (zN (σ.1 1 a)))), (0, .ref (zad G 0)), (1, .int (nI r)), (2, .int (nI a)), (3, .int (nI b)), (4, .int (nI k))]) d_Sh_join_65 (by decide) rfl ?_
        refine zb_iload d_Sh_join_67 rfl ?_
        refine zb_iconst (v := 3) d_Sh_join_69 rfl ?_
        refine zb_icmp_gt (tgt := 77) d_Sh_join_70 rfl (fun h70 => ?_) (fun h70 => ?_)
        · refine zb_iconst (v := 0) d_Sh_join_77 rfl ?_
          refine zx_callS (rest := []) (c_refuseUnless l G hl) (lk_Sh_28.cw rfl rfl ⟨Nat.le_of_ble_eq_true rfl, Nat.le_of_ble_eq_true rfl⟩) rfl rfl (Nat.le_of_ble_eq_true rfl) d_Sh_join_78 ⟨Nat.le_of_ble_eq_true rfl, Nat.le_of_ble_eq_true rfl⟩ ?_ ?_
          rotate_left
          · rintro E _ ⟨rfl, -, rfl⟩; exact zx_out ⟨Or.inr (Or.inl ⟨rfl, r, a, b, hr, rfl, ha, rfl, hb, rfl, fun ⟨k2, e2, h1⟩ => by
            have e3 := (nI_eq hk31 (by unfold jok at h1; omega)).mp e2
            subst e3
            unfold jok at h1
            exact absurd h70 (nI_nlt (a := 3) (b := w a + w b - k) (by omega) (by decide))⟩), hw, zk.rf _⟩ (Nat.le_of_ble_eq_true rfl) (Nat.le_of_ble_eq_true rfl)
          rintro _ _ ⟨-, h0, -⟩
          exact absurd rfl h0
        · refine zb_iconst (v := 1) d_Sh_join_73 rfl ?_
          refine zb_goto (tgt := 78) d_Sh_join_74 rfl ?_
          refine zx_callS (rest := []) (c_refuseUnless l G hl) (lk_Sh_28.cw rfl rfl ⟨Nat.le_of_ble_eq_true rfl, Nat.le_of_ble_eq_true rfl⟩) rfl rfl (Nat.le_of_ble_eq_true rfl) d_Sh_join_78 ⟨Nat.le_of_ble_eq_true rfl, Nat.le_of_ble_eq_true rfl⟩ ?_ ?_
          rotate_left
          · rintro E _ ⟨-, h0, -⟩; exact absurd h0 (by decide)
          rintro _ _ ⟨rfl, -, rfl⟩
          refine zb_st (st' := []) rfl ?_
          have hw3 : w a + w b - k ≤ 3 := (nI_leI (b := 3) (by omega) (by decide)).mp (Int32.not_lt.mp h70)
          have hjo : jok (w a) (w b) k := ⟨hwa1, hwa, hwb1, hwb, hka, hkb, hw3⟩
          refine zb_aload_n d_Sh_join_81 rfl rfl ?_
          refine zs_spare d_Sh_join_82 fl_Sh_16 ?_
          refine zb_iload d_Sh_join_85 rfl ?_
          refine zb_callV (rest := []) (c_startAnew l G hw.sp) (lk_Sh_36.cw rfl rfl ⟨Nat.le_of_ble_eq_true rfl, Nat.le_of_ble_eq_true rfl⟩) (zgR hw.sp) rfl rfl rfl rfl (Nat.le_of_ble_eq_true rfl) d_Sh_join_87 ⟨Nat.le_of_ble_eq_true rfl, Nat.le_of_ble_eq_true rfl⟩ ?_
          rintro _ _ ⟨rfl, rfl⟩
          refine zb_st (st' := []) rfl ?_
          refine zb_iconst (v := 1) d_Sh_join_90 rfl ?_
          refine zb_istore (lv' := [(8, .int 1), (7, .int (nI (w a + w b - k))), (6, .ref (zad G (zN (σ.1 1 b)))), (5, .ref (zad G (zN (σ.1 1 a)))), (0, .ref (zad G 0)), (1, .int (nI r)), (2, .int (nI a)), (3, .int (nI b)), (4, .int (nI k))]) d_Sh_join_91 (by decide) rfl ?_
          refine zb_iconst (v := 0) d_Sh_join_93 rfl ?_
          refine zb_istore (lv' := [(9, .int 0), (8, .int 1), (7, .int (nI (w a + w b - k))), (6, .ref (zad G (zN (σ.1 1 b)))), (5, .ref (zad G (zN (σ.1 1 a)))), (0, .ref (zad G 0)), (1, .int (nI r)), (2, .int (nI a)), (3, .int (nI b)), (4, .int (nI k))]) d_Sh_join_94 (by decide) rfl ?_
          refine zb_lv (lv' := [(9, .int (nI 0)), (8, .int 1), (7, .int (nI (w a + w b - k))), (6, .ref (zad G (zN (σ.1 1 b)))), (5, .ref (zad G (zN (σ.1 1 a)))), (0, .ref (zad G 0)), (1, .int (nI r)), (2, .int (nI a)), (3, .int (nI b)), (4, .int (nI k))]) rfl ?_
          obtain ⟨n, hn⟩ := (hw.at ha).2.2.2.1
          obtain ⟨n2, hn2⟩ := (hw.at hb).2.2.2.1
          have ap := (hw.rl ha).apart hw.sp (hw.1.2 a ha).2
          have ap2 := (hw.rl hb).apart hw.sp (hw.1.2 b hb).2
          have hsn := hw.sp.1
          have hzq : zr (zst σ (zN (σ.1 0 0)) (nI (w a + w b - k))) (zN (σ.1 1 a)) n (M a) := hn.same (zst_n σ _ ap.1) (zst_n σ _ ap.2.2.2.1) (zst_n σ _ ap.2.2.2.2.2.2.1)
          have hzq2 : zr (zst σ (zN (σ.1 0 0)) (nI (w a + w b - k))) (zN (σ.1 1 b)) n2 (M b) := hn2.same (zst_n σ _ ap2.1) (zst_n σ _ ap2.2.2.2.1) (zst_n σ _ ap2.2.2.2.2.2.2.1)
          have h00 : (zst σ (zN (σ.1 0 0)) (nI (w a + w b - k))).1 0 0 = nI (zN (σ.1 0 0)) := by rw [zst_n σ _ (by omega)]; exact hw.sp.nI
          refine zb_sub [0, 1, 2, 5, 6, 7, 8, 9, 4, 3] rfl ?_
          refine lp_join2 l G (s := zN (σ.1 0 0)) (q1 := zN (σ.1 1 a)) (q2 := zN (σ.1 1 b)) hw.sp (hw.1.2 a ha).2 (hw.1.2 b hb).2 h00 hzq hzq2 (by rw [zst_n σ _ ap.1]; exact (hw.at ha).1) hjo (hw.at ha).2.2.2.2 (hw.at hb).2.2.2.2 (fun τ ns hf hz => ?_) (fun τ i hf hfull => ?_) n 0 _ 0 (fun _ => 0) (by omega) (zf.rf _ _) (zr_start hw.sp) (jS_nil _ _)
          · refine zb_iload d_Sh_join_131 rfl ?_
            refine zx_callS (rest := []) (c_refuseIfFull l G hl) (lk_Sh_50.cw rfl rfl ⟨Nat.le_of_ble_eq_true rfl, Nat.le_of_ble_eq_true rfl⟩) rfl rfl (Nat.le_of_ble_eq_true rfl) d_Sh_join_133 ⟨Nat.le_of_ble_eq_true rfl, Nat.le_of_ble_eq_true rfl⟩ ?_ ?_
            rotate_left
            · rintro E _ ⟨-, h0, -⟩; exact absurd h0 (by decide)
            rintro _ _ ⟨rfl, -, rfl⟩
            refine zb_st (st' := []) rfl ?_
            have t0 : τ.1 0 = σ.1 0 := (hf.1 0 (by omega) (by omega) (by omega)).trans (zst_n σ _ (by omega))
            have t1 : τ.1 1 = σ.1 1 := (hf.1 1 (by omega) (by omega) (by omega)).trans (zst_n σ _ (by omega))
            refine zb_aload_n d_Sh_join_136 rfl rfl ?_
            refine zb_iload_n d_Sh_join_137 rfl rfl ?_
            refine zb_callV (rest := []) (c_keepSpareAs l G hr (by rw [t0]; exact hw.sp) (by rw [t1]; exact hw.rl hr)) (lk_Sh_70.cw rfl rfl ⟨Nat.le_of_ble_eq_true rfl, Nat.le_of_ble_eq_true rfl⟩) zgS rfl rfl rfl rfl (Nat.le_of_ble_eq_true rfl) d_Sh_join_138 ⟨Nat.le_of_ble_eq_true rfl, Nat.le_of_ble_eq_true rfl⟩ ?_
            rintro _ _ ⟨rfl, k1, k2, k3, k4⟩
            rename_i σ9
            refine zb_st (st' := [.int (τ.1 (zN (τ.1 0 0)) 1)]) rfl ?_
            exact zx_ret (zb_iret d_Sh_join_141 rfl ⟨r, a, b, k, hr, rfl, ha, rfl, hb, rfl, rfl, hjo, by rw [zct_eq hz.2.2]; exact hz.2.2.1, zfin hw ((zst_k σ _ hw.sp).tr (zf.k hw.sp hf)) (fun k h1 h2 h3 h4 => (hf.1 k h1 h2 h3).trans (zst_n σ _ h1)) hr (hf.2.2.trans (zst_0 σ _ _)) (by omega) hw3 hz (fun t ht => (jD_ne ht).2.1) ⟨rfl, k1, k2, k3, k4⟩⟩)
          · refine zb_iload d_Sh_join_131 rfl ?_
            refine zx_callS (rest := []) (c_refuseIfFull l G hl) (lk_Sh_50.cw rfl rfl ⟨Nat.le_of_ble_eq_true rfl, Nat.le_of_ble_eq_true rfl⟩) rfl rfl (Nat.le_of_ble_eq_true rfl) d_Sh_join_133 ⟨Nat.le_of_ble_eq_true rfl, Nat.le_of_ble_eq_true rfl⟩ ?_ ?_
            rotate_left
            · rintro E _ ⟨rfl, -, rfl⟩; exact zx_out ⟨Or.inr (Or.inr ⟨rfl, r, a, b, k, hr, rfl, ha, rfl, hb, rfl, rfl, hjo, hfull⟩), zwf_spare hw (fun k h1 h2 h3 h4 => (hf.1 k h1 h2 h3).trans (zst_n σ _ h1)), (zst_k σ _ hw.sp).tr (zf.k hw.sp hf)⟩ (Nat.le_of_ble_eq_true rfl) (Nat.le_of_ble_eq_true rfl)
            rintro _ _ ⟨-, h0, -⟩
            exact absurd rfl h0
end
section
theorem d_Mo_init_0 : decode c_Mo_init 0 = .ok (.aload_n 0, 1) := by decide +kernel
theorem d_Mo_init_1 : decode c_Mo_init 1 = .ok (.invokespecial 1, 3) := by decide +kernel
theorem d_Mo_init_4 : decode c_Mo_init 4 = .ok (.aload_n 0, 1) := by decide +kernel
theorem d_Mo_init_5 : decode c_Mo_init 5 = .ok (.iconst 0, 1) := by decide +kernel
theorem d_Mo_init_6 : decode c_Mo_init 6 = .ok (.putfield 7, 3) := by decide +kernel
theorem d_Mo_init_9 : decode c_Mo_init 9 = .ok (.aload_n 0, 1) := by decide +kernel
theorem d_Mo_init_10 : decode c_Mo_init 10 = .ok (.bipush 8, 2) := by decide +kernel
theorem d_Mo_init_12 : decode c_Mo_init 12 = .ok (.newarray .int, 2) := by decide +kernel
theorem d_Mo_init_14 : decode c_Mo_init 14 = .ok (.putfield 13, 3) := by decide +kernel
theorem d_Mo_init_17 : decode c_Mo_init 17 = .ok (.aload_n 0, 1) := by decide +kernel
theorem d_Mo_init_18 : decode c_Mo_init 18 = .ok (.ldc 17, 2) := by decide +kernel
theorem d_Mo_init_20 : decode c_Mo_init 20 = .ok (.newarray .int, 2) := by decide +kernel
theorem d_Mo_init_22 : decode c_Mo_init 22 = .ok (.putfield 18, 3) := by decide +kernel
theorem d_Mo_init_25 : decode c_Mo_init 25 = .ok (.aload_n 0, 1) := by decide +kernel
theorem d_Mo_init_26 : decode c_Mo_init 26 = .ok (.sipush 4096, 3) := by decide +kernel
theorem d_Mo_init_29 : decode c_Mo_init 29 = .ok (.newarray .int, 2) := by decide +kernel
theorem d_Mo_init_31 : decode c_Mo_init 31 = .ok (.putfield 21, 3) := by decide +kernel
theorem d_Mo_init_34 : decode c_Mo_init 34 = .ok (.aload_n 0, 1) := by decide +kernel
theorem d_Mo_init_35 : decode c_Mo_init 35 = .ok (.sipush 256, 3) := by decide +kernel
theorem d_Mo_init_38 : decode c_Mo_init 38 = .ok (.newarray .boolean, 2) := by decide +kernel
theorem d_Mo_init_40 : decode c_Mo_init 40 = .ok (.putfield 24, 3) := by decide +kernel
theorem d_Mo_init_43 : decode c_Mo_init 43 = .ok (.iconst 0, 1) := by decide +kernel
theorem d_Mo_init_44 : decode c_Mo_init 44 = .ok (.istore_n 1, 1) := by decide +kernel
theorem d_Mo_init_45 : decode c_Mo_init 45 = .ok (.iload_n 1, 1) := by decide +kernel
theorem d_Mo_init_46 : decode c_Mo_init 46 = .ok (.bipush 8, 2) := by decide +kernel
theorem d_Mo_init_48 : decode c_Mo_init 48 = .ok (.if_icmp .ge 16, 3) := by decide +kernel
theorem d_Mo_init_51 : decode c_Mo_init 51 = .ok (.aload_n 0, 1) := by decide +kernel
theorem d_Mo_init_52 : decode c_Mo_init 52 = .ok (.getfield 13, 3) := by decide +kernel
theorem d_Mo_init_55 : decode c_Mo_init 55 = .ok (.iload_n 1, 1) := by decide +kernel
theorem d_Mo_init_56 : decode c_Mo_init 56 = .ok (.iconst 1, 1) := by decide +kernel
theorem d_Mo_init_57 : decode c_Mo_init 57 = .ok (.iastore, 1) := by decide +kernel
theorem d_Mo_init_58 : decode c_Mo_init 58 = .ok (.iinc 1 1, 3) := by decide +kernel
theorem d_Mo_init_61 : decode c_Mo_init 61 = .ok (.goto (-16), 3) := by decide +kernel
theorem d_Mo_init_64 : decode c_Mo_init 64 = .ok (.return_, 1) := by decide +kernel
theorem d_Mo_thrown_0 : decode c_Mo_thrown 0 = .ok (.aload_n 0, 1) := by decide +kernel
theorem d_Mo_thrown_1 : decode c_Mo_thrown 1 = .ok (.getfield 7, 3) := by decide +kernel
theorem d_Mo_thrown_4 : decode c_Mo_thrown 4 = .ok (.ireturn, 1) := by decide +kernel
theorem d_Mo_width_0 : decode c_Mo_width 0 = .ok (.aload_n 0, 1) := by decide +kernel
theorem d_Mo_width_1 : decode c_Mo_width 1 = .ok (.iload_n 1, 1) := by decide +kernel
theorem d_Mo_width_2 : decode c_Mo_width 2 = .ok (.invokevirtual 36, 3) := by decide +kernel
theorem d_Mo_width_5 : decode c_Mo_width 5 = .ok (.ifCond .ne 26, 3) := by decide +kernel
theorem d_Mo_width_8 : decode c_Mo_width 8 = .ok (.aload_n 0, 1) := by decide +kernel
theorem d_Mo_width_9 : decode c_Mo_width 9 = .ok (.iconst 2, 1) := by decide +kernel
theorem d_Mo_width_10 : decode c_Mo_width 10 = .ok (.iload_n 2, 1) := by decide +kernel
theorem d_Mo_width_11 : decode c_Mo_width 11 = .ok (.iconst 1, 1) := by decide +kernel
theorem d_Mo_width_12 : decode c_Mo_width 12 = .ok (.if_icmp .lt 8, 3) := by decide +kernel
theorem d_Mo_width_15 : decode c_Mo_width 15 = .ok (.iload_n 2, 1) := by decide +kernel
theorem d_Mo_width_16 : decode c_Mo_width 16 = .ok (.iconst 3, 1) := by decide +kernel
theorem d_Mo_width_17 : decode c_Mo_width 17 = .ok (.if_icmp .le 7, 3) := by decide +kernel
theorem d_Mo_width_20 : decode c_Mo_width 20 = .ok (.iconst 1, 1) := by decide +kernel
theorem d_Mo_width_21 : decode c_Mo_width 21 = .ok (.goto 4, 3) := by decide +kernel
theorem d_Mo_width_24 : decode c_Mo_width 24 = .ok (.iconst 0, 1) := by decide +kernel
theorem d_Mo_width_25 : decode c_Mo_width 25 = .ok (.invokevirtual 28, 3) := by decide +kernel
theorem d_Mo_width_28 : decode c_Mo_width 28 = .ok (.ifCond .eq 5, 3) := by decide +kernel
theorem d_Mo_width_31 : decode c_Mo_width 31 = .ok (.iconst 0, 1) := by decide +kernel
theorem d_Mo_width_32 : decode c_Mo_width 32 = .ok (.ireturn, 1) := by decide +kernel
theorem d_Mo_width_33 : decode c_Mo_width 33 = .ok (.aload_n 0, 1) := by decide +kernel
theorem d_Mo_width_34 : decode c_Mo_width 34 = .ok (.iload_n 1, 1) := by decide +kernel
theorem d_Mo_width_35 : decode c_Mo_width 35 = .ok (.invokevirtual 40, 3) := by decide +kernel
theorem d_Mo_width_38 : decode c_Mo_width 38 = .ok (.istore_n 3, 1) := by decide +kernel
theorem d_Mo_width_39 : decode c_Mo_width 39 = .ok (.aload_n 0, 1) := by decide +kernel
theorem d_Mo_width_40 : decode c_Mo_width 40 = .ok (.getfield 13, 3) := by decide +kernel
theorem d_Mo_width_43 : decode c_Mo_width 43 = .ok (.iload_n 1, 1) := by decide +kernel
theorem d_Mo_width_44 : decode c_Mo_width 44 = .ok (.iload_n 2, 1) := by decide +kernel
theorem d_Mo_width_45 : decode c_Mo_width 45 = .ok (.iastore, 1) := by decide +kernel
theorem d_Mo_width_46 : decode c_Mo_width 46 = .ok (.iconst 0, 1) := by decide +kernel
theorem d_Mo_width_47 : decode c_Mo_width 47 = .ok (.istore 4, 2) := by decide +kernel
theorem d_Mo_width_49 : decode c_Mo_width 49 = .ok (.iload 4, 2) := by decide +kernel
theorem d_Mo_width_51 : decode c_Mo_width 51 = .ok (.sipush 4096, 3) := by decide +kernel
theorem d_Mo_width_54 : decode c_Mo_width 54 = .ok (.if_icmp .ge 23, 3) := by decide +kernel
theorem d_Mo_width_57 : decode c_Mo_width 57 = .ok (.aload_n 0, 1) := by decide +kernel
theorem d_Mo_width_58 : decode c_Mo_width 58 = .ok (.getfield 18, 3) := by decide +kernel
theorem d_Mo_width_61 : decode c_Mo_width 61 = .ok (.sipush 4096, 3) := by decide +kernel
theorem d_Mo_width_64 : decode c_Mo_width 64 = .ok (.iload_n 1, 1) := by decide +kernel
theorem d_Mo_width_65 : decode c_Mo_width 65 = .ok (.imul, 1) := by decide +kernel
theorem d_Mo_width_66 : decode c_Mo_width 66 = .ok (.iload 4, 2) := by decide +kernel
theorem d_Mo_width_68 : decode c_Mo_width 68 = .ok (.iadd, 1) := by decide +kernel
theorem d_Mo_width_69 : decode c_Mo_width 69 = .ok (.iconst 0, 1) := by decide +kernel
theorem d_Mo_width_70 : decode c_Mo_width 70 = .ok (.iastore, 1) := by decide +kernel
theorem d_Mo_width_71 : decode c_Mo_width 71 = .ok (.iinc 4 1, 3) := by decide +kernel
theorem d_Mo_width_74 : decode c_Mo_width 74 = .ok (.goto (-25), 3) := by decide +kernel
theorem d_Mo_width_77 : decode c_Mo_width 77 = .ok (.iload_n 3, 1) := by decide +kernel
theorem d_Mo_width_78 : decode c_Mo_width 78 = .ok (.ireturn, 1) := by decide +kernel
theorem d_Mo_none_0 : decode c_Mo_none 0 = .ok (.aload_n 0, 1) := by decide +kernel
theorem d_Mo_none_1 : decode c_Mo_none 1 = .ok (.iconst 0, 1) := by decide +kernel
theorem d_Mo_none_2 : decode c_Mo_none 2 = .ok (.putfield 7, 3) := by decide +kernel
theorem d_Mo_none_5 : decode c_Mo_none 5 = .ok (.aload_n 0, 1) := by decide +kernel
theorem d_Mo_none_6 : decode c_Mo_none 6 = .ok (.iconst 1, 1) := by decide +kernel
theorem d_Mo_none_7 : decode c_Mo_none 7 = .ok (.iload_n 1, 1) := by decide +kernel
theorem d_Mo_none_8 : decode c_Mo_none 8 = .ok (.ifCond .lt 9, 3) := by decide +kernel
theorem d_Mo_none_11 : decode c_Mo_none 11 = .ok (.iload_n 1, 1) := by decide +kernel
theorem d_Mo_none_12 : decode c_Mo_none 12 = .ok (.bipush 7, 2) := by decide +kernel
theorem d_Mo_none_14 : decode c_Mo_none 14 = .ok (.if_icmp .le 7, 3) := by decide +kernel
theorem d_Mo_none_17 : decode c_Mo_none 17 = .ok (.iconst 1, 1) := by decide +kernel
theorem d_Mo_none_18 : decode c_Mo_none 18 = .ok (.goto 4, 3) := by decide +kernel
theorem d_Mo_none_21 : decode c_Mo_none 21 = .ok (.iconst 0, 1) := by decide +kernel
theorem d_Mo_none_22 : decode c_Mo_none 22 = .ok (.invokevirtual 28, 3) := by decide +kernel
theorem d_Mo_none_25 : decode c_Mo_none 25 = .ok (.ireturn, 1) := by decide +kernel
theorem d_Mo_refuse_0 : decode c_Mo_refuse 0 = .ok (.iload_n 2, 1) := by decide +kernel
theorem d_Mo_refuse_1 : decode c_Mo_refuse 1 = .ok (.ifCond .eq 8, 3) := by decide +kernel
theorem d_Mo_refuse_4 : decode c_Mo_refuse 4 = .ok (.aload_n 0, 1) := by decide +kernel
theorem d_Mo_refuse_5 : decode c_Mo_refuse 5 = .ok (.iload_n 1, 1) := by decide +kernel
theorem d_Mo_refuse_6 : decode c_Mo_refuse 6 = .ok (.putfield 7, 3) := by decide +kernel
theorem d_Mo_refuse_9 : decode c_Mo_refuse 9 = .ok (.iload_n 2, 1) := by decide +kernel
theorem d_Mo_refuse_10 : decode c_Mo_refuse 10 = .ok (.ireturn, 1) := by decide +kernel
theorem d_Mo_in_0 : decode c_Mo_in 0 = .ok (.aload_n 0, 1) := by decide +kernel
theorem d_Mo_in_1 : decode c_Mo_in 1 = .ok (.getfield 18, 3) := by decide +kernel
theorem d_Mo_in_4 : decode c_Mo_in 4 = .ok (.sipush 4096, 3) := by decide +kernel
theorem d_Mo_in_7 : decode c_Mo_in 7 = .ok (.iload_n 1, 1) := by decide +kernel
theorem d_Mo_in_8 : decode c_Mo_in 8 = .ok (.imul, 1) := by decide +kernel
theorem d_Mo_in_9 : decode c_Mo_in 9 = .ok (.invokestatic 32, 3) := by decide +kernel
theorem d_Mo_in_12 : decode c_Mo_in 12 = .ok (.ireturn, 1) := by decide +kernel
theorem d_Mo_many_0 : decode c_Mo_many 0 = .ok (.iconst 0, 1) := by decide +kernel
theorem d_Mo_many_1 : decode c_Mo_many 1 = .ok (.istore_n 2, 1) := by decide +kernel
theorem d_Mo_many_2 : decode c_Mo_many 2 = .ok (.iconst 0, 1) := by decide +kernel
theorem d_Mo_many_3 : decode c_Mo_many 3 = .ok (.istore_n 3, 1) := by decide +kernel
theorem d_Mo_many_4 : decode c_Mo_many 4 = .ok (.iload_n 3, 1) := by decide +kernel
theorem d_Mo_many_5 : decode c_Mo_many 5 = .ok (.sipush 4096, 3) := by decide +kernel
theorem d_Mo_many_8 : decode c_Mo_many 8 = .ok (.if_icmp .ge 20, 3) := by decide +kernel
theorem d_Mo_many_11 : decode c_Mo_many 11 = .ok (.aload_n 0, 1) := by decide +kernel
theorem d_Mo_many_12 : decode c_Mo_many 12 = .ok (.iload_n 1, 1) := by decide +kernel
theorem d_Mo_many_13 : decode c_Mo_many 13 = .ok (.iload_n 3, 1) := by decide +kernel
theorem d_Mo_many_14 : decode c_Mo_many 14 = .ok (.iadd, 1) := by decide +kernel
theorem d_Mo_many_15 : decode c_Mo_many 15 = .ok (.iaload, 1) := by decide +kernel
theorem d_Mo_many_16 : decode c_Mo_many 16 = .ok (.ifCond .eq 6, 3) := by decide +kernel
theorem d_Mo_many_19 : decode c_Mo_many 19 = .ok (.iinc 2 1, 3) := by decide +kernel
theorem d_Mo_many_22 : decode c_Mo_many 22 = .ok (.iinc 3 1, 3) := by decide +kernel
theorem d_Mo_many_25 : decode c_Mo_many 25 = .ok (.goto (-21), 3) := by decide +kernel
theorem d_Mo_many_28 : decode c_Mo_many 28 = .ok (.iload_n 2, 1) := by decide +kernel
theorem d_Mo_many_29 : decode c_Mo_many 29 = .ok (.ireturn, 1) := by decide +kernel
theorem d_Mo_put_0 : decode c_Mo_put 0 = .ok (.aload_n 0, 1) := by decide +kernel
theorem d_Mo_put_1 : decode c_Mo_put 1 = .ok (.iload_n 1, 1) := by decide +kernel
theorem d_Mo_put_2 : decode c_Mo_put 2 = .ok (.invokevirtual 36, 3) := by decide +kernel
theorem d_Mo_put_5 : decode c_Mo_put 5 = .ok (.ifCond .ne 29, 3) := by decide +kernel
theorem d_Mo_put_8 : decode c_Mo_put 8 = .ok (.aload_n 0, 1) := by decide +kernel
theorem d_Mo_put_9 : decode c_Mo_put 9 = .ok (.iconst 2, 1) := by decide +kernel
theorem d_Mo_put_10 : decode c_Mo_put 10 = .ok (.iload_n 2, 1) := by decide +kernel
theorem d_Mo_put_11 : decode c_Mo_put 11 = .ok (.aload_n 0, 1) := by decide +kernel
theorem d_Mo_put_12 : decode c_Mo_put 12 = .ok (.getfield 13, 3) := by decide +kernel
theorem d_Mo_put_15 : decode c_Mo_put 15 = .ok (.iload_n 1, 1) := by decide +kernel
theorem d_Mo_put_16 : decode c_Mo_put 16 = .ok (.iaload, 1) := by decide +kernel
theorem d_Mo_put_17 : decode c_Mo_put 17 = .ok (.invokestatic 44, 3) := by decide +kernel
theorem d_Mo_put_20 : decode c_Mo_put 20 = .ok (.ifCond .ne 7, 3) := by decide +kernel
theorem d_Mo_put_23 : decode c_Mo_put 23 = .ok (.iconst 1, 1) := by decide +kernel
theorem d_Mo_put_24 : decode c_Mo_put 24 = .ok (.goto 4, 3) := by decide +kernel
theorem d_Mo_put_27 : decode c_Mo_put 27 = .ok (.iconst 0, 1) := by decide +kernel
theorem d_Mo_put_28 : decode c_Mo_put 28 = .ok (.invokevirtual 28, 3) := by decide +kernel
theorem d_Mo_put_31 : decode c_Mo_put 31 = .ok (.ifCond .eq 5, 3) := by decide +kernel
theorem d_Mo_put_34 : decode c_Mo_put 34 = .ok (.iconst 0, 1) := by decide +kernel
theorem d_Mo_put_35 : decode c_Mo_put 35 = .ok (.ireturn, 1) := by decide +kernel
theorem d_Mo_put_36 : decode c_Mo_put 36 = .ok (.aload_n 0, 1) := by decide +kernel
theorem d_Mo_put_37 : decode c_Mo_put 37 = .ok (.iload_n 1, 1) := by decide +kernel
theorem d_Mo_put_38 : decode c_Mo_put 38 = .ok (.iload_n 2, 1) := by decide +kernel
theorem d_Mo_put_39 : decode c_Mo_put 39 = .ok (.invokevirtual 48, 3) := by decide +kernel
theorem d_Mo_put_42 : decode c_Mo_put 42 = .ok (.iload_n 3, 1) := by decide +kernel
theorem d_Mo_put_43 : decode c_Mo_put 43 = .ok (.iadd, 1) := by decide +kernel
theorem d_Mo_put_44 : decode c_Mo_put 44 = .ok (.istore 4, 2) := by decide +kernel
theorem d_Mo_put_46 : decode c_Mo_put 46 = .ok (.aload_n 0, 1) := by decide +kernel
theorem d_Mo_put_47 : decode c_Mo_put 47 = .ok (.iconst 3, 1) := by decide +kernel
theorem d_Mo_put_48 : decode c_Mo_put 48 = .ok (.aload_n 0, 1) := by decide +kernel
theorem d_Mo_put_49 : decode c_Mo_put 49 = .ok (.iload_n 1, 1) := by decide +kernel
theorem d_Mo_put_50 : decode c_Mo_put 50 = .ok (.iload_n 2, 1) := by decide +kernel
theorem d_Mo_put_51 : decode c_Mo_put 51 = .ok (.invokevirtual 48, 3) := by decide +kernel
theorem d_Mo_put_54 : decode c_Mo_put 54 = .ok (.ifCond .ne 23, 3) := by decide +kernel
theorem d_Mo_put_57 : decode c_Mo_put 57 = .ok (.iload 4, 2) := by decide +kernel
theorem d_Mo_put_59 : decode c_Mo_put 59 = .ok (.ifCond .eq 18, 3) := by decide +kernel
theorem d_Mo_put_62 : decode c_Mo_put 62 = .ok (.aload_n 0, 1) := by decide +kernel
theorem d_Mo_put_63 : decode c_Mo_put 63 = .ok (.iload_n 1, 1) := by decide +kernel
theorem d_Mo_put_64 : decode c_Mo_put 64 = .ok (.invokevirtual 40, 3) := by decide +kernel
theorem d_Mo_put_67 : decode c_Mo_put 67 = .ok (.sipush 300, 3) := by decide +kernel
theorem d_Mo_put_70 : decode c_Mo_put 70 = .ok (.if_icmp .ne 7, 3) := by decide +kernel
theorem d_Mo_put_73 : decode c_Mo_put 73 = .ok (.iconst 1, 1) := by decide +kernel
theorem d_Mo_put_74 : decode c_Mo_put 74 = .ok (.goto 4, 3) := by decide +kernel
theorem d_Mo_put_77 : decode c_Mo_put 77 = .ok (.iconst 0, 1) := by decide +kernel
theorem d_Mo_put_78 : decode c_Mo_put 78 = .ok (.invokevirtual 28, 3) := by decide +kernel
theorem d_Mo_put_81 : decode c_Mo_put 81 = .ok (.ifCond .eq 5, 3) := by decide +kernel
theorem d_Mo_put_84 : decode c_Mo_put 84 = .ok (.iconst 0, 1) := by decide +kernel
theorem d_Mo_put_85 : decode c_Mo_put 85 = .ok (.ireturn, 1) := by decide +kernel
theorem d_Mo_put_86 : decode c_Mo_put 86 = .ok (.aload_n 0, 1) := by decide +kernel
theorem d_Mo_put_87 : decode c_Mo_put 87 = .ok (.getfield 18, 3) := by decide +kernel
theorem d_Mo_put_90 : decode c_Mo_put 90 = .ok (.sipush 4096, 3) := by decide +kernel
theorem d_Mo_put_93 : decode c_Mo_put 93 = .ok (.iload_n 1, 1) := by decide +kernel
theorem d_Mo_put_94 : decode c_Mo_put 94 = .ok (.imul, 1) := by decide +kernel
theorem d_Mo_put_95 : decode c_Mo_put 95 = .ok (.iload_n 2, 1) := by decide +kernel
theorem d_Mo_put_96 : decode c_Mo_put 96 = .ok (.iadd, 1) := by decide +kernel
theorem d_Mo_put_97 : decode c_Mo_put 97 = .ok (.iload 4, 2) := by decide +kernel
theorem d_Mo_put_99 : decode c_Mo_put 99 = .ok (.iastore, 1) := by decide +kernel
theorem d_Mo_put_100 : decode c_Mo_put 100 = .ok (.iload 4, 2) := by decide +kernel
theorem d_Mo_put_102 : decode c_Mo_put 102 = .ok (.ireturn, 1) := by decide +kernel
theorem d_Mo_isTuple_0 : decode c_Mo_isTuple 0 = .ok (.iload_n 0, 1) := by decide +kernel
theorem d_Mo_isTuple_1 : decode c_Mo_isTuple 1 = .ok (.ifCond .lt 41, 3) := by decide +kernel
theorem d_Mo_isTuple_4 : decode c_Mo_isTuple 4 = .ok (.iload_n 0, 1) := by decide +kernel
theorem d_Mo_isTuple_5 : decode c_Mo_isTuple 5 = .ok (.sipush 4096, 3) := by decide +kernel
theorem d_Mo_isTuple_8 : decode c_Mo_isTuple 8 = .ok (.if_icmp .ge 34, 3) := by decide +kernel
theorem d_Mo_isTuple_11 : decode c_Mo_isTuple 11 = .ok (.iload_n 0, 1) := by decide +kernel
theorem d_Mo_isTuple_12 : decode c_Mo_isTuple 12 = .ok (.iload_n 1, 1) := by decide +kernel
theorem d_Mo_isTuple_13 : decode c_Mo_isTuple 13 = .ok (.iconst 1, 1) := by decide +kernel
theorem d_Mo_isTuple_14 : decode c_Mo_isTuple 14 = .ok (.if_icmp .ne 9, 3) := by decide +kernel
theorem d_Mo_isTuple_17 : decode c_Mo_isTuple 17 = .ok (.sipush 256, 3) := by decide +kernel
theorem d_Mo_isTuple_20 : decode c_Mo_isTuple 20 = .ok (.goto 14, 3) := by decide +kernel
theorem d_Mo_isTuple_23 : decode c_Mo_isTuple 23 = .ok (.iload_n 1, 1) := by decide +kernel
theorem d_Mo_isTuple_24 : decode c_Mo_isTuple 24 = .ok (.iconst 2, 1) := by decide +kernel
theorem d_Mo_isTuple_25 : decode c_Mo_isTuple 25 = .ok (.if_icmp .ne 8, 3) := by decide +kernel
theorem d_Mo_isTuple_28 : decode c_Mo_isTuple 28 = .ok (.bipush 16, 2) := by decide +kernel
theorem d_Mo_isTuple_30 : decode c_Mo_isTuple 30 = .ok (.goto 4, 3) := by decide +kernel
theorem d_Mo_isTuple_33 : decode c_Mo_isTuple 33 = .ok (.iconst 1, 1) := by decide +kernel
theorem d_Mo_isTuple_34 : decode c_Mo_isTuple 34 = .ok (.irem, 1) := by decide +kernel
theorem d_Mo_isTuple_35 : decode c_Mo_isTuple 35 = .ok (.ifCond .ne 7, 3) := by decide +kernel
theorem d_Mo_isTuple_38 : decode c_Mo_isTuple 38 = .ok (.iconst 1, 1) := by decide +kernel
theorem d_Mo_isTuple_39 : decode c_Mo_isTuple 39 = .ok (.goto 4, 3) := by decide +kernel
theorem d_Mo_isTuple_42 : decode c_Mo_isTuple 42 = .ok (.iconst 0, 1) := by decide +kernel
theorem d_Mo_isTuple_43 : decode c_Mo_isTuple 43 = .ok (.ireturn, 1) := by decide +kernel
theorem d_Mo_of_0 : decode c_Mo_of 0 = .ok (.aload_n 0, 1) := by decide +kernel
theorem d_Mo_of_1 : decode c_Mo_of 1 = .ok (.getfield 18, 3) := by decide +kernel
theorem d_Mo_of_4 : decode c_Mo_of 4 = .ok (.sipush 4096, 3) := by decide +kernel
theorem d_Mo_of_7 : decode c_Mo_of 7 = .ok (.iload_n 1, 1) := by decide +kernel
theorem d_Mo_of_8 : decode c_Mo_of 8 = .ok (.imul, 1) := by decide +kernel
theorem d_Mo_of_9 : decode c_Mo_of 9 = .ok (.iload_n 2, 1) := by decide +kernel
theorem d_Mo_of_10 : decode c_Mo_of 10 = .ok (.iadd, 1) := by decide +kernel
theorem d_Mo_of_11 : decode c_Mo_of 11 = .ok (.iaload, 1) := by decide +kernel
theorem d_Mo_of_12 : decode c_Mo_of 12 = .ok (.ireturn, 1) := by decide +kernel
theorem d_Mo_count_0 : decode c_Mo_count 0 = .ok (.aload_n 0, 1) := by decide +kernel
theorem d_Mo_count_1 : decode c_Mo_count 1 = .ok (.iload_n 1, 1) := by decide +kernel
theorem d_Mo_count_2 : decode c_Mo_count 2 = .ok (.invokevirtual 36, 3) := by decide +kernel
theorem d_Mo_count_5 : decode c_Mo_count 5 = .ok (.ifCond .ne 29, 3) := by decide +kernel
theorem d_Mo_count_8 : decode c_Mo_count 8 = .ok (.aload_n 0, 1) := by decide +kernel
theorem d_Mo_count_9 : decode c_Mo_count 9 = .ok (.iconst 2, 1) := by decide +kernel
theorem d_Mo_count_10 : decode c_Mo_count 10 = .ok (.iload_n 2, 1) := by decide +kernel
theorem d_Mo_count_11 : decode c_Mo_count 11 = .ok (.aload_n 0, 1) := by decide +kernel
theorem d_Mo_count_12 : decode c_Mo_count 12 = .ok (.getfield 13, 3) := by decide +kernel
theorem d_Mo_count_15 : decode c_Mo_count 15 = .ok (.iload_n 1, 1) := by decide +kernel
theorem d_Mo_count_16 : decode c_Mo_count 16 = .ok (.iaload, 1) := by decide +kernel
theorem d_Mo_count_17 : decode c_Mo_count 17 = .ok (.invokestatic 44, 3) := by decide +kernel
theorem d_Mo_count_20 : decode c_Mo_count 20 = .ok (.ifCond .ne 7, 3) := by decide +kernel
theorem d_Mo_count_23 : decode c_Mo_count 23 = .ok (.iconst 1, 1) := by decide +kernel
theorem d_Mo_count_24 : decode c_Mo_count 24 = .ok (.goto 4, 3) := by decide +kernel
theorem d_Mo_count_27 : decode c_Mo_count 27 = .ok (.iconst 0, 1) := by decide +kernel
theorem d_Mo_count_28 : decode c_Mo_count 28 = .ok (.invokevirtual 28, 3) := by decide +kernel
theorem d_Mo_count_31 : decode c_Mo_count 31 = .ok (.ifCond .eq 5, 3) := by decide +kernel
theorem d_Mo_count_34 : decode c_Mo_count 34 = .ok (.iconst 0, 1) := by decide +kernel
theorem d_Mo_count_35 : decode c_Mo_count 35 = .ok (.ireturn, 1) := by decide +kernel
theorem d_Mo_count_36 : decode c_Mo_count 36 = .ok (.aload_n 0, 1) := by decide +kernel
theorem d_Mo_count_37 : decode c_Mo_count 37 = .ok (.iload_n 1, 1) := by decide +kernel
theorem d_Mo_count_38 : decode c_Mo_count 38 = .ok (.iload_n 2, 1) := by decide +kernel
theorem d_Mo_count_39 : decode c_Mo_count 39 = .ok (.invokevirtual 48, 3) := by decide +kernel
theorem d_Mo_count_42 : decode c_Mo_count 42 = .ok (.ireturn, 1) := by decide +kernel
theorem d_Mo_at_0 : decode c_Mo_at 0 = .ok (.aload_n 0, 1) := by decide +kernel
theorem d_Mo_at_1 : decode c_Mo_at 1 = .ok (.iload_n 1, 1) := by decide +kernel
theorem d_Mo_at_2 : decode c_Mo_at 2 = .ok (.invokevirtual 36, 3) := by decide +kernel
theorem d_Mo_at_5 : decode c_Mo_at 5 = .ok (.ifCond .eq 5, 3) := by decide +kernel
theorem d_Mo_at_8 : decode c_Mo_at 8 = .ok (.iconst 0, 1) := by decide +kernel
theorem d_Mo_at_9 : decode c_Mo_at 9 = .ok (.ireturn, 1) := by decide +kernel
theorem d_Mo_at_10 : decode c_Mo_at 10 = .ok (.iload_n 2, 1) := by decide +kernel
theorem d_Mo_at_11 : decode c_Mo_at 11 = .ok (.istore_n 3, 1) := by decide +kernel
theorem d_Mo_at_12 : decode c_Mo_at 12 = .ok (.iconst 0, 1) := by decide +kernel
theorem d_Mo_at_13 : decode c_Mo_at 13 = .ok (.istore 4, 2) := by decide +kernel
theorem d_Mo_at_15 : decode c_Mo_at 15 = .ok (.iload 4, 2) := by decide +kernel
theorem d_Mo_at_17 : decode c_Mo_at 17 = .ok (.sipush 4096, 3) := by decide +kernel
theorem d_Mo_at_20 : decode c_Mo_at 20 = .ok (.if_icmp .ge 32, 3) := by decide +kernel
theorem d_Mo_at_23 : decode c_Mo_at 23 = .ok (.aload_n 0, 1) := by decide +kernel
theorem d_Mo_at_24 : decode c_Mo_at 24 = .ok (.iload_n 1, 1) := by decide +kernel
theorem d_Mo_at_25 : decode c_Mo_at 25 = .ok (.iload 4, 2) := by decide +kernel
theorem d_Mo_at_27 : decode c_Mo_at 27 = .ok (.invokevirtual 48, 3) := by decide +kernel
theorem d_Mo_at_30 : decode c_Mo_at 30 = .ok (.ifCond .ne 6, 3) := by decide +kernel
theorem d_Mo_at_33 : decode c_Mo_at 33 = .ok (.goto 13, 3) := by decide +kernel
theorem d_Mo_at_36 : decode c_Mo_at 36 = .ok (.iload_n 3, 1) := by decide +kernel
theorem d_Mo_at_37 : decode c_Mo_at 37 = .ok (.ifCond .ne 6, 3) := by decide +kernel
theorem d_Mo_at_40 : decode c_Mo_at 40 = .ok (.iload 4, 2) := by decide +kernel
theorem d_Mo_at_42 : decode c_Mo_at 42 = .ok (.ireturn, 1) := by decide +kernel
theorem d_Mo_at_43 : decode c_Mo_at 43 = .ok (.iinc 3 (-1), 3) := by decide +kernel
theorem d_Mo_at_46 : decode c_Mo_at 46 = .ok (.iinc 4 1, 3) := by decide +kernel
theorem d_Mo_at_49 : decode c_Mo_at 49 = .ok (.goto (-34), 3) := by decide +kernel
theorem d_Mo_at_52 : decode c_Mo_at 52 = .ok (.aload_n 0, 1) := by decide +kernel
theorem d_Mo_at_53 : decode c_Mo_at 53 = .ok (.iconst 1, 1) := by decide +kernel
theorem d_Mo_at_54 : decode c_Mo_at 54 = .ok (.putfield 7, 3) := by decide +kernel
theorem d_Mo_at_57 : decode c_Mo_at 57 = .ok (.iconst 0, 1) := by decide +kernel
theorem d_Mo_at_58 : decode c_Mo_at 58 = .ok (.ireturn, 1) := by decide +kernel
theorem d_Mo_join_0 : decode c_Mo_join 0 = .ok (.aload_n 0, 1) := by decide +kernel
theorem d_Mo_join_1 : decode c_Mo_join 1 = .ok (.iload_n 1, 1) := by decide +kernel
theorem d_Mo_join_2 : decode c_Mo_join 2 = .ok (.invokevirtual 36, 3) := by decide +kernel
theorem d_Mo_join_5 : decode c_Mo_join 5 = .ok (.ifCond .ne 19, 3) := by decide +kernel
theorem d_Mo_join_8 : decode c_Mo_join 8 = .ok (.aload_n 0, 1) := by decide +kernel
theorem d_Mo_join_9 : decode c_Mo_join 9 = .ok (.iload_n 2, 1) := by decide +kernel
theorem d_Mo_join_10 : decode c_Mo_join 10 = .ok (.invokevirtual 36, 3) := by decide +kernel
theorem d_Mo_join_13 : decode c_Mo_join 13 = .ok (.ifCond .ne 11, 3) := by decide +kernel
theorem d_Mo_join_16 : decode c_Mo_join 16 = .ok (.aload_n 0, 1) := by decide +kernel
theorem d_Mo_join_17 : decode c_Mo_join 17 = .ok (.iload_n 3, 1) := by decide +kernel
theorem d_Mo_join_18 : decode c_Mo_join 18 = .ok (.invokevirtual 36, 3) := by decide +kernel
theorem d_Mo_join_21 : decode c_Mo_join 21 = .ok (.ifCond .eq 5, 3) := by decide +kernel
theorem d_Mo_join_24 : decode c_Mo_join 24 = .ok (.iconst 0, 1) := by decide +kernel
theorem d_Mo_join_25 : decode c_Mo_join 25 = .ok (.ireturn, 1) := by decide +kernel
theorem d_Mo_join_26 : decode c_Mo_join 26 = .ok (.aload_n 0, 1) := by decide +kernel
theorem d_Mo_join_27 : decode c_Mo_join 27 = .ok (.getfield 13, 3) := by decide +kernel
theorem d_Mo_join_30 : decode c_Mo_join 30 = .ok (.iload_n 2, 1) := by decide +kernel
theorem d_Mo_join_31 : decode c_Mo_join 31 = .ok (.iaload, 1) := by decide +kernel
theorem d_Mo_join_32 : decode c_Mo_join 32 = .ok (.aload_n 0, 1) := by decide +kernel
theorem d_Mo_join_33 : decode c_Mo_join 33 = .ok (.getfield 13, 3) := by decide +kernel
theorem d_Mo_join_36 : decode c_Mo_join 36 = .ok (.iload_n 3, 1) := by decide +kernel
theorem d_Mo_join_37 : decode c_Mo_join 37 = .ok (.iaload, 1) := by decide +kernel
theorem d_Mo_join_38 : decode c_Mo_join 38 = .ok (.iadd, 1) := by decide +kernel
theorem d_Mo_join_39 : decode c_Mo_join 39 = .ok (.iload 4, 2) := by decide +kernel
theorem d_Mo_join_41 : decode c_Mo_join 41 = .ok (.isub, 1) := by decide +kernel
theorem d_Mo_join_42 : decode c_Mo_join 42 = .ok (.istore 5, 2) := by decide +kernel
theorem d_Mo_join_44 : decode c_Mo_join 44 = .ok (.aload_n 0, 1) := by decide +kernel
theorem d_Mo_join_45 : decode c_Mo_join 45 = .ok (.iconst 2, 1) := by decide +kernel
theorem d_Mo_join_46 : decode c_Mo_join 46 = .ok (.iload 4, 2) := by decide +kernel
theorem d_Mo_join_48 : decode c_Mo_join 48 = .ok (.ifCond .lt 31, 3) := by decide +kernel
theorem d_Mo_join_51 : decode c_Mo_join 51 = .ok (.iload 4, 2) := by decide +kernel
theorem d_Mo_join_53 : decode c_Mo_join 53 = .ok (.aload_n 0, 1) := by decide +kernel
theorem d_Mo_join_54 : decode c_Mo_join 54 = .ok (.getfield 13, 3) := by decide +kernel
theorem d_Mo_join_57 : decode c_Mo_join 57 = .ok (.iload_n 2, 1) := by decide +kernel
theorem d_Mo_join_58 : decode c_Mo_join 58 = .ok (.iaload, 1) := by decide +kernel
theorem d_Mo_join_59 : decode c_Mo_join 59 = .ok (.if_icmp .gt 20, 3) := by decide +kernel
theorem d_Mo_join_62 : decode c_Mo_join 62 = .ok (.iload 4, 2) := by decide +kernel
theorem d_Mo_join_64 : decode c_Mo_join 64 = .ok (.aload_n 0, 1) := by decide +kernel
theorem d_Mo_join_65 : decode c_Mo_join 65 = .ok (.getfield 13, 3) := by decide +kernel
theorem d_Mo_join_68 : decode c_Mo_join 68 = .ok (.iload_n 3, 1) := by decide +kernel
theorem d_Mo_join_69 : decode c_Mo_join 69 = .ok (.iaload, 1) := by decide +kernel
theorem d_Mo_join_70 : decode c_Mo_join 70 = .ok (.if_icmp .gt 9, 3) := by decide +kernel
theorem d_Mo_join_73 : decode c_Mo_join 73 = .ok (.iload 5, 2) := by decide +kernel
theorem d_Mo_join_75 : decode c_Mo_join 75 = .ok (.iconst 3, 1) := by decide +kernel
theorem d_Mo_join_76 : decode c_Mo_join 76 = .ok (.if_icmp .le 7, 3) := by decide +kernel
theorem d_Mo_join_79 : decode c_Mo_join 79 = .ok (.iconst 1, 1) := by decide +kernel
theorem d_Mo_join_80 : decode c_Mo_join 80 = .ok (.goto 4, 3) := by decide +kernel
theorem d_Mo_join_83 : decode c_Mo_join 83 = .ok (.iconst 0, 1) := by decide +kernel
theorem d_Mo_join_84 : decode c_Mo_join 84 = .ok (.invokevirtual 28, 3) := by decide +kernel
theorem d_Mo_join_87 : decode c_Mo_join 87 = .ok (.ifCond .eq 5, 3) := by decide +kernel
theorem d_Mo_join_90 : decode c_Mo_join 90 = .ok (.iconst 0, 1) := by decide +kernel
theorem d_Mo_join_91 : decode c_Mo_join 91 = .ok (.ireturn, 1) := by decide +kernel
theorem d_Mo_join_92 : decode c_Mo_join 92 = .ok (.aload_n 0, 1) := by decide +kernel
theorem d_Mo_join_93 : decode c_Mo_join 93 = .ok (.invokevirtual 52, 3) := by decide +kernel
theorem d_Mo_join_96 : decode c_Mo_join 96 = .ok (.iconst 0, 1) := by decide +kernel
theorem d_Mo_join_97 : decode c_Mo_join 97 = .ok (.istore 6, 2) := by decide +kernel
theorem d_Mo_join_99 : decode c_Mo_join 99 = .ok (.iload 6, 2) := by decide +kernel
theorem d_Mo_join_101 : decode c_Mo_join 101 = .ok (.sipush 4096, 3) := by decide +kernel
theorem d_Mo_join_104 : decode c_Mo_join 104 = .ok (.if_icmp .ge 140, 3) := by decide +kernel
theorem d_Mo_join_107 : decode c_Mo_join 107 = .ok (.iload 6, 2) := by decide +kernel
theorem d_Mo_join_109 : decode c_Mo_join 109 = .ok (.iload 5, 2) := by decide +kernel
theorem d_Mo_join_111 : decode c_Mo_join 111 = .ok (.invokestatic 44, 3) := by decide +kernel
theorem d_Mo_join_114 : decode c_Mo_join 114 = .ok (.ifCond .ne 6, 3) := by decide +kernel
theorem d_Mo_join_117 : decode c_Mo_join 117 = .ok (.goto 121, 3) := by decide +kernel
theorem d_Mo_join_120 : decode c_Mo_join 120 = .ok (.iconst 0, 1) := by decide +kernel
theorem d_Mo_join_121 : decode c_Mo_join 121 = .ok (.istore 7, 2) := by decide +kernel
theorem d_Mo_join_123 : decode c_Mo_join 123 = .ok (.iconst 0, 1) := by decide +kernel
theorem d_Mo_join_124 : decode c_Mo_join 124 = .ok (.istore 8, 2) := by decide +kernel
theorem d_Mo_join_126 : decode c_Mo_join 126 = .ok (.iconst 0, 1) := by decide +kernel
theorem d_Mo_join_127 : decode c_Mo_join 127 = .ok (.istore 9, 2) := by decide +kernel
theorem d_Mo_join_129 : decode c_Mo_join 129 = .ok (.iload 9, 2) := by decide +kernel
theorem d_Mo_join_131 : decode c_Mo_join 131 = .ok (.aload_n 0, 1) := by decide +kernel
theorem d_Mo_join_132 : decode c_Mo_join 132 = .ok (.getfield 13, 3) := by decide +kernel
theorem d_Mo_join_135 : decode c_Mo_join 135 = .ok (.iload_n 2, 1) := by decide +kernel
theorem d_Mo_join_136 : decode c_Mo_join 136 = .ok (.iaload, 1) := by decide +kernel
theorem d_Mo_join_137 : decode c_Mo_join 137 = .ok (.if_icmp .ge 29, 3) := by decide +kernel
theorem d_Mo_join_140 : decode c_Mo_join 140 = .ok (.iload 7, 2) := by decide +kernel
theorem d_Mo_join_142 : decode c_Mo_join 142 = .ok (.iload 6, 2) := by decide +kernel
theorem d_Mo_join_144 : decode c_Mo_join 144 = .ok (.iload 9, 2) := by decide +kernel
theorem d_Mo_join_146 : decode c_Mo_join 146 = .ok (.invokestatic 55, 3) := by decide +kernel
theorem d_Mo_join_149 : decode c_Mo_join 149 = .ok (.bipush 8, 2) := by decide +kernel
theorem d_Mo_join_151 : decode c_Mo_join 151 = .ok (.iconst 4, 1) := by decide +kernel
theorem d_Mo_join_152 : decode c_Mo_join 152 = .ok (.iload 9, 2) := by decide +kernel
theorem d_Mo_join_154 : decode c_Mo_join 154 = .ok (.imul, 1) := by decide +kernel
theorem d_Mo_join_155 : decode c_Mo_join 155 = .ok (.isub, 1) := by decide +kernel
theorem d_Mo_join_156 : decode c_Mo_join 156 = .ok (.ishl, 1) := by decide +kernel
theorem d_Mo_join_157 : decode c_Mo_join 157 = .ok (.ior, 1) := by decide +kernel
theorem d_Mo_join_158 : decode c_Mo_join 158 = .ok (.istore 7, 2) := by decide +kernel
theorem d_Mo_join_160 : decode c_Mo_join 160 = .ok (.iinc 9 1, 3) := by decide +kernel
theorem d_Mo_join_163 : decode c_Mo_join 163 = .ok (.goto (-34), 3) := by decide +kernel
theorem d_Mo_join_166 : decode c_Mo_join 166 = .ok (.iconst 0, 1) := by decide +kernel
theorem d_Mo_join_167 : decode c_Mo_join 167 = .ok (.istore 9, 2) := by decide +kernel
theorem d_Mo_join_169 : decode c_Mo_join 169 = .ok (.iload 9, 2) := by decide +kernel
theorem d_Mo_join_171 : decode c_Mo_join 171 = .ok (.aload_n 0, 1) := by decide +kernel
theorem d_Mo_join_172 : decode c_Mo_join 172 = .ok (.getfield 13, 3) := by decide +kernel
theorem d_Mo_join_175 : decode c_Mo_join 175 = .ok (.iload_n 3, 1) := by decide +kernel
theorem d_Mo_join_176 : decode c_Mo_join 176 = .ok (.iaload, 1) := by decide +kernel
theorem d_Mo_join_177 : decode c_Mo_join 177 = .ok (.if_icmp .ge 39, 3) := by decide +kernel
theorem d_Mo_join_180 : decode c_Mo_join 180 = .ok (.iload 8, 2) := by decide +kernel
theorem d_Mo_join_182 : decode c_Mo_join 182 = .ok (.iload 6, 2) := by decide +kernel
theorem d_Mo_join_184 : decode c_Mo_join 184 = .ok (.aload_n 0, 1) := by decide +kernel
theorem d_Mo_join_185 : decode c_Mo_join 185 = .ok (.getfield 13, 3) := by decide +kernel
theorem d_Mo_join_188 : decode c_Mo_join 188 = .ok (.iload_n 2, 1) := by decide +kernel
theorem d_Mo_join_189 : decode c_Mo_join 189 = .ok (.iaload, 1) := by decide +kernel
theorem d_Mo_join_190 : decode c_Mo_join 190 = .ok (.iload 4, 2) := by decide +kernel
theorem d_Mo_join_192 : decode c_Mo_join 192 = .ok (.isub, 1) := by decide +kernel
theorem d_Mo_join_193 : decode c_Mo_join 193 = .ok (.iload 9, 2) := by decide +kernel
theorem d_Mo_join_195 : decode c_Mo_join 195 = .ok (.iadd, 1) := by decide +kernel
theorem d_Mo_join_196 : decode c_Mo_join 196 = .ok (.invokestatic 55, 3) := by decide +kernel
theorem d_Mo_join_199 : decode c_Mo_join 199 = .ok (.bipush 8, 2) := by decide +kernel
theorem d_Mo_join_201 : decode c_Mo_join 201 = .ok (.iconst 4, 1) := by decide +kernel
theorem d_Mo_join_202 : decode c_Mo_join 202 = .ok (.iload 9, 2) := by decide +kernel
theorem d_Mo_join_204 : decode c_Mo_join 204 = .ok (.imul, 1) := by decide +kernel
theorem d_Mo_join_205 : decode c_Mo_join 205 = .ok (.isub, 1) := by decide +kernel
theorem d_Mo_join_206 : decode c_Mo_join 206 = .ok (.ishl, 1) := by decide +kernel
theorem d_Mo_join_207 : decode c_Mo_join 207 = .ok (.ior, 1) := by decide +kernel
theorem d_Mo_join_208 : decode c_Mo_join 208 = .ok (.istore 8, 2) := by decide +kernel
theorem d_Mo_join_210 : decode c_Mo_join 210 = .ok (.iinc 9 1, 3) := by decide +kernel
theorem d_Mo_join_213 : decode c_Mo_join 213 = .ok (.goto (-44), 3) := by decide +kernel
theorem d_Mo_join_216 : decode c_Mo_join 216 = .ok (.aload_n 0, 1) := by decide +kernel
theorem d_Mo_join_217 : decode c_Mo_join 217 = .ok (.getfield 21, 3) := by decide +kernel
theorem d_Mo_join_220 : decode c_Mo_join 220 = .ok (.iload 6, 2) := by decide +kernel
theorem d_Mo_join_222 : decode c_Mo_join 222 = .ok (.aload_n 0, 1) := by decide +kernel
theorem d_Mo_join_223 : decode c_Mo_join 223 = .ok (.iload_n 2, 1) := by decide +kernel
theorem d_Mo_join_224 : decode c_Mo_join 224 = .ok (.iload 7, 2) := by decide +kernel
theorem d_Mo_join_226 : decode c_Mo_join 226 = .ok (.invokevirtual 48, 3) := by decide +kernel
theorem d_Mo_join_229 : decode c_Mo_join 229 = .ok (.aload_n 0, 1) := by decide +kernel
theorem d_Mo_join_230 : decode c_Mo_join 230 = .ok (.iload_n 3, 1) := by decide +kernel
theorem d_Mo_join_231 : decode c_Mo_join 231 = .ok (.iload 8, 2) := by decide +kernel
theorem d_Mo_join_233 : decode c_Mo_join 233 = .ok (.invokevirtual 48, 3) := by decide +kernel
theorem d_Mo_join_236 : decode c_Mo_join 236 = .ok (.imul, 1) := by decide +kernel
theorem d_Mo_join_237 : decode c_Mo_join 237 = .ok (.iastore, 1) := by decide +kernel
theorem d_Mo_join_238 : decode c_Mo_join 238 = .ok (.iinc 6 1, 3) := by decide +kernel
theorem d_Mo_join_241 : decode c_Mo_join 241 = .ok (.goto (-142), 3) := by decide +kernel
theorem d_Mo_join_244 : decode c_Mo_join 244 = .ok (.aload_n 0, 1) := by decide +kernel
theorem d_Mo_join_245 : decode c_Mo_join 245 = .ok (.iload_n 1, 1) := by decide +kernel
theorem d_Mo_join_246 : decode c_Mo_join 246 = .ok (.iload 5, 2) := by decide +kernel
theorem d_Mo_join_248 : decode c_Mo_join 248 = .ok (.iconst 3, 1) := by decide +kernel
theorem d_Mo_join_249 : decode c_Mo_join 249 = .ok (.invokevirtual 58, 3) := by decide +kernel
theorem d_Mo_join_252 : decode c_Mo_join 252 = .ok (.ireturn, 1) := by decide +kernel
theorem d_Mo_begin_0 : decode c_Mo_begin 0 = .ok (.iconst 0, 1) := by decide +kernel
theorem d_Mo_begin_1 : decode c_Mo_begin 1 = .ok (.istore_n 1, 1) := by decide +kernel
theorem d_Mo_begin_2 : decode c_Mo_begin 2 = .ok (.iload_n 1, 1) := by decide +kernel
theorem d_Mo_begin_3 : decode c_Mo_begin 3 = .ok (.sipush 4096, 3) := by decide +kernel
theorem d_Mo_begin_6 : decode c_Mo_begin 6 = .ok (.if_icmp .ge 16, 3) := by decide +kernel
theorem d_Mo_begin_9 : decode c_Mo_begin 9 = .ok (.aload_n 0, 1) := by decide +kernel
theorem d_Mo_begin_10 : decode c_Mo_begin 10 = .ok (.getfield 21, 3) := by decide +kernel
theorem d_Mo_begin_13 : decode c_Mo_begin 13 = .ok (.iload_n 1, 1) := by decide +kernel
theorem d_Mo_begin_14 : decode c_Mo_begin 14 = .ok (.iconst 0, 1) := by decide +kernel
theorem d_Mo_begin_15 : decode c_Mo_begin 15 = .ok (.iastore, 1) := by decide +kernel
theorem d_Mo_begin_16 : decode c_Mo_begin 16 = .ok (.iinc 1 1, 3) := by decide +kernel
theorem d_Mo_begin_19 : decode c_Mo_begin 19 = .ok (.goto (-17), 3) := by decide +kernel
theorem d_Mo_begin_22 : decode c_Mo_begin 22 = .ok (.return_, 1) := by decide +kernel
theorem d_Mo_number_0 : decode c_Mo_number 0 = .ok (.iload_n 0, 1) := by decide +kernel
theorem d_Mo_number_1 : decode c_Mo_number 1 = .ok (.bipush 8, 2) := by decide +kernel
theorem d_Mo_number_3 : decode c_Mo_number 3 = .ok (.iconst 4, 1) := by decide +kernel
theorem d_Mo_number_4 : decode c_Mo_number 4 = .ok (.iload_n 1, 1) := by decide +kernel
theorem d_Mo_number_5 : decode c_Mo_number 5 = .ok (.imul, 1) := by decide +kernel
theorem d_Mo_number_6 : decode c_Mo_number 6 = .ok (.isub, 1) := by decide +kernel
theorem d_Mo_number_7 : decode c_Mo_number 7 = .ok (.ishr, 1) := by decide +kernel
theorem d_Mo_number_8 : decode c_Mo_number 8 = .ok (.bipush 15, 2) := by decide +kernel
theorem d_Mo_number_10 : decode c_Mo_number 10 = .ok (.iand, 1) := by decide +kernel
theorem d_Mo_number_11 : decode c_Mo_number 11 = .ok (.ireturn, 1) := by decide +kernel
theorem d_Mo_keep_0 : decode c_Mo_keep 0 = .ok (.aload_n 0, 1) := by decide +kernel
theorem d_Mo_keep_1 : decode c_Mo_keep 1 = .ok (.getfield 21, 3) := by decide +kernel
theorem d_Mo_keep_4 : decode c_Mo_keep 4 = .ok (.iconst 0, 1) := by decide +kernel
theorem d_Mo_keep_5 : decode c_Mo_keep 5 = .ok (.invokestatic 32, 3) := by decide +kernel
theorem d_Mo_keep_8 : decode c_Mo_keep 8 = .ok (.istore 4, 2) := by decide +kernel
theorem d_Mo_keep_10 : decode c_Mo_keep 10 = .ok (.aload_n 0, 1) := by decide +kernel
theorem d_Mo_keep_11 : decode c_Mo_keep 11 = .ok (.iload_n 3, 1) := by decide +kernel
theorem d_Mo_keep_12 : decode c_Mo_keep 12 = .ok (.iload 4, 2) := by decide +kernel
theorem d_Mo_keep_14 : decode c_Mo_keep 14 = .ok (.sipush 300, 3) := by decide +kernel
theorem d_Mo_keep_17 : decode c_Mo_keep 17 = .ok (.if_icmp .le 7, 3) := by decide +kernel
theorem d_Mo_keep_20 : decode c_Mo_keep 20 = .ok (.iconst 1, 1) := by decide +kernel
theorem d_Mo_keep_21 : decode c_Mo_keep 21 = .ok (.goto 4, 3) := by decide +kernel
theorem d_Mo_keep_24 : decode c_Mo_keep 24 = .ok (.iconst 0, 1) := by decide +kernel
theorem d_Mo_keep_25 : decode c_Mo_keep 25 = .ok (.invokevirtual 28, 3) := by decide +kernel
theorem d_Mo_keep_28 : decode c_Mo_keep 28 = .ok (.ifCond .eq 5, 3) := by decide +kernel
theorem d_Mo_keep_31 : decode c_Mo_keep 31 = .ok (.iconst 0, 1) := by decide +kernel
theorem d_Mo_keep_32 : decode c_Mo_keep 32 = .ok (.ireturn, 1) := by decide +kernel
theorem d_Mo_keep_33 : decode c_Mo_keep 33 = .ok (.aload_n 0, 1) := by decide +kernel
theorem d_Mo_keep_34 : decode c_Mo_keep 34 = .ok (.getfield 13, 3) := by decide +kernel
theorem d_Mo_keep_37 : decode c_Mo_keep 37 = .ok (.iload_n 1, 1) := by decide +kernel
theorem d_Mo_keep_38 : decode c_Mo_keep 38 = .ok (.iload_n 2, 1) := by decide +kernel
theorem d_Mo_keep_39 : decode c_Mo_keep 39 = .ok (.iastore, 1) := by decide +kernel
theorem d_Mo_keep_40 : decode c_Mo_keep 40 = .ok (.iconst 0, 1) := by decide +kernel
theorem d_Mo_keep_41 : decode c_Mo_keep 41 = .ok (.istore 5, 2) := by decide +kernel
theorem d_Mo_keep_43 : decode c_Mo_keep 43 = .ok (.iload 5, 2) := by decide +kernel
theorem d_Mo_keep_45 : decode c_Mo_keep 45 = .ok (.sipush 4096, 3) := by decide +kernel
theorem d_Mo_keep_48 : decode c_Mo_keep 48 = .ok (.if_icmp .ge 29, 3) := by decide +kernel
theorem d_Mo_keep_51 : decode c_Mo_keep 51 = .ok (.aload_n 0, 1) := by decide +kernel
theorem d_Mo_keep_52 : decode c_Mo_keep 52 = .ok (.getfield 18, 3) := by decide +kernel
theorem d_Mo_keep_55 : decode c_Mo_keep 55 = .ok (.sipush 4096, 3) := by decide +kernel
theorem d_Mo_keep_58 : decode c_Mo_keep 58 = .ok (.iload_n 1, 1) := by decide +kernel
theorem d_Mo_keep_59 : decode c_Mo_keep 59 = .ok (.imul, 1) := by decide +kernel
theorem d_Mo_keep_60 : decode c_Mo_keep 60 = .ok (.iload 5, 2) := by decide +kernel
theorem d_Mo_keep_62 : decode c_Mo_keep 62 = .ok (.iadd, 1) := by decide +kernel
theorem d_Mo_keep_63 : decode c_Mo_keep 63 = .ok (.aload_n 0, 1) := by decide +kernel
theorem d_Mo_keep_64 : decode c_Mo_keep 64 = .ok (.getfield 21, 3) := by decide +kernel
theorem d_Mo_keep_67 : decode c_Mo_keep 67 = .ok (.iload 5, 2) := by decide +kernel
theorem d_Mo_keep_69 : decode c_Mo_keep 69 = .ok (.iaload, 1) := by decide +kernel
theorem d_Mo_keep_70 : decode c_Mo_keep 70 = .ok (.iastore, 1) := by decide +kernel
theorem d_Mo_keep_71 : decode c_Mo_keep 71 = .ok (.iinc 5 1, 3) := by decide +kernel
theorem d_Mo_keep_74 : decode c_Mo_keep 74 = .ok (.goto (-31), 3) := by decide +kernel
theorem d_Mo_keep_77 : decode c_Mo_keep 77 = .ok (.iload 4, 2) := by decide +kernel
theorem d_Mo_keep_79 : decode c_Mo_keep 79 = .ok (.ireturn, 1) := by decide +kernel
theorem d_Mo_narrow_0 : decode c_Mo_narrow 0 = .ok (.aload_n 0, 1) := by decide +kernel
theorem d_Mo_narrow_1 : decode c_Mo_narrow 1 = .ok (.iload_n 1, 1) := by decide +kernel
theorem d_Mo_narrow_2 : decode c_Mo_narrow 2 = .ok (.invokevirtual 36, 3) := by decide +kernel
theorem d_Mo_narrow_5 : decode c_Mo_narrow 5 = .ok (.ifCond .ne 41, 3) := by decide +kernel
theorem d_Mo_narrow_8 : decode c_Mo_narrow 8 = .ok (.aload_n 0, 1) := by decide +kernel
theorem d_Mo_narrow_9 : decode c_Mo_narrow 9 = .ok (.iload_n 2, 1) := by decide +kernel
theorem d_Mo_narrow_10 : decode c_Mo_narrow 10 = .ok (.invokevirtual 36, 3) := by decide +kernel
theorem d_Mo_narrow_13 : decode c_Mo_narrow 13 = .ok (.ifCond .ne 33, 3) := by decide +kernel
theorem d_Mo_narrow_16 : decode c_Mo_narrow 16 = .ok (.aload_n 0, 1) := by decide +kernel
theorem d_Mo_narrow_17 : decode c_Mo_narrow 17 = .ok (.iconst 2, 1) := by decide +kernel
theorem d_Mo_narrow_18 : decode c_Mo_narrow 18 = .ok (.iload_n 3, 1) := by decide +kernel
theorem d_Mo_narrow_19 : decode c_Mo_narrow 19 = .ok (.iconst 1, 1) := by decide +kernel
theorem d_Mo_narrow_20 : decode c_Mo_narrow 20 = .ok (.if_icmp .lt 15, 3) := by decide +kernel
theorem d_Mo_narrow_23 : decode c_Mo_narrow 23 = .ok (.iload_n 3, 1) := by decide +kernel
theorem d_Mo_narrow_24 : decode c_Mo_narrow 24 = .ok (.iconst 1, 1) := by decide +kernel
theorem d_Mo_narrow_25 : decode c_Mo_narrow 25 = .ok (.aload_n 0, 1) := by decide +kernel
theorem d_Mo_narrow_26 : decode c_Mo_narrow 26 = .ok (.getfield 13, 3) := by decide +kernel
theorem d_Mo_narrow_29 : decode c_Mo_narrow 29 = .ok (.iload_n 2, 1) := by decide +kernel
theorem d_Mo_narrow_30 : decode c_Mo_narrow 30 = .ok (.iaload, 1) := by decide +kernel
theorem d_Mo_narrow_31 : decode c_Mo_narrow 31 = .ok (.ishl, 1) := by decide +kernel
theorem d_Mo_narrow_32 : decode c_Mo_narrow 32 = .ok (.if_icmp .lt 7, 3) := by decide +kernel
theorem d_Mo_narrow_35 : decode c_Mo_narrow 35 = .ok (.iconst 1, 1) := by decide +kernel
theorem d_Mo_narrow_36 : decode c_Mo_narrow 36 = .ok (.goto 4, 3) := by decide +kernel
theorem d_Mo_narrow_39 : decode c_Mo_narrow 39 = .ok (.iconst 0, 1) := by decide +kernel
theorem d_Mo_narrow_40 : decode c_Mo_narrow 40 = .ok (.invokevirtual 28, 3) := by decide +kernel
theorem d_Mo_narrow_43 : decode c_Mo_narrow 43 = .ok (.ifCond .eq 5, 3) := by decide +kernel
theorem d_Mo_narrow_46 : decode c_Mo_narrow 46 = .ok (.iconst 0, 1) := by decide +kernel
theorem d_Mo_narrow_47 : decode c_Mo_narrow 47 = .ok (.ireturn, 1) := by decide +kernel
theorem d_Mo_narrow_48 : decode c_Mo_narrow 48 = .ok (.aload_n 0, 1) := by decide +kernel
theorem d_Mo_narrow_49 : decode c_Mo_narrow 49 = .ok (.invokevirtual 52, 3) := by decide +kernel
theorem d_Mo_narrow_52 : decode c_Mo_narrow 52 = .ok (.iconst 0, 1) := by decide +kernel
theorem d_Mo_narrow_53 : decode c_Mo_narrow 53 = .ok (.istore 4, 2) := by decide +kernel
theorem d_Mo_narrow_55 : decode c_Mo_narrow 55 = .ok (.iload 4, 2) := by decide +kernel
theorem d_Mo_narrow_57 : decode c_Mo_narrow 57 = .ok (.sipush 4096, 3) := by decide +kernel
theorem d_Mo_narrow_60 : decode c_Mo_narrow 60 = .ok (.if_icmp .ge 87, 3) := by decide +kernel
theorem d_Mo_narrow_63 : decode c_Mo_narrow 63 = .ok (.iconst 0, 1) := by decide +kernel
theorem d_Mo_narrow_64 : decode c_Mo_narrow 64 = .ok (.istore 5, 2) := by decide +kernel
theorem d_Mo_narrow_66 : decode c_Mo_narrow 66 = .ok (.iconst 0, 1) := by decide +kernel
theorem d_Mo_narrow_67 : decode c_Mo_narrow 67 = .ok (.istore 6, 2) := by decide +kernel
theorem d_Mo_narrow_69 : decode c_Mo_narrow 69 = .ok (.iconst 0, 1) := by decide +kernel
theorem d_Mo_narrow_70 : decode c_Mo_narrow 70 = .ok (.istore 7, 2) := by decide +kernel
theorem d_Mo_narrow_72 : decode c_Mo_narrow 72 = .ok (.iload 7, 2) := by decide +kernel
theorem d_Mo_narrow_74 : decode c_Mo_narrow 74 = .ok (.aload_n 0, 1) := by decide +kernel
theorem d_Mo_narrow_75 : decode c_Mo_narrow 75 = .ok (.getfield 13, 3) := by decide +kernel
theorem d_Mo_narrow_78 : decode c_Mo_narrow 78 = .ok (.iload_n 2, 1) := by decide +kernel
theorem d_Mo_narrow_79 : decode c_Mo_narrow 79 = .ok (.iaload, 1) := by decide +kernel
theorem d_Mo_narrow_80 : decode c_Mo_narrow 80 = .ok (.if_icmp .ge 44, 3) := by decide +kernel
theorem d_Mo_narrow_83 : decode c_Mo_narrow 83 = .ok (.iload_n 3, 1) := by decide +kernel
theorem d_Mo_narrow_84 : decode c_Mo_narrow 84 = .ok (.iload 7, 2) := by decide +kernel
theorem d_Mo_narrow_86 : decode c_Mo_narrow 86 = .ok (.ishr, 1) := by decide +kernel
theorem d_Mo_narrow_87 : decode c_Mo_narrow 87 = .ok (.iconst 1, 1) := by decide +kernel
theorem d_Mo_narrow_88 : decode c_Mo_narrow 88 = .ok (.iand, 1) := by decide +kernel
theorem d_Mo_narrow_89 : decode c_Mo_narrow 89 = .ok (.ifCond .ne 6, 3) := by decide +kernel
theorem d_Mo_narrow_92 : decode c_Mo_narrow 92 = .ok (.goto 26, 3) := by decide +kernel
theorem d_Mo_narrow_95 : decode c_Mo_narrow 95 = .ok (.iload 5, 2) := by decide +kernel
theorem d_Mo_narrow_97 : decode c_Mo_narrow 97 = .ok (.iload 4, 2) := by decide +kernel
theorem d_Mo_narrow_99 : decode c_Mo_narrow 99 = .ok (.iload 7, 2) := by decide +kernel
theorem d_Mo_narrow_101 : decode c_Mo_narrow 101 = .ok (.invokestatic 55, 3) := by decide +kernel
theorem d_Mo_narrow_104 : decode c_Mo_narrow 104 = .ok (.bipush 8, 2) := by decide +kernel
theorem d_Mo_narrow_106 : decode c_Mo_narrow 106 = .ok (.iconst 4, 1) := by decide +kernel
theorem d_Mo_narrow_107 : decode c_Mo_narrow 107 = .ok (.iload 6, 2) := by decide +kernel
theorem d_Mo_narrow_109 : decode c_Mo_narrow 109 = .ok (.imul, 1) := by decide +kernel
theorem d_Mo_narrow_110 : decode c_Mo_narrow 110 = .ok (.isub, 1) := by decide +kernel
theorem d_Mo_narrow_111 : decode c_Mo_narrow 111 = .ok (.ishl, 1) := by decide +kernel
theorem d_Mo_narrow_112 : decode c_Mo_narrow 112 = .ok (.ior, 1) := by decide +kernel
theorem d_Mo_narrow_113 : decode c_Mo_narrow 113 = .ok (.istore 5, 2) := by decide +kernel
theorem d_Mo_narrow_115 : decode c_Mo_narrow 115 = .ok (.iinc 6 1, 3) := by decide +kernel
theorem d_Mo_narrow_118 : decode c_Mo_narrow 118 = .ok (.iinc 7 1, 3) := by decide +kernel
theorem d_Mo_narrow_121 : decode c_Mo_narrow 121 = .ok (.goto (-49), 3) := by decide +kernel
theorem d_Mo_narrow_124 : decode c_Mo_narrow 124 = .ok (.aload_n 0, 1) := by decide +kernel
theorem d_Mo_narrow_125 : decode c_Mo_narrow 125 = .ok (.getfield 21, 3) := by decide +kernel
theorem d_Mo_narrow_128 : decode c_Mo_narrow 128 = .ok (.iload 5, 2) := by decide +kernel
theorem d_Mo_narrow_130 : decode c_Mo_narrow 130 = .ok (.dup2, 1) := by decide +kernel
theorem d_Mo_narrow_131 : decode c_Mo_narrow 131 = .ok (.iaload, 1) := by decide +kernel
theorem d_Mo_narrow_132 : decode c_Mo_narrow 132 = .ok (.aload_n 0, 1) := by decide +kernel
theorem d_Mo_narrow_133 : decode c_Mo_narrow 133 = .ok (.iload_n 2, 1) := by decide +kernel
theorem d_Mo_narrow_134 : decode c_Mo_narrow 134 = .ok (.iload 4, 2) := by decide +kernel
theorem d_Mo_narrow_136 : decode c_Mo_narrow 136 = .ok (.invokevirtual 48, 3) := by decide +kernel
theorem d_Mo_narrow_139 : decode c_Mo_narrow 139 = .ok (.iadd, 1) := by decide +kernel
theorem d_Mo_narrow_140 : decode c_Mo_narrow 140 = .ok (.iastore, 1) := by decide +kernel
theorem d_Mo_narrow_141 : decode c_Mo_narrow 141 = .ok (.iinc 4 1, 3) := by decide +kernel
theorem d_Mo_narrow_144 : decode c_Mo_narrow 144 = .ok (.goto (-89), 3) := by decide +kernel
theorem d_Mo_narrow_147 : decode c_Mo_narrow 147 = .ok (.aload_n 0, 1) := by decide +kernel
theorem d_Mo_narrow_148 : decode c_Mo_narrow 148 = .ok (.iload_n 1, 1) := by decide +kernel
theorem d_Mo_narrow_149 : decode c_Mo_narrow 149 = .ok (.iload_n 3, 1) := by decide +kernel
theorem d_Mo_narrow_150 : decode c_Mo_narrow 150 = .ok (.invokestatic 62, 3) := by decide +kernel
theorem d_Mo_narrow_153 : decode c_Mo_narrow 153 = .ok (.iconst 3, 1) := by decide +kernel
theorem d_Mo_narrow_154 : decode c_Mo_narrow 154 = .ok (.invokevirtual 58, 3) := by decide +kernel
theorem d_Mo_narrow_157 : decode c_Mo_narrow 157 = .ok (.ireturn, 1) := by decide +kernel
theorem d_Mo_bits_0 : decode c_Mo_bits 0 = .ok (.iconst 0, 1) := by decide +kernel
theorem d_Mo_bits_1 : decode c_Mo_bits 1 = .ok (.istore_n 1, 1) := by decide +kernel
theorem d_Mo_bits_2 : decode c_Mo_bits 2 = .ok (.iconst 0, 1) := by decide +kernel
theorem d_Mo_bits_3 : decode c_Mo_bits 3 = .ok (.istore_n 2, 1) := by decide +kernel
theorem d_Mo_bits_4 : decode c_Mo_bits 4 = .ok (.iload_n 2, 1) := by decide +kernel
theorem d_Mo_bits_5 : decode c_Mo_bits 5 = .ok (.bipush 16, 2) := by decide +kernel
theorem d_Mo_bits_7 : decode c_Mo_bits 7 = .ok (.if_icmp .ge 17, 3) := by decide +kernel
theorem d_Mo_bits_10 : decode c_Mo_bits 10 = .ok (.iload_n 1, 1) := by decide +kernel
theorem d_Mo_bits_11 : decode c_Mo_bits 11 = .ok (.iload_n 0, 1) := by decide +kernel
theorem d_Mo_bits_12 : decode c_Mo_bits 12 = .ok (.iload_n 2, 1) := by decide +kernel
theorem d_Mo_bits_13 : decode c_Mo_bits 13 = .ok (.ishr, 1) := by decide +kernel
theorem d_Mo_bits_14 : decode c_Mo_bits 14 = .ok (.iconst 1, 1) := by decide +kernel
theorem d_Mo_bits_15 : decode c_Mo_bits 15 = .ok (.iand, 1) := by decide +kernel
theorem d_Mo_bits_16 : decode c_Mo_bits 16 = .ok (.iadd, 1) := by decide +kernel
theorem d_Mo_bits_17 : decode c_Mo_bits 17 = .ok (.istore_n 1, 1) := by decide +kernel
theorem d_Mo_bits_18 : decode c_Mo_bits 18 = .ok (.iinc 2 1, 3) := by decide +kernel
theorem d_Mo_bits_21 : decode c_Mo_bits 21 = .ok (.goto (-17), 3) := by decide +kernel
theorem d_Mo_bits_24 : decode c_Mo_bits 24 = .ok (.iload_n 1, 1) := by decide +kernel
theorem d_Mo_bits_25 : decode c_Mo_bits 25 = .ok (.ireturn, 1) := by decide +kernel
theorem d_Mo_pick_0 : decode c_Mo_pick 0 = .ok (.aload_n 0, 1) := by decide +kernel
theorem d_Mo_pick_1 : decode c_Mo_pick 1 = .ok (.iload_n 1, 1) := by decide +kernel
theorem d_Mo_pick_2 : decode c_Mo_pick 2 = .ok (.invokevirtual 36, 3) := by decide +kernel
theorem d_Mo_pick_5 : decode c_Mo_pick 5 = .ok (.ifCond .ne 50, 3) := by decide +kernel
theorem d_Mo_pick_8 : decode c_Mo_pick 8 = .ok (.aload_n 0, 1) := by decide +kernel
theorem d_Mo_pick_9 : decode c_Mo_pick 9 = .ok (.iload_n 2, 1) := by decide +kernel
theorem d_Mo_pick_10 : decode c_Mo_pick 10 = .ok (.invokevirtual 36, 3) := by decide +kernel
theorem d_Mo_pick_13 : decode c_Mo_pick 13 = .ok (.ifCond .ne 42, 3) := by decide +kernel
theorem d_Mo_pick_16 : decode c_Mo_pick 16 = .ok (.aload_n 0, 1) := by decide +kernel
theorem d_Mo_pick_17 : decode c_Mo_pick 17 = .ok (.iconst 2, 1) := by decide +kernel
theorem d_Mo_pick_18 : decode c_Mo_pick 18 = .ok (.iload_n 3, 1) := by decide +kernel
theorem d_Mo_pick_19 : decode c_Mo_pick 19 = .ok (.ifCond .lt 25, 3) := by decide +kernel
theorem d_Mo_pick_22 : decode c_Mo_pick 22 = .ok (.iload_n 3, 1) := by decide +kernel
theorem d_Mo_pick_23 : decode c_Mo_pick 23 = .ok (.aload_n 0, 1) := by decide +kernel
theorem d_Mo_pick_24 : decode c_Mo_pick 24 = .ok (.getfield 13, 3) := by decide +kernel
theorem d_Mo_pick_27 : decode c_Mo_pick 27 = .ok (.iload_n 2, 1) := by decide +kernel
theorem d_Mo_pick_28 : decode c_Mo_pick 28 = .ok (.iaload, 1) := by decide +kernel
theorem d_Mo_pick_29 : decode c_Mo_pick 29 = .ok (.if_icmp .ge 15, 3) := by decide +kernel
theorem d_Mo_pick_32 : decode c_Mo_pick 32 = .ok (.iload 4, 2) := by decide +kernel
theorem d_Mo_pick_34 : decode c_Mo_pick 34 = .ok (.ifCond .lt 10, 3) := by decide +kernel
theorem d_Mo_pick_37 : decode c_Mo_pick 37 = .ok (.iload 4, 2) := by decide +kernel
theorem d_Mo_pick_39 : decode c_Mo_pick 39 = .ok (.bipush 15, 2) := by decide +kernel
theorem d_Mo_pick_41 : decode c_Mo_pick 41 = .ok (.if_icmp .le 7, 3) := by decide +kernel
theorem d_Mo_pick_44 : decode c_Mo_pick 44 = .ok (.iconst 1, 1) := by decide +kernel
theorem d_Mo_pick_45 : decode c_Mo_pick 45 = .ok (.goto 4, 3) := by decide +kernel
theorem d_Mo_pick_48 : decode c_Mo_pick 48 = .ok (.iconst 0, 1) := by decide +kernel
theorem d_Mo_pick_49 : decode c_Mo_pick 49 = .ok (.invokevirtual 28, 3) := by decide +kernel
theorem d_Mo_pick_52 : decode c_Mo_pick 52 = .ok (.ifCond .eq 5, 3) := by decide +kernel
theorem d_Mo_pick_55 : decode c_Mo_pick 55 = .ok (.iconst 0, 1) := by decide +kernel
theorem d_Mo_pick_56 : decode c_Mo_pick 56 = .ok (.ireturn, 1) := by decide +kernel
theorem d_Mo_pick_57 : decode c_Mo_pick 57 = .ok (.aload_n 0, 1) := by decide +kernel
theorem d_Mo_pick_58 : decode c_Mo_pick 58 = .ok (.invokevirtual 52, 3) := by decide +kernel
theorem d_Mo_pick_61 : decode c_Mo_pick 61 = .ok (.iconst 0, 1) := by decide +kernel
theorem d_Mo_pick_62 : decode c_Mo_pick 62 = .ok (.istore 5, 2) := by decide +kernel
theorem d_Mo_pick_64 : decode c_Mo_pick 64 = .ok (.iload 5, 2) := by decide +kernel
theorem d_Mo_pick_66 : decode c_Mo_pick 66 = .ok (.sipush 4096, 3) := by decide +kernel
theorem d_Mo_pick_69 : decode c_Mo_pick 69 = .ok (.if_icmp .ge 34, 3) := by decide +kernel
theorem d_Mo_pick_72 : decode c_Mo_pick 72 = .ok (.iload 5, 2) := by decide +kernel
theorem d_Mo_pick_74 : decode c_Mo_pick 74 = .ok (.iload_n 3, 1) := by decide +kernel
theorem d_Mo_pick_75 : decode c_Mo_pick 75 = .ok (.invokestatic 55, 3) := by decide +kernel
theorem d_Mo_pick_78 : decode c_Mo_pick 78 = .ok (.iload 4, 2) := by decide +kernel
theorem d_Mo_pick_80 : decode c_Mo_pick 80 = .ok (.if_icmp .ne 17, 3) := by decide +kernel
theorem d_Mo_pick_83 : decode c_Mo_pick 83 = .ok (.aload_n 0, 1) := by decide +kernel
theorem d_Mo_pick_84 : decode c_Mo_pick 84 = .ok (.getfield 21, 3) := by decide +kernel
theorem d_Mo_pick_87 : decode c_Mo_pick 87 = .ok (.iload 5, 2) := by decide +kernel
theorem d_Mo_pick_89 : decode c_Mo_pick 89 = .ok (.aload_n 0, 1) := by decide +kernel
theorem d_Mo_pick_90 : decode c_Mo_pick 90 = .ok (.iload_n 2, 1) := by decide +kernel
theorem d_Mo_pick_91 : decode c_Mo_pick 91 = .ok (.iload 5, 2) := by decide +kernel
theorem d_Mo_pick_93 : decode c_Mo_pick 93 = .ok (.invokevirtual 48, 3) := by decide +kernel
theorem d_Mo_pick_96 : decode c_Mo_pick 96 = .ok (.iastore, 1) := by decide +kernel
theorem d_Mo_pick_97 : decode c_Mo_pick 97 = .ok (.iinc 5 1, 3) := by decide +kernel
theorem d_Mo_pick_100 : decode c_Mo_pick 100 = .ok (.goto (-36), 3) := by decide +kernel
theorem d_Mo_pick_103 : decode c_Mo_pick 103 = .ok (.aload_n 0, 1) := by decide +kernel
theorem d_Mo_pick_104 : decode c_Mo_pick 104 = .ok (.iload_n 1, 1) := by decide +kernel
theorem d_Mo_pick_105 : decode c_Mo_pick 105 = .ok (.aload_n 0, 1) := by decide +kernel
theorem d_Mo_pick_106 : decode c_Mo_pick 106 = .ok (.getfield 13, 3) := by decide +kernel
theorem d_Mo_pick_109 : decode c_Mo_pick 109 = .ok (.iload_n 2, 1) := by decide +kernel
theorem d_Mo_pick_110 : decode c_Mo_pick 110 = .ok (.iaload, 1) := by decide +kernel
theorem d_Mo_pick_111 : decode c_Mo_pick 111 = .ok (.iconst 3, 1) := by decide +kernel
theorem d_Mo_pick_112 : decode c_Mo_pick 112 = .ok (.invokevirtual 58, 3) := by decide +kernel
theorem d_Mo_pick_115 : decode c_Mo_pick 115 = .ok (.ireturn, 1) := by decide +kernel
theorem d_Mo_alter_0 : decode c_Mo_alter 0 = .ok (.aload_n 0, 1) := by decide +kernel
theorem d_Mo_alter_1 : decode c_Mo_alter 1 = .ok (.iload_n 1, 1) := by decide +kernel
theorem d_Mo_alter_2 : decode c_Mo_alter 2 = .ok (.invokevirtual 36, 3) := by decide +kernel
theorem d_Mo_alter_5 : decode c_Mo_alter 5 = .ok (.ifCond .ne 58, 3) := by decide +kernel
theorem d_Mo_alter_8 : decode c_Mo_alter 8 = .ok (.aload_n 0, 1) := by decide +kernel
theorem d_Mo_alter_9 : decode c_Mo_alter 9 = .ok (.iload_n 3, 1) := by decide +kernel
theorem d_Mo_alter_10 : decode c_Mo_alter 10 = .ok (.invokevirtual 36, 3) := by decide +kernel
theorem d_Mo_alter_13 : decode c_Mo_alter 13 = .ok (.ifCond .ne 50, 3) := by decide +kernel
theorem d_Mo_alter_16 : decode c_Mo_alter 16 = .ok (.aload_n 0, 1) := by decide +kernel
theorem d_Mo_alter_17 : decode c_Mo_alter 17 = .ok (.iload 4, 2) := by decide +kernel
theorem d_Mo_alter_19 : decode c_Mo_alter 19 = .ok (.invokevirtual 36, 3) := by decide +kernel
theorem d_Mo_alter_22 : decode c_Mo_alter 22 = .ok (.ifCond .ne 41, 3) := by decide +kernel
theorem d_Mo_alter_25 : decode c_Mo_alter 25 = .ok (.aload_n 0, 1) := by decide +kernel
theorem d_Mo_alter_26 : decode c_Mo_alter 26 = .ok (.iconst 2, 1) := by decide +kernel
theorem d_Mo_alter_27 : decode c_Mo_alter 27 = .ok (.iload_n 2, 1) := by decide +kernel
theorem d_Mo_alter_28 : decode c_Mo_alter 28 = .ok (.ifCond .lt 24, 3) := by decide +kernel
theorem d_Mo_alter_31 : decode c_Mo_alter 31 = .ok (.iload_n 2, 1) := by decide +kernel
theorem d_Mo_alter_32 : decode c_Mo_alter 32 = .ok (.iconst 5, 1) := by decide +kernel
theorem d_Mo_alter_33 : decode c_Mo_alter 33 = .ok (.if_icmp .gt 19, 3) := by decide +kernel
theorem d_Mo_alter_36 : decode c_Mo_alter 36 = .ok (.aload_n 0, 1) := by decide +kernel
theorem d_Mo_alter_37 : decode c_Mo_alter 37 = .ok (.getfield 13, 3) := by decide +kernel
theorem d_Mo_alter_40 : decode c_Mo_alter 40 = .ok (.iload_n 3, 1) := by decide +kernel
theorem d_Mo_alter_41 : decode c_Mo_alter 41 = .ok (.iaload, 1) := by decide +kernel
theorem d_Mo_alter_42 : decode c_Mo_alter 42 = .ok (.aload_n 0, 1) := by decide +kernel
theorem d_Mo_alter_43 : decode c_Mo_alter 43 = .ok (.getfield 13, 3) := by decide +kernel
theorem d_Mo_alter_46 : decode c_Mo_alter 46 = .ok (.iload 4, 2) := by decide +kernel
theorem d_Mo_alter_48 : decode c_Mo_alter 48 = .ok (.iaload, 1) := by decide +kernel
theorem d_Mo_alter_49 : decode c_Mo_alter 49 = .ok (.if_icmp .eq 7, 3) := by decide +kernel
theorem d_Mo_alter_52 : decode c_Mo_alter 52 = .ok (.iconst 1, 1) := by decide +kernel
theorem d_Mo_alter_53 : decode c_Mo_alter 53 = .ok (.goto 4, 3) := by decide +kernel
theorem d_Mo_alter_56 : decode c_Mo_alter 56 = .ok (.iconst 0, 1) := by decide +kernel
theorem d_Mo_alter_57 : decode c_Mo_alter 57 = .ok (.invokevirtual 28, 3) := by decide +kernel
theorem d_Mo_alter_60 : decode c_Mo_alter 60 = .ok (.ifCond .eq 5, 3) := by decide +kernel
theorem d_Mo_alter_63 : decode c_Mo_alter 63 = .ok (.iconst 0, 1) := by decide +kernel
theorem d_Mo_alter_64 : decode c_Mo_alter 64 = .ok (.ireturn, 1) := by decide +kernel
theorem d_Mo_alter_65 : decode c_Mo_alter 65 = .ok (.aload_n 0, 1) := by decide +kernel
theorem d_Mo_alter_66 : decode c_Mo_alter 66 = .ok (.invokevirtual 52, 3) := by decide +kernel
theorem d_Mo_alter_69 : decode c_Mo_alter 69 = .ok (.iconst 0, 1) := by decide +kernel
theorem d_Mo_alter_70 : decode c_Mo_alter 70 = .ok (.istore 5, 2) := by decide +kernel
theorem d_Mo_alter_72 : decode c_Mo_alter 72 = .ok (.iload 5, 2) := by decide +kernel
theorem d_Mo_alter_74 : decode c_Mo_alter 74 = .ok (.sipush 4096, 3) := by decide +kernel
theorem d_Mo_alter_77 : decode c_Mo_alter 77 = .ok (.if_icmp .ge 35, 3) := by decide +kernel
theorem d_Mo_alter_80 : decode c_Mo_alter 80 = .ok (.aload_n 0, 1) := by decide +kernel
theorem d_Mo_alter_81 : decode c_Mo_alter 81 = .ok (.getfield 21, 3) := by decide +kernel
theorem d_Mo_alter_84 : decode c_Mo_alter 84 = .ok (.iload 5, 2) := by decide +kernel
theorem d_Mo_alter_86 : decode c_Mo_alter 86 = .ok (.iload_n 2, 1) := by decide +kernel
theorem d_Mo_alter_87 : decode c_Mo_alter 87 = .ok (.aload_n 0, 1) := by decide +kernel
theorem d_Mo_alter_88 : decode c_Mo_alter 88 = .ok (.iload_n 3, 1) := by decide +kernel
theorem d_Mo_alter_89 : decode c_Mo_alter 89 = .ok (.iload 5, 2) := by decide +kernel
theorem d_Mo_alter_91 : decode c_Mo_alter 91 = .ok (.invokevirtual 48, 3) := by decide +kernel
theorem d_Mo_alter_94 : decode c_Mo_alter 94 = .ok (.aload_n 0, 1) := by decide +kernel
theorem d_Mo_alter_95 : decode c_Mo_alter 95 = .ok (.iload 4, 2) := by decide +kernel
theorem d_Mo_alter_97 : decode c_Mo_alter 97 = .ok (.iload 5, 2) := by decide +kernel
theorem d_Mo_alter_99 : decode c_Mo_alter 99 = .ok (.invokevirtual 48, 3) := by decide +kernel
theorem d_Mo_alter_102 : decode c_Mo_alter 102 = .ok (.invokestatic 65, 3) := by decide +kernel
theorem d_Mo_alter_105 : decode c_Mo_alter 105 = .ok (.iastore, 1) := by decide +kernel
theorem d_Mo_alter_106 : decode c_Mo_alter 106 = .ok (.iinc 5 1, 3) := by decide +kernel
theorem d_Mo_alter_109 : decode c_Mo_alter 109 = .ok (.goto (-37), 3) := by decide +kernel
theorem d_Mo_alter_112 : decode c_Mo_alter 112 = .ok (.aload_n 0, 1) := by decide +kernel
theorem d_Mo_alter_113 : decode c_Mo_alter 113 = .ok (.iload_n 1, 1) := by decide +kernel
theorem d_Mo_alter_114 : decode c_Mo_alter 114 = .ok (.aload_n 0, 1) := by decide +kernel
theorem d_Mo_alter_115 : decode c_Mo_alter 115 = .ok (.getfield 13, 3) := by decide +kernel
theorem d_Mo_alter_118 : decode c_Mo_alter 118 = .ok (.iload_n 3, 1) := by decide +kernel
theorem d_Mo_alter_119 : decode c_Mo_alter 119 = .ok (.iaload, 1) := by decide +kernel
theorem d_Mo_alter_120 : decode c_Mo_alter 120 = .ok (.iconst 3, 1) := by decide +kernel
theorem d_Mo_alter_121 : decode c_Mo_alter 121 = .ok (.invokevirtual 58, 3) := by decide +kernel
theorem d_Mo_alter_124 : decode c_Mo_alter 124 = .ok (.ireturn, 1) := by decide +kernel
theorem d_Mo_altered_0 : decode c_Mo_altered 0 = .ok (.iload_n 0, 1) := by decide +kernel
theorem d_Mo_altered_1 : decode c_Mo_altered 1 = .ok (.tableswitch 77 0 4 #[35, 39, 43, 53, 63], 35) := by decide +kernel
theorem d_Mo_altered_36 : decode c_Mo_altered 36 = .ok (.iload_n 1, 1) := by decide +kernel
theorem d_Mo_altered_37 : decode c_Mo_altered 37 = .ok (.iload_n 2, 1) := by decide +kernel
theorem d_Mo_altered_38 : decode c_Mo_altered 38 = .ok (.iadd, 1) := by decide +kernel
theorem d_Mo_altered_39 : decode c_Mo_altered 39 = .ok (.ireturn, 1) := by decide +kernel
theorem d_Mo_altered_40 : decode c_Mo_altered 40 = .ok (.iload_n 1, 1) := by decide +kernel
theorem d_Mo_altered_41 : decode c_Mo_altered 41 = .ok (.iload_n 2, 1) := by decide +kernel
theorem d_Mo_altered_42 : decode c_Mo_altered 42 = .ok (.isub, 1) := by decide +kernel
theorem d_Mo_altered_43 : decode c_Mo_altered 43 = .ok (.ireturn, 1) := by decide +kernel
theorem d_Mo_altered_44 : decode c_Mo_altered 44 = .ok (.iload_n 2, 1) := by decide +kernel
theorem d_Mo_altered_45 : decode c_Mo_altered 45 = .ok (.ifCond .eq 7, 3) := by decide +kernel
theorem d_Mo_altered_48 : decode c_Mo_altered 48 = .ok (.iload_n 1, 1) := by decide +kernel
theorem d_Mo_altered_49 : decode c_Mo_altered 49 = .ok (.goto 4, 3) := by decide +kernel
theorem d_Mo_altered_52 : decode c_Mo_altered 52 = .ok (.iconst 0, 1) := by decide +kernel
theorem d_Mo_altered_53 : decode c_Mo_altered 53 = .ok (.ireturn, 1) := by decide +kernel
theorem d_Mo_altered_54 : decode c_Mo_altered 54 = .ok (.iload_n 2, 1) := by decide +kernel
theorem d_Mo_altered_55 : decode c_Mo_altered 55 = .ok (.ifCond .ne 7, 3) := by decide +kernel
theorem d_Mo_altered_58 : decode c_Mo_altered 58 = .ok (.iload_n 1, 1) := by decide +kernel
theorem d_Mo_altered_59 : decode c_Mo_altered 59 = .ok (.goto 4, 3) := by decide +kernel
theorem d_Mo_altered_62 : decode c_Mo_altered 62 = .ok (.iconst 0, 1) := by decide +kernel
theorem d_Mo_altered_63 : decode c_Mo_altered 63 = .ok (.ireturn, 1) := by decide +kernel
theorem d_Mo_altered_64 : decode c_Mo_altered 64 = .ok (.iload_n 1, 1) := by decide +kernel
theorem d_Mo_altered_65 : decode c_Mo_altered 65 = .ok (.ifCond .ne 7, 3) := by decide +kernel
theorem d_Mo_altered_68 : decode c_Mo_altered 68 = .ok (.iload_n 2, 1) := by decide +kernel
theorem d_Mo_altered_69 : decode c_Mo_altered 69 = .ok (.ifCond .eq 7, 3) := by decide +kernel
theorem d_Mo_altered_72 : decode c_Mo_altered 72 = .ok (.iconst 1, 1) := by decide +kernel
theorem d_Mo_altered_73 : decode c_Mo_altered 73 = .ok (.goto 4, 3) := by decide +kernel
theorem d_Mo_altered_76 : decode c_Mo_altered 76 = .ok (.iconst 0, 1) := by decide +kernel
theorem d_Mo_altered_77 : decode c_Mo_altered 77 = .ok (.ireturn, 1) := by decide +kernel
theorem d_Mo_altered_78 : decode c_Mo_altered 78 = .ok (.iload_n 1, 1) := by decide +kernel
theorem d_Mo_altered_79 : decode c_Mo_altered 79 = .ok (.ifCond .eq 7, 3) := by decide +kernel
theorem d_Mo_altered_82 : decode c_Mo_altered 82 = .ok (.iload_n 2, 1) := by decide +kernel
theorem d_Mo_altered_83 : decode c_Mo_altered 83 = .ok (.ifCond .ne 7, 3) := by decide +kernel
theorem d_Mo_altered_86 : decode c_Mo_altered 86 = .ok (.iconst 0, 1) := by decide +kernel
theorem d_Mo_altered_87 : decode c_Mo_altered 87 = .ok (.goto 13, 3) := by decide +kernel
theorem d_Mo_altered_90 : decode c_Mo_altered 90 = .ok (.iload_n 1, 1) := by decide +kernel
theorem d_Mo_altered_91 : decode c_Mo_altered 91 = .ok (.iload_n 2, 1) := by decide +kernel
theorem d_Mo_altered_92 : decode c_Mo_altered 92 = .ok (.if_icmp .ge 7, 3) := by decide +kernel
theorem d_Mo_altered_95 : decode c_Mo_altered 95 = .ok (.iload_n 1, 1) := by decide +kernel
theorem d_Mo_altered_96 : decode c_Mo_altered 96 = .ok (.goto 4, 3) := by decide +kernel
theorem d_Mo_altered_99 : decode c_Mo_altered 99 = .ok (.iload_n 2, 1) := by decide +kernel
theorem d_Mo_altered_100 : decode c_Mo_altered 100 = .ok (.ireturn, 1) := by decide +kernel
theorem d_Mo_reach_0 : decode c_Mo_reach 0 = .ok (.aload_n 0, 1) := by decide +kernel
theorem d_Mo_reach_1 : decode c_Mo_reach 1 = .ok (.iload_n 1, 1) := by decide +kernel
theorem d_Mo_reach_2 : decode c_Mo_reach 2 = .ok (.invokevirtual 36, 3) := by decide +kernel
theorem d_Mo_reach_5 : decode c_Mo_reach 5 = .ok (.ifCond .ne 34, 3) := by decide +kernel
theorem d_Mo_reach_8 : decode c_Mo_reach 8 = .ok (.aload_n 0, 1) := by decide +kernel
theorem d_Mo_reach_9 : decode c_Mo_reach 9 = .ok (.iload_n 2, 1) := by decide +kernel
theorem d_Mo_reach_10 : decode c_Mo_reach 10 = .ok (.invokevirtual 36, 3) := by decide +kernel
theorem d_Mo_reach_13 : decode c_Mo_reach 13 = .ok (.ifCond .ne 26, 3) := by decide +kernel
theorem d_Mo_reach_16 : decode c_Mo_reach 16 = .ok (.aload_n 0, 1) := by decide +kernel
theorem d_Mo_reach_17 : decode c_Mo_reach 17 = .ok (.iconst 2, 1) := by decide +kernel
theorem d_Mo_reach_18 : decode c_Mo_reach 18 = .ok (.aload_n 0, 1) := by decide +kernel
theorem d_Mo_reach_19 : decode c_Mo_reach 19 = .ok (.getfield 13, 3) := by decide +kernel
theorem d_Mo_reach_22 : decode c_Mo_reach 22 = .ok (.iload_n 2, 1) := by decide +kernel
theorem d_Mo_reach_23 : decode c_Mo_reach 23 = .ok (.iaload, 1) := by decide +kernel
theorem d_Mo_reach_24 : decode c_Mo_reach 24 = .ok (.iconst 2, 1) := by decide +kernel
theorem d_Mo_reach_25 : decode c_Mo_reach 25 = .ok (.if_icmp .eq 7, 3) := by decide +kernel
theorem d_Mo_reach_28 : decode c_Mo_reach 28 = .ok (.iconst 1, 1) := by decide +kernel
theorem d_Mo_reach_29 : decode c_Mo_reach 29 = .ok (.goto 4, 3) := by decide +kernel
theorem d_Mo_reach_32 : decode c_Mo_reach 32 = .ok (.iconst 0, 1) := by decide +kernel
theorem d_Mo_reach_33 : decode c_Mo_reach 33 = .ok (.invokevirtual 28, 3) := by decide +kernel
theorem d_Mo_reach_36 : decode c_Mo_reach 36 = .ok (.ifCond .eq 5, 3) := by decide +kernel
theorem d_Mo_reach_39 : decode c_Mo_reach 39 = .ok (.iconst 0, 1) := by decide +kernel
theorem d_Mo_reach_40 : decode c_Mo_reach 40 = .ok (.ireturn, 1) := by decide +kernel
theorem d_Mo_reach_41 : decode c_Mo_reach 41 = .ok (.iconst 0, 1) := by decide +kernel
theorem d_Mo_reach_42 : decode c_Mo_reach 42 = .ok (.istore_n 3, 1) := by decide +kernel
theorem d_Mo_reach_43 : decode c_Mo_reach 43 = .ok (.iload_n 3, 1) := by decide +kernel
theorem d_Mo_reach_44 : decode c_Mo_reach 44 = .ok (.bipush 16, 2) := by decide +kernel
theorem d_Mo_reach_46 : decode c_Mo_reach 46 = .ok (.if_icmp .ge 61, 3) := by decide +kernel
theorem d_Mo_reach_49 : decode c_Mo_reach 49 = .ok (.iconst 0, 1) := by decide +kernel
theorem d_Mo_reach_50 : decode c_Mo_reach 50 = .ok (.istore 4, 2) := by decide +kernel
theorem d_Mo_reach_52 : decode c_Mo_reach 52 = .ok (.iload 4, 2) := by decide +kernel
theorem d_Mo_reach_54 : decode c_Mo_reach 54 = .ok (.bipush 16, 2) := by decide +kernel
theorem d_Mo_reach_56 : decode c_Mo_reach 56 = .ok (.if_icmp .ge 45, 3) := by decide +kernel
theorem d_Mo_reach_59 : decode c_Mo_reach 59 = .ok (.aload_n 0, 1) := by decide +kernel
theorem d_Mo_reach_60 : decode c_Mo_reach 60 = .ok (.getfield 24, 3) := by decide +kernel
theorem d_Mo_reach_63 : decode c_Mo_reach 63 = .ok (.bipush 16, 2) := by decide +kernel
theorem d_Mo_reach_65 : decode c_Mo_reach 65 = .ok (.iload_n 3, 1) := by decide +kernel
theorem d_Mo_reach_66 : decode c_Mo_reach 66 = .ok (.imul, 1) := by decide +kernel
theorem d_Mo_reach_67 : decode c_Mo_reach 67 = .ok (.iload 4, 2) := by decide +kernel
theorem d_Mo_reach_69 : decode c_Mo_reach 69 = .ok (.iadd, 1) := by decide +kernel
theorem d_Mo_reach_70 : decode c_Mo_reach 70 = .ok (.aload_n 0, 1) := by decide +kernel
theorem d_Mo_reach_71 : decode c_Mo_reach 71 = .ok (.iload_n 2, 1) := by decide +kernel
theorem d_Mo_reach_72 : decode c_Mo_reach 72 = .ok (.sipush 256, 3) := by decide +kernel
theorem d_Mo_reach_75 : decode c_Mo_reach 75 = .ok (.iload_n 3, 1) := by decide +kernel
theorem d_Mo_reach_76 : decode c_Mo_reach 76 = .ok (.imul, 1) := by decide +kernel
theorem d_Mo_reach_77 : decode c_Mo_reach 77 = .ok (.bipush 16, 2) := by decide +kernel
theorem d_Mo_reach_79 : decode c_Mo_reach 79 = .ok (.iload 4, 2) := by decide +kernel
theorem d_Mo_reach_81 : decode c_Mo_reach 81 = .ok (.imul, 1) := by decide +kernel
theorem d_Mo_reach_82 : decode c_Mo_reach 82 = .ok (.iadd, 1) := by decide +kernel
theorem d_Mo_reach_83 : decode c_Mo_reach 83 = .ok (.invokevirtual 48, 3) := by decide +kernel
theorem d_Mo_reach_86 : decode c_Mo_reach 86 = .ok (.ifCond .eq 7, 3) := by decide +kernel
theorem d_Mo_reach_89 : decode c_Mo_reach 89 = .ok (.iconst 1, 1) := by decide +kernel
theorem d_Mo_reach_90 : decode c_Mo_reach 90 = .ok (.goto 4, 3) := by decide +kernel
theorem d_Mo_reach_93 : decode c_Mo_reach 93 = .ok (.iconst 0, 1) := by decide +kernel
theorem d_Mo_reach_94 : decode c_Mo_reach 94 = .ok (.bastore, 1) := by decide +kernel
theorem d_Mo_reach_95 : decode c_Mo_reach 95 = .ok (.iinc 4 1, 3) := by decide +kernel
theorem d_Mo_reach_98 : decode c_Mo_reach 98 = .ok (.goto (-46), 3) := by decide +kernel
theorem d_Mo_reach_101 : decode c_Mo_reach 101 = .ok (.iinc 3 1, 3) := by decide +kernel
theorem d_Mo_reach_104 : decode c_Mo_reach 104 = .ok (.goto (-61), 3) := by decide +kernel
theorem d_Mo_reach_107 : decode c_Mo_reach 107 = .ok (.iconst 1, 1) := by decide +kernel
theorem d_Mo_reach_108 : decode c_Mo_reach 108 = .ok (.istore_n 3, 1) := by decide +kernel
theorem d_Mo_reach_109 : decode c_Mo_reach 109 = .ok (.iload_n 3, 1) := by decide +kernel
theorem d_Mo_reach_110 : decode c_Mo_reach 110 = .ok (.ifCond .eq 161, 3) := by decide +kernel
theorem d_Mo_reach_113 : decode c_Mo_reach 113 = .ok (.iconst 0, 1) := by decide +kernel
theorem d_Mo_reach_114 : decode c_Mo_reach 114 = .ok (.istore_n 3, 1) := by decide +kernel
theorem d_Mo_reach_115 : decode c_Mo_reach 115 = .ok (.iconst 0, 1) := by decide +kernel
theorem d_Mo_reach_116 : decode c_Mo_reach 116 = .ok (.istore 4, 2) := by decide +kernel
theorem d_Mo_reach_118 : decode c_Mo_reach 118 = .ok (.iload 4, 2) := by decide +kernel
theorem d_Mo_reach_120 : decode c_Mo_reach 120 = .ok (.bipush 16, 2) := by decide +kernel
theorem d_Mo_reach_122 : decode c_Mo_reach 122 = .ok (.if_icmp .ge 146, 3) := by decide +kernel
theorem d_Mo_reach_125 : decode c_Mo_reach 125 = .ok (.iconst 0, 1) := by decide +kernel
theorem d_Mo_reach_126 : decode c_Mo_reach 126 = .ok (.istore 5, 2) := by decide +kernel
theorem d_Mo_reach_128 : decode c_Mo_reach 128 = .ok (.iload 5, 2) := by decide +kernel
theorem d_Mo_reach_130 : decode c_Mo_reach 130 = .ok (.bipush 16, 2) := by decide +kernel
theorem d_Mo_reach_132 : decode c_Mo_reach 132 = .ok (.if_icmp .ge 130, 3) := by decide +kernel
theorem d_Mo_reach_135 : decode c_Mo_reach 135 = .ok (.aload_n 0, 1) := by decide +kernel
theorem d_Mo_reach_136 : decode c_Mo_reach 136 = .ok (.getfield 24, 3) := by decide +kernel
theorem d_Mo_reach_139 : decode c_Mo_reach 139 = .ok (.bipush 16, 2) := by decide +kernel
theorem d_Mo_reach_141 : decode c_Mo_reach 141 = .ok (.iload 4, 2) := by decide +kernel
theorem d_Mo_reach_143 : decode c_Mo_reach 143 = .ok (.imul, 1) := by decide +kernel
theorem d_Mo_reach_144 : decode c_Mo_reach 144 = .ok (.iload 5, 2) := by decide +kernel
theorem d_Mo_reach_146 : decode c_Mo_reach 146 = .ok (.iadd, 1) := by decide +kernel
theorem d_Mo_reach_147 : decode c_Mo_reach 147 = .ok (.baload, 1) := by decide +kernel
theorem d_Mo_reach_148 : decode c_Mo_reach 148 = .ok (.istore 6, 2) := by decide +kernel
theorem d_Mo_reach_150 : decode c_Mo_reach 150 = .ok (.iconst 0, 1) := by decide +kernel
theorem d_Mo_reach_151 : decode c_Mo_reach 151 = .ok (.istore 7, 2) := by decide +kernel
theorem d_Mo_reach_153 : decode c_Mo_reach 153 = .ok (.iload 7, 2) := by decide +kernel
theorem d_Mo_reach_155 : decode c_Mo_reach 155 = .ok (.bipush 16, 2) := by decide +kernel
theorem d_Mo_reach_157 : decode c_Mo_reach 157 = .ok (.if_icmp .ge 53, 3) := by decide +kernel
theorem d_Mo_reach_160 : decode c_Mo_reach 160 = .ok (.iload 6, 2) := by decide +kernel
theorem d_Mo_reach_162 : decode c_Mo_reach 162 = .ok (.ifCond .ne 35, 3) := by decide +kernel
theorem d_Mo_reach_165 : decode c_Mo_reach 165 = .ok (.aload_n 0, 1) := by decide +kernel
theorem d_Mo_reach_166 : decode c_Mo_reach 166 = .ok (.getfield 24, 3) := by decide +kernel
theorem d_Mo_reach_169 : decode c_Mo_reach 169 = .ok (.bipush 16, 2) := by decide +kernel
theorem d_Mo_reach_171 : decode c_Mo_reach 171 = .ok (.iload 4, 2) := by decide +kernel
theorem d_Mo_reach_173 : decode c_Mo_reach 173 = .ok (.imul, 1) := by decide +kernel
theorem d_Mo_reach_174 : decode c_Mo_reach 174 = .ok (.iload 7, 2) := by decide +kernel
theorem d_Mo_reach_176 : decode c_Mo_reach 176 = .ok (.iadd, 1) := by decide +kernel
theorem d_Mo_reach_177 : decode c_Mo_reach 177 = .ok (.baload, 1) := by decide +kernel
theorem d_Mo_reach_178 : decode c_Mo_reach 178 = .ok (.ifCond .eq 23, 3) := by decide +kernel
theorem d_Mo_reach_181 : decode c_Mo_reach 181 = .ok (.aload_n 0, 1) := by decide +kernel
theorem d_Mo_reach_182 : decode c_Mo_reach 182 = .ok (.getfield 24, 3) := by decide +kernel
theorem d_Mo_reach_185 : decode c_Mo_reach 185 = .ok (.bipush 16, 2) := by decide +kernel
theorem d_Mo_reach_187 : decode c_Mo_reach 187 = .ok (.iload 7, 2) := by decide +kernel
theorem d_Mo_reach_189 : decode c_Mo_reach 189 = .ok (.imul, 1) := by decide +kernel
theorem d_Mo_reach_190 : decode c_Mo_reach 190 = .ok (.iload 5, 2) := by decide +kernel
theorem d_Mo_reach_192 : decode c_Mo_reach 192 = .ok (.iadd, 1) := by decide +kernel
theorem d_Mo_reach_193 : decode c_Mo_reach 193 = .ok (.baload, 1) := by decide +kernel
theorem d_Mo_reach_194 : decode c_Mo_reach 194 = .ok (.ifCond .eq 7, 3) := by decide +kernel
theorem d_Mo_reach_197 : decode c_Mo_reach 197 = .ok (.iconst 1, 1) := by decide +kernel
theorem d_Mo_reach_198 : decode c_Mo_reach 198 = .ok (.goto 4, 3) := by decide +kernel
theorem d_Mo_reach_201 : decode c_Mo_reach 201 = .ok (.iconst 0, 1) := by decide +kernel
theorem d_Mo_reach_202 : decode c_Mo_reach 202 = .ok (.istore 6, 2) := by decide +kernel
theorem d_Mo_reach_204 : decode c_Mo_reach 204 = .ok (.iinc 7 1, 3) := by decide +kernel
theorem d_Mo_reach_207 : decode c_Mo_reach 207 = .ok (.goto (-54), 3) := by decide +kernel
theorem d_Mo_reach_210 : decode c_Mo_reach 210 = .ok (.iload_n 3, 1) := by decide +kernel
theorem d_Mo_reach_211 : decode c_Mo_reach 211 = .ok (.ifCond .ne 24, 3) := by decide +kernel
theorem d_Mo_reach_214 : decode c_Mo_reach 214 = .ok (.iload 6, 2) := by decide +kernel
theorem d_Mo_reach_216 : decode c_Mo_reach 216 = .ok (.ifCond .eq 23, 3) := by decide +kernel
theorem d_Mo_reach_219 : decode c_Mo_reach 219 = .ok (.aload_n 0, 1) := by decide +kernel
theorem d_Mo_reach_220 : decode c_Mo_reach 220 = .ok (.getfield 24, 3) := by decide +kernel
theorem d_Mo_reach_223 : decode c_Mo_reach 223 = .ok (.bipush 16, 2) := by decide +kernel
theorem d_Mo_reach_225 : decode c_Mo_reach 225 = .ok (.iload 4, 2) := by decide +kernel
theorem d_Mo_reach_227 : decode c_Mo_reach 227 = .ok (.imul, 1) := by decide +kernel
theorem d_Mo_reach_228 : decode c_Mo_reach 228 = .ok (.iload 5, 2) := by decide +kernel
theorem d_Mo_reach_230 : decode c_Mo_reach 230 = .ok (.iadd, 1) := by decide +kernel
theorem d_Mo_reach_231 : decode c_Mo_reach 231 = .ok (.baload, 1) := by decide +kernel
theorem d_Mo_reach_232 : decode c_Mo_reach 232 = .ok (.ifCond .ne 7, 3) := by decide +kernel
theorem d_Mo_reach_235 : decode c_Mo_reach 235 = .ok (.iconst 1, 1) := by decide +kernel
theorem d_Mo_reach_236 : decode c_Mo_reach 236 = .ok (.goto 4, 3) := by decide +kernel
theorem d_Mo_reach_239 : decode c_Mo_reach 239 = .ok (.iconst 0, 1) := by decide +kernel
theorem d_Mo_reach_240 : decode c_Mo_reach 240 = .ok (.istore_n 3, 1) := by decide +kernel
theorem d_Mo_reach_241 : decode c_Mo_reach 241 = .ok (.aload_n 0, 1) := by decide +kernel
theorem d_Mo_reach_242 : decode c_Mo_reach 242 = .ok (.getfield 24, 3) := by decide +kernel
theorem d_Mo_reach_245 : decode c_Mo_reach 245 = .ok (.bipush 16, 2) := by decide +kernel
theorem d_Mo_reach_247 : decode c_Mo_reach 247 = .ok (.iload 4, 2) := by decide +kernel
theorem d_Mo_reach_249 : decode c_Mo_reach 249 = .ok (.imul, 1) := by decide +kernel
theorem d_Mo_reach_250 : decode c_Mo_reach 250 = .ok (.iload 5, 2) := by decide +kernel
theorem d_Mo_reach_252 : decode c_Mo_reach 252 = .ok (.iadd, 1) := by decide +kernel
theorem d_Mo_reach_253 : decode c_Mo_reach 253 = .ok (.iload 6, 2) := by decide +kernel
theorem d_Mo_reach_255 : decode c_Mo_reach 255 = .ok (.bastore, 1) := by decide +kernel
theorem d_Mo_reach_256 : decode c_Mo_reach 256 = .ok (.iinc 5 1, 3) := by decide +kernel
theorem d_Mo_reach_259 : decode c_Mo_reach 259 = .ok (.goto (-131), 3) := by decide +kernel
theorem d_Mo_reach_262 : decode c_Mo_reach 262 = .ok (.iinc 4 1, 3) := by decide +kernel
theorem d_Mo_reach_265 : decode c_Mo_reach 265 = .ok (.goto (-147), 3) := by decide +kernel
theorem d_Mo_reach_268 : decode c_Mo_reach 268 = .ok (.goto (-159), 3) := by decide +kernel
theorem d_Mo_reach_271 : decode c_Mo_reach 271 = .ok (.aload_n 0, 1) := by decide +kernel
theorem d_Mo_reach_272 : decode c_Mo_reach 272 = .ok (.invokevirtual 52, 3) := by decide +kernel
theorem d_Mo_reach_275 : decode c_Mo_reach 275 = .ok (.iconst 0, 1) := by decide +kernel
theorem d_Mo_reach_276 : decode c_Mo_reach 276 = .ok (.istore 4, 2) := by decide +kernel
theorem d_Mo_reach_278 : decode c_Mo_reach 278 = .ok (.iload 4, 2) := by decide +kernel
theorem d_Mo_reach_280 : decode c_Mo_reach 280 = .ok (.bipush 16, 2) := by decide +kernel
theorem d_Mo_reach_282 : decode c_Mo_reach 282 = .ok (.if_icmp .ge 59, 3) := by decide +kernel
theorem d_Mo_reach_285 : decode c_Mo_reach 285 = .ok (.iconst 0, 1) := by decide +kernel
theorem d_Mo_reach_286 : decode c_Mo_reach 286 = .ok (.istore 5, 2) := by decide +kernel
theorem d_Mo_reach_288 : decode c_Mo_reach 288 = .ok (.iload 5, 2) := by decide +kernel
theorem d_Mo_reach_290 : decode c_Mo_reach 290 = .ok (.bipush 16, 2) := by decide +kernel
theorem d_Mo_reach_292 : decode c_Mo_reach 292 = .ok (.if_icmp .ge 43, 3) := by decide +kernel
theorem d_Mo_reach_295 : decode c_Mo_reach 295 = .ok (.aload_n 0, 1) := by decide +kernel
theorem d_Mo_reach_296 : decode c_Mo_reach 296 = .ok (.getfield 24, 3) := by decide +kernel
theorem d_Mo_reach_299 : decode c_Mo_reach 299 = .ok (.bipush 16, 2) := by decide +kernel
theorem d_Mo_reach_301 : decode c_Mo_reach 301 = .ok (.iload 4, 2) := by decide +kernel
theorem d_Mo_reach_303 : decode c_Mo_reach 303 = .ok (.imul, 1) := by decide +kernel
theorem d_Mo_reach_304 : decode c_Mo_reach 304 = .ok (.iload 5, 2) := by decide +kernel
theorem d_Mo_reach_306 : decode c_Mo_reach 306 = .ok (.iadd, 1) := by decide +kernel
theorem d_Mo_reach_307 : decode c_Mo_reach 307 = .ok (.baload, 1) := by decide +kernel
theorem d_Mo_reach_308 : decode c_Mo_reach 308 = .ok (.ifCond .eq 21, 3) := by decide +kernel
theorem d_Mo_reach_311 : decode c_Mo_reach 311 = .ok (.aload_n 0, 1) := by decide +kernel
theorem d_Mo_reach_312 : decode c_Mo_reach 312 = .ok (.getfield 21, 3) := by decide +kernel
theorem d_Mo_reach_315 : decode c_Mo_reach 315 = .ok (.sipush 256, 3) := by decide +kernel
theorem d_Mo_reach_318 : decode c_Mo_reach 318 = .ok (.iload 4, 2) := by decide +kernel
theorem d_Mo_reach_320 : decode c_Mo_reach 320 = .ok (.imul, 1) := by decide +kernel
theorem d_Mo_reach_321 : decode c_Mo_reach 321 = .ok (.bipush 16, 2) := by decide +kernel
theorem d_Mo_reach_323 : decode c_Mo_reach 323 = .ok (.iload 5, 2) := by decide +kernel
theorem d_Mo_reach_325 : decode c_Mo_reach 325 = .ok (.imul, 1) := by decide +kernel
theorem d_Mo_reach_326 : decode c_Mo_reach 326 = .ok (.iadd, 1) := by decide +kernel
theorem d_Mo_reach_327 : decode c_Mo_reach 327 = .ok (.iconst 1, 1) := by decide +kernel
theorem d_Mo_reach_328 : decode c_Mo_reach 328 = .ok (.iastore, 1) := by decide +kernel
theorem d_Mo_reach_329 : decode c_Mo_reach 329 = .ok (.iinc 5 1, 3) := by decide +kernel
theorem d_Mo_reach_332 : decode c_Mo_reach 332 = .ok (.goto (-44), 3) := by decide +kernel
theorem d_Mo_reach_335 : decode c_Mo_reach 335 = .ok (.iinc 4 1, 3) := by decide +kernel
theorem d_Mo_reach_338 : decode c_Mo_reach 338 = .ok (.goto (-60), 3) := by decide +kernel
theorem d_Mo_reach_341 : decode c_Mo_reach 341 = .ok (.aload_n 0, 1) := by decide +kernel
theorem d_Mo_reach_342 : decode c_Mo_reach 342 = .ok (.iload_n 1, 1) := by decide +kernel
theorem d_Mo_reach_343 : decode c_Mo_reach 343 = .ok (.iconst 2, 1) := by decide +kernel
theorem d_Mo_reach_344 : decode c_Mo_reach 344 = .ok (.iconst 3, 1) := by decide +kernel
theorem d_Mo_reach_345 : decode c_Mo_reach 345 = .ok (.invokevirtual 58, 3) := by decide +kernel
theorem d_Mo_reach_348 : decode c_Mo_reach 348 = .ok (.ireturn, 1) := by decide +kernel
theorem d_Mo_turn_0 : decode c_Mo_turn 0 = .ok (.aload_n 0, 1) := by decide +kernel
theorem d_Mo_turn_1 : decode c_Mo_turn 1 = .ok (.iload_n 1, 1) := by decide +kernel
theorem d_Mo_turn_2 : decode c_Mo_turn 2 = .ok (.invokevirtual 36, 3) := by decide +kernel
theorem d_Mo_turn_5 : decode c_Mo_turn 5 = .ok (.ifCond .ne 11, 3) := by decide +kernel
theorem d_Mo_turn_8 : decode c_Mo_turn 8 = .ok (.aload_n 0, 1) := by decide +kernel
theorem d_Mo_turn_9 : decode c_Mo_turn 9 = .ok (.iload_n 2, 1) := by decide +kernel
theorem d_Mo_turn_10 : decode c_Mo_turn 10 = .ok (.invokevirtual 36, 3) := by decide +kernel
theorem d_Mo_turn_13 : decode c_Mo_turn 13 = .ok (.ifCond .eq 5, 3) := by decide +kernel
theorem d_Mo_turn_16 : decode c_Mo_turn 16 = .ok (.iconst 0, 1) := by decide +kernel
theorem d_Mo_turn_17 : decode c_Mo_turn 17 = .ok (.ireturn, 1) := by decide +kernel
theorem d_Mo_turn_18 : decode c_Mo_turn 18 = .ok (.aload_n 0, 1) := by decide +kernel
theorem d_Mo_turn_19 : decode c_Mo_turn 19 = .ok (.invokevirtual 52, 3) := by decide +kernel
theorem d_Mo_turn_22 : decode c_Mo_turn 22 = .ok (.aload_n 0, 1) := by decide +kernel
theorem d_Mo_turn_23 : decode c_Mo_turn 23 = .ok (.getfield 13, 3) := by decide +kernel
theorem d_Mo_turn_26 : decode c_Mo_turn 26 = .ok (.iload_n 2, 1) := by decide +kernel
theorem d_Mo_turn_27 : decode c_Mo_turn 27 = .ok (.iaload, 1) := by decide +kernel
theorem d_Mo_turn_28 : decode c_Mo_turn 28 = .ok (.istore_n 3, 1) := by decide +kernel
theorem d_Mo_turn_29 : decode c_Mo_turn 29 = .ok (.iconst 0, 1) := by decide +kernel
theorem d_Mo_turn_30 : decode c_Mo_turn 30 = .ok (.istore 4, 2) := by decide +kernel
theorem d_Mo_turn_32 : decode c_Mo_turn 32 = .ok (.iload 4, 2) := by decide +kernel
theorem d_Mo_turn_34 : decode c_Mo_turn 34 = .ok (.sipush 4096, 3) := by decide +kernel
theorem d_Mo_turn_37 : decode c_Mo_turn 37 = .ok (.if_icmp .ge 74, 3) := by decide +kernel
theorem d_Mo_turn_40 : decode c_Mo_turn 40 = .ok (.iconst 0, 1) := by decide +kernel
theorem d_Mo_turn_41 : decode c_Mo_turn 41 = .ok (.istore 5, 2) := by decide +kernel
theorem d_Mo_turn_43 : decode c_Mo_turn 43 = .ok (.iconst 0, 1) := by decide +kernel
theorem d_Mo_turn_44 : decode c_Mo_turn 44 = .ok (.istore 6, 2) := by decide +kernel
theorem d_Mo_turn_46 : decode c_Mo_turn 46 = .ok (.iload 6, 2) := by decide +kernel
theorem d_Mo_turn_48 : decode c_Mo_turn 48 = .ok (.iload_n 3, 1) := by decide +kernel
theorem d_Mo_turn_49 : decode c_Mo_turn 49 = .ok (.if_icmp .ge 33, 3) := by decide +kernel
theorem d_Mo_turn_52 : decode c_Mo_turn 52 = .ok (.iload 5, 2) := by decide +kernel
theorem d_Mo_turn_54 : decode c_Mo_turn 54 = .ok (.iload 4, 2) := by decide +kernel
theorem d_Mo_turn_56 : decode c_Mo_turn 56 = .ok (.iload 6, 2) := by decide +kernel
theorem d_Mo_turn_58 : decode c_Mo_turn 58 = .ok (.invokestatic 55, 3) := by decide +kernel
theorem d_Mo_turn_61 : decode c_Mo_turn 61 = .ok (.bipush 8, 2) := by decide +kernel
theorem d_Mo_turn_63 : decode c_Mo_turn 63 = .ok (.iconst 4, 1) := by decide +kernel
theorem d_Mo_turn_64 : decode c_Mo_turn 64 = .ok (.iload_n 3, 1) := by decide +kernel
theorem d_Mo_turn_65 : decode c_Mo_turn 65 = .ok (.iconst 1, 1) := by decide +kernel
theorem d_Mo_turn_66 : decode c_Mo_turn 66 = .ok (.isub, 1) := by decide +kernel
theorem d_Mo_turn_67 : decode c_Mo_turn 67 = .ok (.iload 6, 2) := by decide +kernel
theorem d_Mo_turn_69 : decode c_Mo_turn 69 = .ok (.isub, 1) := by decide +kernel
theorem d_Mo_turn_70 : decode c_Mo_turn 70 = .ok (.imul, 1) := by decide +kernel
theorem d_Mo_turn_71 : decode c_Mo_turn 71 = .ok (.isub, 1) := by decide +kernel
theorem d_Mo_turn_72 : decode c_Mo_turn 72 = .ok (.ishl, 1) := by decide +kernel
theorem d_Mo_turn_73 : decode c_Mo_turn 73 = .ok (.ior, 1) := by decide +kernel
theorem d_Mo_turn_74 : decode c_Mo_turn 74 = .ok (.istore 5, 2) := by decide +kernel
theorem d_Mo_turn_76 : decode c_Mo_turn 76 = .ok (.iinc 6 1, 3) := by decide +kernel
theorem d_Mo_turn_79 : decode c_Mo_turn 79 = .ok (.goto (-33), 3) := by decide +kernel
theorem d_Mo_turn_82 : decode c_Mo_turn 82 = .ok (.iload 4, 2) := by decide +kernel
theorem d_Mo_turn_84 : decode c_Mo_turn 84 = .ok (.iload_n 3, 1) := by decide +kernel
theorem d_Mo_turn_85 : decode c_Mo_turn 85 = .ok (.invokestatic 44, 3) := by decide +kernel
theorem d_Mo_turn_88 : decode c_Mo_turn 88 = .ok (.ifCond .eq 17, 3) := by decide +kernel
theorem d_Mo_turn_91 : decode c_Mo_turn 91 = .ok (.aload_n 0, 1) := by decide +kernel
theorem d_Mo_turn_92 : decode c_Mo_turn 92 = .ok (.getfield 21, 3) := by decide +kernel
theorem d_Mo_turn_95 : decode c_Mo_turn 95 = .ok (.iload 5, 2) := by decide +kernel
theorem d_Mo_turn_97 : decode c_Mo_turn 97 = .ok (.aload_n 0, 1) := by decide +kernel
theorem d_Mo_turn_98 : decode c_Mo_turn 98 = .ok (.iload_n 2, 1) := by decide +kernel
theorem d_Mo_turn_99 : decode c_Mo_turn 99 = .ok (.iload 4, 2) := by decide +kernel
theorem d_Mo_turn_101 : decode c_Mo_turn 101 = .ok (.invokevirtual 48, 3) := by decide +kernel
theorem d_Mo_turn_104 : decode c_Mo_turn 104 = .ok (.iastore, 1) := by decide +kernel
theorem d_Mo_turn_105 : decode c_Mo_turn 105 = .ok (.iinc 4 1, 3) := by decide +kernel
theorem d_Mo_turn_108 : decode c_Mo_turn 108 = .ok (.goto (-76), 3) := by decide +kernel
theorem d_Mo_turn_111 : decode c_Mo_turn 111 = .ok (.aload_n 0, 1) := by decide +kernel
theorem d_Mo_turn_112 : decode c_Mo_turn 112 = .ok (.iload_n 1, 1) := by decide +kernel
theorem d_Mo_turn_113 : decode c_Mo_turn 113 = .ok (.iload_n 3, 1) := by decide +kernel
theorem d_Mo_turn_114 : decode c_Mo_turn 114 = .ok (.iconst 3, 1) := by decide +kernel
theorem d_Mo_turn_115 : decode c_Mo_turn 115 = .ok (.invokevirtual 58, 3) := by decide +kernel
theorem d_Mo_turn_118 : decode c_Mo_turn 118 = .ok (.ireturn, 1) := by decide +kernel
theorem d_Mo_about_0 : decode c_Mo_about 0 = .ok (.aload_n 0, 1) := by decide +kernel
theorem d_Mo_about_1 : decode c_Mo_about 1 = .ok (.iload_n 1, 1) := by decide +kernel
theorem d_Mo_about_2 : decode c_Mo_about 2 = .ok (.invokevirtual 36, 3) := by decide +kernel
theorem d_Mo_about_5 : decode c_Mo_about 5 = .ok (.ifCond .ne 25, 3) := by decide +kernel
theorem d_Mo_about_8 : decode c_Mo_about 8 = .ok (.aload_n 0, 1) := by decide +kernel
theorem d_Mo_about_9 : decode c_Mo_about 9 = .ok (.iconst 2, 1) := by decide +kernel
theorem d_Mo_about_10 : decode c_Mo_about 10 = .ok (.iload_n 2, 1) := by decide +kernel
theorem d_Mo_about_11 : decode c_Mo_about 11 = .ok (.ifCond .lt 8, 3) := by decide +kernel
theorem d_Mo_about_14 : decode c_Mo_about 14 = .ok (.iload_n 2, 1) := by decide +kernel
theorem d_Mo_about_15 : decode c_Mo_about 15 = .ok (.iconst 4, 1) := by decide +kernel
theorem d_Mo_about_16 : decode c_Mo_about 16 = .ok (.if_icmp .le 7, 3) := by decide +kernel
theorem d_Mo_about_19 : decode c_Mo_about 19 = .ok (.iconst 1, 1) := by decide +kernel
theorem d_Mo_about_20 : decode c_Mo_about 20 = .ok (.goto 4, 3) := by decide +kernel
theorem d_Mo_about_23 : decode c_Mo_about 23 = .ok (.iconst 0, 1) := by decide +kernel
theorem d_Mo_about_24 : decode c_Mo_about 24 = .ok (.invokevirtual 28, 3) := by decide +kernel
theorem d_Mo_about_27 : decode c_Mo_about 27 = .ok (.ifCond .eq 5, 3) := by decide +kernel
theorem d_Mo_about_30 : decode c_Mo_about 30 = .ok (.lconst 0, 1) := by decide +kernel
theorem d_Mo_about_31 : decode c_Mo_about 31 = .ok (.lreturn, 1) := by decide +kernel
theorem d_Mo_about_32 : decode c_Mo_about 32 = .ok (.iconst 0, 1) := by decide +kernel
theorem d_Mo_about_33 : decode c_Mo_about 33 = .ok (.istore_n 3, 1) := by decide +kernel
theorem d_Mo_about_34 : decode c_Mo_about 34 = .ok (.lconst 0, 1) := by decide +kernel
theorem d_Mo_about_35 : decode c_Mo_about 35 = .ok (.lstore 4, 2) := by decide +kernel
theorem d_Mo_about_37 : decode c_Mo_about 37 = .ok (.iconst 0, 1) := by decide +kernel
theorem d_Mo_about_38 : decode c_Mo_about 38 = .ok (.istore 6, 2) := by decide +kernel
theorem d_Mo_about_40 : decode c_Mo_about 40 = .ok (.iconst 0, 1) := by decide +kernel
theorem d_Mo_about_41 : decode c_Mo_about 41 = .ok (.istore 7, 2) := by decide +kernel
theorem d_Mo_about_43 : decode c_Mo_about 43 = .ok (.iconst 0, 1) := by decide +kernel
theorem d_Mo_about_44 : decode c_Mo_about 44 = .ok (.istore 8, 2) := by decide +kernel
theorem d_Mo_about_46 : decode c_Mo_about 46 = .ok (.iload 8, 2) := by decide +kernel
theorem d_Mo_about_48 : decode c_Mo_about 48 = .ok (.sipush 4096, 3) := by decide +kernel
theorem d_Mo_about_51 : decode c_Mo_about 51 = .ok (.if_icmp .ge 74, 3) := by decide +kernel
theorem d_Mo_about_54 : decode c_Mo_about 54 = .ok (.aload_n 0, 1) := by decide +kernel
theorem d_Mo_about_55 : decode c_Mo_about 55 = .ok (.iload_n 1, 1) := by decide +kernel
theorem d_Mo_about_56 : decode c_Mo_about 56 = .ok (.iload 8, 2) := by decide +kernel
theorem d_Mo_about_58 : decode c_Mo_about 58 = .ok (.invokevirtual 48, 3) := by decide +kernel
theorem d_Mo_about_61 : decode c_Mo_about 61 = .ok (.istore 9, 2) := by decide +kernel
theorem d_Mo_about_63 : decode c_Mo_about 63 = .ok (.iload 9, 2) := by decide +kernel
theorem d_Mo_about_65 : decode c_Mo_about 65 = .ok (.ifCond .ne 6, 3) := by decide +kernel
theorem d_Mo_about_68 : decode c_Mo_about 68 = .ok (.goto 51, 3) := by decide +kernel
theorem d_Mo_about_71 : decode c_Mo_about 71 = .ok (.iload_n 3, 1) := by decide +kernel
theorem d_Mo_about_72 : decode c_Mo_about 72 = .ok (.iconst 1, 1) := by decide +kernel
theorem d_Mo_about_73 : decode c_Mo_about 73 = .ok (.iload 8, 2) := by decide +kernel
theorem d_Mo_about_75 : decode c_Mo_about 75 = .ok (.iconst 0, 1) := by decide +kernel
theorem d_Mo_about_76 : decode c_Mo_about 76 = .ok (.invokestatic 55, 3) := by decide +kernel
theorem d_Mo_about_79 : decode c_Mo_about 79 = .ok (.ishl, 1) := by decide +kernel
theorem d_Mo_about_80 : decode c_Mo_about 80 = .ok (.ior, 1) := by decide +kernel
theorem d_Mo_about_81 : decode c_Mo_about 81 = .ok (.istore_n 3, 1) := by decide +kernel
theorem d_Mo_about_82 : decode c_Mo_about 82 = .ok (.lload 4, 2) := by decide +kernel
theorem d_Mo_about_84 : decode c_Mo_about 84 = .ok (.iload 9, 2) := by decide +kernel
theorem d_Mo_about_86 : decode c_Mo_about 86 = .ok (.i2l, 1) := by decide +kernel
theorem d_Mo_about_87 : decode c_Mo_about 87 = .ok (.ladd, 1) := by decide +kernel
theorem d_Mo_about_88 : decode c_Mo_about 88 = .ok (.lstore 4, 2) := by decide +kernel
theorem d_Mo_about_90 : decode c_Mo_about 90 = .ok (.iload 7, 2) := by decide +kernel
theorem d_Mo_about_92 : decode c_Mo_about 92 = .ok (.ifCond .eq 20, 3) := by decide +kernel
theorem d_Mo_about_95 : decode c_Mo_about 95 = .ok (.iload 9, 2) := by decide +kernel
theorem d_Mo_about_97 : decode c_Mo_about 97 = .ok (.iload 6, 2) := by decide +kernel
theorem d_Mo_about_99 : decode c_Mo_about 99 = .ok (.if_icmp .le 8, 3) := by decide +kernel
theorem d_Mo_about_102 : decode c_Mo_about 102 = .ok (.iload 9, 2) := by decide +kernel
theorem d_Mo_about_104 : decode c_Mo_about 104 = .ok (.goto 10, 3) := by decide +kernel
theorem d_Mo_about_107 : decode c_Mo_about 107 = .ok (.iload 6, 2) := by decide +kernel
theorem d_Mo_about_109 : decode c_Mo_about 109 = .ok (.goto 5, 3) := by decide +kernel
theorem d_Mo_about_112 : decode c_Mo_about 112 = .ok (.iload 9, 2) := by decide +kernel
theorem d_Mo_about_114 : decode c_Mo_about 114 = .ok (.istore 6, 2) := by decide +kernel
theorem d_Mo_about_116 : decode c_Mo_about 116 = .ok (.iconst 1, 1) := by decide +kernel
theorem d_Mo_about_117 : decode c_Mo_about 117 = .ok (.istore 7, 2) := by decide +kernel
theorem d_Mo_about_119 : decode c_Mo_about 119 = .ok (.iinc 8 1, 3) := by decide +kernel
theorem d_Mo_about_122 : decode c_Mo_about 122 = .ok (.goto (-76), 3) := by decide +kernel
theorem d_Mo_about_125 : decode c_Mo_about 125 = .ok (.iload_n 2, 1) := by decide +kernel
theorem d_Mo_about_126 : decode c_Mo_about 126 = .ok (.tableswitch 54 0 3 #[30, 38, 45, 51], 30) := by decide +kernel
theorem d_Mo_about_156 : decode c_Mo_about 156 = .ok (.aload_n 0, 1) := by decide +kernel
theorem d_Mo_about_157 : decode c_Mo_about 157 = .ok (.getfield 13, 3) := by decide +kernel
theorem d_Mo_about_160 : decode c_Mo_about 160 = .ok (.iload_n 1, 1) := by decide +kernel
theorem d_Mo_about_161 : decode c_Mo_about 161 = .ok (.iaload, 1) := by decide +kernel
theorem d_Mo_about_162 : decode c_Mo_about 162 = .ok (.i2l, 1) := by decide +kernel
theorem d_Mo_about_163 : decode c_Mo_about 163 = .ok (.lreturn, 1) := by decide +kernel
theorem d_Mo_about_164 : decode c_Mo_about 164 = .ok (.aload_n 0, 1) := by decide +kernel
theorem d_Mo_about_165 : decode c_Mo_about 165 = .ok (.iload_n 1, 1) := by decide +kernel
theorem d_Mo_about_166 : decode c_Mo_about 166 = .ok (.invokevirtual 40, 3) := by decide +kernel
theorem d_Mo_about_169 : decode c_Mo_about 169 = .ok (.i2l, 1) := by decide +kernel
theorem d_Mo_about_170 : decode c_Mo_about 170 = .ok (.lreturn, 1) := by decide +kernel
theorem d_Mo_about_171 : decode c_Mo_about 171 = .ok (.iload_n 3, 1) := by decide +kernel
theorem d_Mo_about_172 : decode c_Mo_about 172 = .ok (.invokestatic 62, 3) := by decide +kernel
theorem d_Mo_about_175 : decode c_Mo_about 175 = .ok (.i2l, 1) := by decide +kernel
theorem d_Mo_about_176 : decode c_Mo_about 176 = .ok (.lreturn, 1) := by decide +kernel
theorem d_Mo_about_177 : decode c_Mo_about 177 = .ok (.lload 4, 2) := by decide +kernel
theorem d_Mo_about_179 : decode c_Mo_about 179 = .ok (.lreturn, 1) := by decide +kernel
theorem d_Mo_about_180 : decode c_Mo_about 180 = .ok (.iload 6, 2) := by decide +kernel
theorem d_Mo_about_182 : decode c_Mo_about 182 = .ok (.i2l, 1) := by decide +kernel
theorem d_Mo_about_183 : decode c_Mo_about 183 = .ok (.lreturn, 1) := by decide +kernel
theorem d_Mo_same_0 : decode c_Mo_same 0 = .ok (.aload_n 0, 1) := by decide +kernel
theorem d_Mo_same_1 : decode c_Mo_same 1 = .ok (.iload_n 1, 1) := by decide +kernel
theorem d_Mo_same_2 : decode c_Mo_same 2 = .ok (.invokevirtual 36, 3) := by decide +kernel
theorem d_Mo_same_5 : decode c_Mo_same 5 = .ok (.ifCond .ne 11, 3) := by decide +kernel
theorem d_Mo_same_8 : decode c_Mo_same 8 = .ok (.aload_n 0, 1) := by decide +kernel
theorem d_Mo_same_9 : decode c_Mo_same 9 = .ok (.iload_n 2, 1) := by decide +kernel
theorem d_Mo_same_10 : decode c_Mo_same 10 = .ok (.invokevirtual 36, 3) := by decide +kernel
theorem d_Mo_same_13 : decode c_Mo_same 13 = .ok (.ifCond .eq 5, 3) := by decide +kernel
theorem d_Mo_same_16 : decode c_Mo_same 16 = .ok (.iconst 0, 1) := by decide +kernel
theorem d_Mo_same_17 : decode c_Mo_same 17 = .ok (.ireturn, 1) := by decide +kernel
theorem d_Mo_same_18 : decode c_Mo_same 18 = .ok (.aload_n 0, 1) := by decide +kernel
theorem d_Mo_same_19 : decode c_Mo_same 19 = .ok (.getfield 13, 3) := by decide +kernel
theorem d_Mo_same_22 : decode c_Mo_same 22 = .ok (.iload_n 1, 1) := by decide +kernel
theorem d_Mo_same_23 : decode c_Mo_same 23 = .ok (.iaload, 1) := by decide +kernel
theorem d_Mo_same_24 : decode c_Mo_same 24 = .ok (.aload_n 0, 1) := by decide +kernel
theorem d_Mo_same_25 : decode c_Mo_same 25 = .ok (.getfield 13, 3) := by decide +kernel
theorem d_Mo_same_28 : decode c_Mo_same 28 = .ok (.iload_n 2, 1) := by decide +kernel
theorem d_Mo_same_29 : decode c_Mo_same 29 = .ok (.iaload, 1) := by decide +kernel
theorem d_Mo_same_30 : decode c_Mo_same 30 = .ok (.if_icmp .ne 7, 3) := by decide +kernel
theorem d_Mo_same_33 : decode c_Mo_same 33 = .ok (.iconst 1, 1) := by decide +kernel
theorem d_Mo_same_34 : decode c_Mo_same 34 = .ok (.goto 4, 3) := by decide +kernel
theorem d_Mo_same_37 : decode c_Mo_same 37 = .ok (.iconst 0, 1) := by decide +kernel
theorem d_Mo_same_38 : decode c_Mo_same 38 = .ok (.istore_n 3, 1) := by decide +kernel
theorem d_Mo_same_39 : decode c_Mo_same 39 = .ok (.iconst 0, 1) := by decide +kernel
theorem d_Mo_same_40 : decode c_Mo_same 40 = .ok (.istore 4, 2) := by decide +kernel
theorem d_Mo_same_42 : decode c_Mo_same 42 = .ok (.iload 4, 2) := by decide +kernel
theorem d_Mo_same_44 : decode c_Mo_same 44 = .ok (.sipush 4096, 3) := by decide +kernel
theorem d_Mo_same_47 : decode c_Mo_same 47 = .ok (.if_icmp .ge 36, 3) := by decide +kernel
theorem d_Mo_same_50 : decode c_Mo_same 50 = .ok (.iload_n 3, 1) := by decide +kernel
theorem d_Mo_same_51 : decode c_Mo_same 51 = .ok (.ifCond .eq 24, 3) := by decide +kernel
theorem d_Mo_same_54 : decode c_Mo_same 54 = .ok (.aload_n 0, 1) := by decide +kernel
theorem d_Mo_same_55 : decode c_Mo_same 55 = .ok (.iload_n 1, 1) := by decide +kernel
theorem d_Mo_same_56 : decode c_Mo_same 56 = .ok (.iload 4, 2) := by decide +kernel
theorem d_Mo_same_58 : decode c_Mo_same 58 = .ok (.invokevirtual 48, 3) := by decide +kernel
theorem d_Mo_same_61 : decode c_Mo_same 61 = .ok (.aload_n 0, 1) := by decide +kernel
theorem d_Mo_same_62 : decode c_Mo_same 62 = .ok (.iload_n 2, 1) := by decide +kernel
theorem d_Mo_same_63 : decode c_Mo_same 63 = .ok (.iload 4, 2) := by decide +kernel
theorem d_Mo_same_65 : decode c_Mo_same 65 = .ok (.invokevirtual 48, 3) := by decide +kernel
theorem d_Mo_same_68 : decode c_Mo_same 68 = .ok (.if_icmp .ne 7, 3) := by decide +kernel
theorem d_Mo_same_71 : decode c_Mo_same 71 = .ok (.iconst 1, 1) := by decide +kernel
theorem d_Mo_same_72 : decode c_Mo_same 72 = .ok (.goto 4, 3) := by decide +kernel
theorem d_Mo_same_75 : decode c_Mo_same 75 = .ok (.iconst 0, 1) := by decide +kernel
theorem d_Mo_same_76 : decode c_Mo_same 76 = .ok (.istore_n 3, 1) := by decide +kernel
theorem d_Mo_same_77 : decode c_Mo_same 77 = .ok (.iinc 4 1, 3) := by decide +kernel
theorem d_Mo_same_80 : decode c_Mo_same 80 = .ok (.goto (-38), 3) := by decide +kernel
theorem d_Mo_same_83 : decode c_Mo_same 83 = .ok (.iload_n 3, 1) := by decide +kernel
theorem d_Mo_same_84 : decode c_Mo_same 84 = .ok (.ireturn, 1) := by decide +kernel
end
section
/-! THE REFERENCE: thrown is set; what is left alone; its tables stand for M and w -/
def zt (σ σ' : zS) (k : Int32) : Prop := σ'.1 30 0 = k ∧ (∀ q, q ≠ 30 → σ'.1 q = σ.1 q) ∧ σ'.2 = σ.2
def zj (σ σ' : zS) : Prop := (∀ q, q < 30 → σ'.1 q = σ.1 q) ∧ σ'.2 = σ.2
def zmw (σ : zS) (M : Nat → Nat → Int32) (w : Nat → Nat) : Prop := (∀ r, r < 8 → σ.1 31 r = nI (w r)) ∧ ∀ r t, r < 8 → t < 4096 → σ.1 32 (4096 * r + t) = M r t
theorem zj.rf (σ : zS) : zj σ σ := ⟨fun _ _ => rfl, rfl⟩
theorem zj.tr {a b c : zS} (h : zj a b) (h2 : zj b c) : zj a c := ⟨fun q hq => (h2.1 q hq).trans (h.1 q hq), h2.2.trans h.2⟩
theorem zt.j {a b : zS} {k : Int32} (h : zt a b k) : zj a b := ⟨fun q hq => h.2.1 q (by omega), h.2.2⟩
theorem zt.tr {a b c : zS} {k k' : Int32} (h : zt a b k) (h2 : zt b c k') : zt a c k' := ⟨h2.1, fun q hq => (h2.2.1 q hq).trans (h.2.1 q hq), h2.2.2.trans h.2.2⟩
theorem zmw.same {σ σ' : zS} {M : Nat → Nat → Int32} {w : Nat → Nat} (h : zmw σ M w) (h1 : σ'.1 31 = σ.1 31) (h2 : σ'.1 32 = σ.1 32) : zmw σ' M w := ⟨fun r hr => by rw [h1]; exact h.1 r hr, fun r t hr ht => by rw [h2]; exact h.2 r t hr ht⟩
theorem zt.mw {σ σ' : zS} {k : Int32} {M : Nat → Nat → Int32} {w : Nat → Nat} (h : zt σ σ' k) (hm : zmw σ M w) : zmw σ' M w := hm.same (h.2.1 31 (by decide)) (h.2.1 32 (by decide))
theorem zt_zu (σ : zS) (k : Int32) : zt σ (zu σ 30 (upd (σ.1 30) 0 k)) k := ⟨by rw [zu_self]; exact pk_us, fun q hq => zu_ne σ _ hq, rfl⟩
theorem ia31 : zia 31 := by unfold zia; omega
theorem ia32 : zia 32 := by unfold zia; omega
theorem ia33 : zia 33 := by unfold zia; omega
theorem zct_congr {m m' : Nat → Int32} : ∀ k, (∀ t, t < k → m t = m' t) → zct m k = zct m' k := by
  intro k
  induction k with
  | zero => intro _; rfl
  | succ k ih =>
    intro h
    have h1 := ih (fun t ht => h t (by omega))
    have h2 := h k (by omega)
    unfold zct at h1 ⊢
    simp only [fm, h1, h2]
theorem zct_le (m : Nat → Int32) : ∀ k, zct m k ≤ k := by
  intro k
  induction k with
  | zero => exact Nat.le_refl _
  | succ k ih =>
    unfold zct at ih ⊢
    simp only [fm]
    split <;> omega
theorem zgr7 {x : Int32} (h0 : ¬ x < 0) (h7 : x ≤ 7) : zgr x := by
  obtain ⟨j, hj, rfl⟩ := nI_of h0
  exact ⟨j, by have := (nI_leI (b := 7) hj (by decide)).mp h7; omega, rfl⟩
set_option maxHeartbeats 4000000 in
set_option maxRecDepth 100000 in
theorem c_mthrown (l : Launch) (G : zG) {σ : zS}  : zC l G y_Mo_thrown w_Mo_thrown (zrm 0 0) 0 0 [.ref (zad G 30)] σ (fun v σ' => v = some (.int (σ.1 30 0)) ∧ σ = σ') := by
  refine zC_of (cc := c_Mo_thrown) (nL := 1) (ret := (some .int)) (own := R_Mo) (by decide +kernel) rfl rfl (Nat.le_of_ble_eq_true rfl) ?_
  refine zb_lv (lv' := [(0, .ref (zad G 30))]) rfl ?_
  refine zb_aload_n d_Mo_thrown_0 rfl rfl ?_
  refine zm_thrown d_Mo_thrown_1 fl_Mo_7 ?_
  exact zb_iret d_Mo_thrown_4 rfl ⟨rfl, rfl⟩
set_option maxHeartbeats 4000000 in
set_option maxRecDepth 100000 in
theorem c_refuse_y (l : Launch) (G : zG) {σ : zS} {k : Int32} : zC l G y_Mo_refuse w_Mo_refuse (zrm 0 0) 0 0 [.ref (zad G 30), .int k, .int 1] σ (fun v σ' => v = some (.int 1) ∧ zt σ σ' k) := by
  refine zC_of (cc := c_Mo_refuse) (nL := 3) (ret := (some .boolean)) (own := R_Mo) (by decide +kernel) rfl rfl (Nat.le_of_ble_eq_true rfl) ?_
  refine zb_lv (lv' := [(0, .ref (zad G 30)), (1, .int k), (2, .int 1)]) rfl ?_
  refine zb_iload_n d_Mo_refuse_0 rfl rfl ?_
  refine zb_if_eq (tgt := 9) d_Mo_refuse_1 rfl (fun h1 => absurd h1 (by decide)) (fun h1 => ?_)
  refine zb_aload_n d_Mo_refuse_4 rfl rfl ?_
  refine zb_iload_n d_Mo_refuse_5 rfl rfl ?_
  refine zm_put_thrown d_Mo_refuse_6 fl_Mo_7 ?_
  refine zb_iload_n d_Mo_refuse_9 rfl rfl ?_
  exact zb_zret d_Mo_refuse_10 rfl rfl ⟨rfl, zt_zu σ k⟩
set_option maxHeartbeats 4000000 in
set_option maxRecDepth 100000 in
theorem c_refuse_n (l : Launch) (G : zG) {σ : zS} {k : Int32} : zC l G y_Mo_refuse w_Mo_refuse (zrm 0 0) 0 0 [.ref (zad G 30), .int k, .int 0] σ (fun v σ' => v = some (.int 0) ∧ σ = σ') := by
  refine zC_of (cc := c_Mo_refuse) (nL := 3) (ret := (some .boolean)) (own := R_Mo) (by decide +kernel) rfl rfl (Nat.le_of_ble_eq_true rfl) ?_
  refine zb_lv (lv' := [(0, .ref (zad G 30)), (1, .int k), (2, .int 0)]) rfl ?_
  refine zb_iload_n d_Mo_refuse_0 rfl rfl ?_
  refine zb_if_eq (tgt := 9) d_Mo_refuse_1 rfl (fun h1 => ?_) (fun h1 => absurd rfl h1)
  refine zb_iload_n d_Mo_refuse_9 rfl rfl ?_
  exact zb_zret d_Mo_refuse_10 rfl rfl ⟨rfl, rfl⟩
set_option maxHeartbeats 4000000 in
set_option maxRecDepth 100000 in
theorem c_none_y (l : Launch) (G : zG) {σ : zS} {x : Int32} (h : ¬ zgr x) : zC l G y_Mo_none w_Mo_none (zrm 1 22) 0 0 [.ref (zad G 30), .int x] σ (fun v σ' => v = some (.int 1) ∧ zt σ σ' 1) := by
  refine zC_of (cc := c_Mo_none) (nL := 2) (ret := (some .boolean)) (own := R_Mo) (by decide +kernel) rfl rfl (Nat.le_of_ble_eq_true rfl) ?_
  refine zb_lv (lv' := [(0, .ref (zad G 30)), (1, .int x)]) rfl ?_
  refine zb_aload_n d_Mo_none_0 rfl rfl ?_
  refine zb_iconst (v := 0) d_Mo_none_1 rfl ?_
  refine zm_put_thrown d_Mo_none_2 fl_Mo_7 ?_
  refine zb_aload_n d_Mo_none_5 rfl rfl ?_
  refine zb_iconst (v := 1) d_Mo_none_6 rfl ?_
  refine zb_iload_n d_Mo_none_7 rfl rfl ?_
  refine zb_if_lt (tgt := 17) d_Mo_none_8 rfl (fun h8 => ?_) (fun h8 => ?_)
  · refine zb_iconst (v := 1) d_Mo_none_17 rfl ?_
    refine zb_goto (tgt := 22) d_Mo_none_18 rfl ?_
    refine zb_callV (rest := []) (c_refuse_y l G) (lk_Mo_28.cw rfl rfl ⟨Nat.le_of_ble_eq_true rfl, Nat.le_of_ble_eq_true rfl⟩) zgM rfl rfl rfl rfl (Nat.le_of_ble_eq_true rfl) d_Mo_none_22 ⟨Nat.le_of_ble_eq_true rfl, Nat.le_of_ble_eq_true rfl⟩ ?_
    rintro _ _ ⟨rfl, z1⟩
    rename_i σ9
    refine zb_st (st' := [.int 1]) rfl ?_
    exact zb_zret d_Mo_none_25 rfl rfl ⟨rfl, (zt_zu σ 0).tr z1⟩
  · refine zb_iload_n d_Mo_none_11 rfl rfl ?_
    refine zb_bipush (v := 7) d_Mo_none_12 rfl ?_
    refine zb_icmp_le (tgt := 21) d_Mo_none_14 rfl (fun h14 => absurd h14 (fun z => h (zgr7 h8 z))) (fun h14 => ?_)
    refine zb_iconst (v := 1) d_Mo_none_17 rfl ?_
    refine zb_goto (tgt := 22) d_Mo_none_18 rfl ?_
    refine zb_callV (rest := []) (c_refuse_y l G) (lk_Mo_28.cw rfl rfl ⟨Nat.le_of_ble_eq_true rfl, Nat.le_of_ble_eq_true rfl⟩) zgM rfl rfl rfl rfl (Nat.le_of_ble_eq_true rfl) d_Mo_none_22 ⟨Nat.le_of_ble_eq_true rfl, Nat.le_of_ble_eq_true rfl⟩ ?_
    rintro _ _ ⟨rfl, z1⟩
    rename_i σ9
    refine zb_st (st' := [.int 1]) rfl ?_
    exact zb_zret d_Mo_none_25 rfl rfl ⟨rfl, (zt_zu σ 0).tr z1⟩
set_option maxHeartbeats 4000000 in
set_option maxRecDepth 100000 in
theorem c_none_n (l : Launch) (G : zG) {σ : zS} {r : Nat} (hr : r < 8) : zC l G y_Mo_none w_Mo_none (zrm 1 22) 0 0 [.ref (zad G 30), .int (nI r)] σ (fun v σ' => v = some (.int 0) ∧ zt σ σ' 0) := by
  refine zC_of (cc := c_Mo_none) (nL := 2) (ret := (some .boolean)) (own := R_Mo) (by decide +kernel) rfl rfl (Nat.le_of_ble_eq_true rfl) ?_
  refine zb_lv (lv' := [(0, .ref (zad G 30)), (1, .int (nI r))]) rfl ?_
  refine zb_aload_n d_Mo_none_0 rfl rfl ?_
  refine zb_iconst (v := 0) d_Mo_none_1 rfl ?_
  refine zm_put_thrown d_Mo_none_2 fl_Mo_7 ?_
  refine zb_aload_n d_Mo_none_5 rfl rfl ?_
  refine zb_iconst (v := 1) d_Mo_none_6 rfl ?_
  refine zb_iload_n d_Mo_none_7 rfl rfl ?_
  refine zb_if_lt (tgt := 17) d_Mo_none_8 rfl (fun h8 => absurd h8 (nI_pos (by omega))) (fun h8 => ?_)
  refine zb_iload_n d_Mo_none_11 rfl rfl ?_
  refine zb_bipush (v := 7) d_Mo_none_12 rfl ?_
  refine zb_icmp_le (tgt := 21) d_Mo_none_14 rfl (fun h14 => ?_) (fun h14 => absurd (nI_le (b := 7) (show r ≤ 7 by omega) (by decide)) h14)
  refine zb_iconst (v := 0) d_Mo_none_21 rfl ?_
  refine zb_callV (rest := []) (c_refuse_n l G) (lk_Mo_28.cw rfl rfl ⟨Nat.le_of_ble_eq_true rfl, Nat.le_of_ble_eq_true rfl⟩) zgM rfl rfl rfl rfl (Nat.le_of_ble_eq_true rfl) d_Mo_none_22 ⟨Nat.le_of_ble_eq_true rfl, Nat.le_of_ble_eq_true rfl⟩ ?_
  rintro _ _ ⟨rfl, rfl⟩
  refine zb_st (st' := [.int 0]) rfl ?_
  exact zb_zret d_Mo_none_25 rfl rfl ⟨rfl, zt_zu σ 0⟩
set_option maxHeartbeats 4000000 in
set_option maxRecDepth 100000 in
theorem lp_many (l : Launch) (G : zG) {σ : zS} {q f : Nat} (hq : zia q) (hf : f + 4096 ≤ zn q) : ∀ k i : Nat, i + k = 4096 → zB l G w_Mo_many R_Mo c_Mo_many 4 (some .int) [] (zrm 0 0) (zR G (fun v σ' => v = some (.int (nI (zct (fun t => σ.1 q (f + t)) 4096))) ∧ σ = σ') 0 0) 0 0 4 [(3, .int (nI i)), (2, .int (nI (zct (fun t => σ.1 q (f + t)) i))), (0, .ref (zad G q)), (1, .int (nI f))] [] σ := by
  intro k
  induction k with
  | zero =>
    intro i hi
    have e : i = 4096 := by omega
    refine zb_iload_n d_Mo_many_4 rfl rfl ?_
    refine zb_sipush (v := 4096) d_Mo_many_5 rfl ?_
    refine zb_icmp_ge (tgt := 28) d_Mo_many_8 rfl (fun h8 => ?_) (fun h8 => absurd (nI_le (a := 4096) (b := i) (by omega) (by omega)) h8)
    refine zb_iload_n d_Mo_many_28 rfl rfl ?_
    exact zb_iret d_Mo_many_29 rfl ⟨by rw [e], rfl⟩
  | succ k ih =>
    intro i hi
    have hlt : i < 4096 := by omega
    refine zb_iload_n d_Mo_many_4 rfl rfl ?_
    refine zb_sipush (v := 4096) d_Mo_many_5 rfl ?_
    refine zb_icmp_ge (tgt := 28) d_Mo_many_8 rfl (fun h8 => absurd h8 (nI_ge (a := i) (b := 4096) (by omega) (by omega))) (fun h8 => ?_)
    refine zb_aload_n d_Mo_many_11 rfl rfl ?_
    refine zb_iload_n d_Mo_many_12 rfl rfl ?_
    refine zb_iload_n d_Mo_many_13 rfl rfl ?_
    refine zb_iadd d_Mo_many_14 ?_
    refine zb_top (y := nI (f + i)) (nI_add _ _) ?_
    refine zb_ialdN (q := q) (j := (f + i)) d_Mo_many_15 (hq) (by omega) ?_
    refine zb_if_eq (tgt := 22) d_Mo_many_16 rfl (fun h16 => ?_) (fun h16 => ?_)
    · refine zb_iinc (v := nI (i + 1)) (lv' := [(3, .int (nI (i + 1))), (2, .int (nI (zct (fun t => σ.1 q (f + t)) i))), (0, .ref (zad G q)), (1, .int (nI f))]) d_Mo_many_22 rfl (nI_1 i) (by decide) rfl ?_
      refine zb_goto (tgt := 4) d_Mo_many_25 rfl ?_
      have e : zct (fun t => σ.1 q (f + t)) (i + 1) = zct (fun t => σ.1 q (f + t)) i := if_pos h16
      refine zb_sub [0, 1, 2, 3] rfl ?_
      have hh := ih (i + 1) (by omega)
      rw [e] at hh
      exact hh
    · refine zb_iinc (v := nI (zct (fun t => σ.1 q (f + t)) i + 1)) (lv' := [(2, .int (nI (zct (fun t => σ.1 q (f + t)) i + 1))), (3, .int (nI i)), (0, .ref (zad G q)), (1, .int (nI f))]) d_Mo_many_19 rfl (nI_1 _) (by decide) rfl ?_
      refine zb_iinc (v := nI (i + 1)) (lv' := [(3, .int (nI (i + 1))), (2, .int (nI (zct (fun t => σ.1 q (f + t)) i + 1))), (0, .ref (zad G q)), (1, .int (nI f))]) d_Mo_many_22 rfl (nI_1 i) (by decide) rfl ?_
      refine zb_goto (tgt := 4) d_Mo_many_25 rfl ?_
      have e : zct (fun t => σ.1 q (f + t)) (i + 1) = zct (fun t => σ.1 q (f + t)) i + 1 := if_neg h16
      refine zb_sub [0, 1, 2, 3] rfl ?_
      have hh := ih (i + 1) (by omega)
      rw [e] at hh
      exact hh
set_option maxHeartbeats 4000000 in
set_option maxRecDepth 100000 in
/-- many(of, from) -/
theorem c_many (l : Launch) (G : zG) {σ : zS} {q f : Nat} (hq : zia q) (hf : f + 4096 ≤ zn q) : zC l G y_Mo_many w_Mo_many (zrm 0 0) 0 0 [.ref (zad G q), .int (nI f)] σ (fun v σ' => v = some (.int (nI (zct (fun t => σ.1 q (f + t)) 4096))) ∧ σ = σ') := by
  refine zC_of (cc := c_Mo_many) (nL := 4) (ret := (some .int)) (own := R_Mo) (by decide +kernel) rfl rfl (Nat.le_of_ble_eq_true rfl) ?_
  refine zb_lv (lv' := [(0, .ref (zad G q)), (1, .int (nI f))]) rfl ?_
  refine zb_iconst (v := 0) d_Mo_many_0 rfl ?_
  refine zb_istore_n (lv' := [(2, .int 0), (0, .ref (zad G q)), (1, .int (nI f))]) d_Mo_many_1 rfl (by decide) rfl ?_
  refine zb_iconst (v := 0) d_Mo_many_2 rfl ?_
  refine zb_istore_n (lv' := [(3, .int 0), (2, .int 0), (0, .ref (zad G q)), (1, .int (nI f))]) d_Mo_many_3 rfl (by decide) rfl ?_
  refine zb_lv (lv' := [(3, .int (nI 0)), (2, .int (nI 0)), (0, .ref (zad G q)), (1, .int (nI f))]) rfl ?_
  exact lp_many l G hq hf 4096 0 rfl
set_option maxHeartbeats 4000000 in
set_option maxRecDepth 100000 in
theorem c_in (l : Launch) (G : zG) {σ : zS} {r : Nat} {M : Nat → Nat → Int32} {w : Nat → Nat} (hm : zmw σ M w) (hr : r < 8) : zC l G y_Mo_in w_Mo_in (zrm 1 24) 0 0 [.ref (zad G 30), .int (nI r)] σ (fun v σ' => v = some (.int (nI (zct (M r) 4096))) ∧ σ = σ') := by
  refine zC_of (cc := c_Mo_in) (nL := 2) (ret := (some .int)) (own := R_Mo) (by decide +kernel) rfl rfl (Nat.le_of_ble_eq_true rfl) ?_
  refine zb_lv (lv' := [(0, .ref (zad G 30)), (1, .int (nI r))]) rfl ?_
  refine zb_aload_n d_Mo_in_0 rfl rfl ?_
  refine zm_counts d_Mo_in_1 fl_Mo_18 ?_
  refine zb_sipush (v := 4096) d_Mo_in_4 rfl ?_
  refine zb_iload_n d_Mo_in_7 rfl rfl ?_
  refine zb_imul d_Mo_in_8 ?_
  refine zb_top (y := nI (4096 * r)) (pk_mul 4096 r) ?_
  refine zb_callS (rest := []) (c_many l G (q := 32) (f := 4096 * r) ia32 (show 4096 * r + 4096 ≤ 32768 by omega)) (lk_Mo_32.cw rfl rfl ⟨Nat.le_of_ble_eq_true rfl, Nat.le_of_ble_eq_true rfl⟩) rfl rfl (Nat.le_of_ble_eq_true rfl) d_Mo_in_9 ⟨Nat.le_of_ble_eq_true rfl, Nat.le_of_ble_eq_true rfl⟩ ?_
  rintro _ _ ⟨rfl, rfl⟩
  refine zb_st (st' := [.int (nI (zct (fun t => σ.1 32 (4096 * r + t)) 4096))]) rfl ?_
  refine zb_top (y := nI (zct (M r) 4096)) (by rw [zct_congr 4096 (fun t ht => hm.2 r t hr ht)]) ?_
  exact zb_iret d_Mo_in_12 rfl ⟨rfl, rfl⟩
set_option maxHeartbeats 4000000 in
set_option maxRecDepth 100000 in
theorem c_of (l : Launch) (G : zG) {σ : zS} {r t : Nat} {M : Nat → Nat → Int32} {w : Nat → Nat} (hm : zmw σ M w) (hr : r < 8) (ht : t < 4096) : zC l G y_Mo_of w_Mo_of (zrm 0 0) 0 0 [.ref (zad G 30), .int (nI r), .int (nI t)] σ (fun v σ' => v = some (.int (M r t)) ∧ σ = σ') := by
  refine zC_of (cc := c_Mo_of) (nL := 3) (ret := (some .int)) (own := R_Mo) (by decide +kernel) rfl rfl (Nat.le_of_ble_eq_true rfl) ?_
  refine zb_lv (lv' := [(0, .ref (zad G 30)), (1, .int (nI r)), (2, .int (nI t))]) rfl ?_
  refine zb_aload_n d_Mo_of_0 rfl rfl ?_
  refine zm_counts d_Mo_of_1 fl_Mo_18 ?_
  refine zb_sipush (v := 4096) d_Mo_of_4 rfl ?_
  refine zb_iload_n d_Mo_of_7 rfl rfl ?_
  refine zb_imul d_Mo_of_8 ?_
  refine zb_top (y := nI (4096 * r)) (pk_mul 4096 r) ?_
  refine zb_iload_n d_Mo_of_9 rfl rfl ?_
  refine zb_iadd d_Mo_of_10 ?_
  refine zb_top (y := nI (4096 * r + t)) (nI_add _ _) ?_
  refine zb_ialdN (q := 32) (j := (4096 * r + t)) d_Mo_of_11 (ia32) (show 4096 * r + t < 32768 by omega) ?_
  refine zb_top (y := M r t) (hm.2 r t hr ht) ?_
  exact zb_iret d_Mo_of_12 rfl ⟨rfl, rfl⟩
def pcs (k : Nat) : Nat → Nat
  | 0 => 0
  | i + 1 => pcs k i + k / 2 ^ i % 2
theorem pcs_16 (k : Nat) : pcs k 16 = pc16 k := by simp only [pcs, pc16, Nat.pow_zero, Nat.div_one, Nat.zero_add, Nat.reducePow]
set_option maxHeartbeats 4000000 in
set_option maxRecDepth 100000 in
theorem lp_bits (l : Launch) (G : zG) {σ : zS} {k : Nat} (hk : k < 65536) : ∀ d i : Nat, i + d = 16 → zB l G w_Mo_bits R_Mo c_Mo_bits 3 (some .int) [] (zrm 0 0) (zR G (fun v σ' => v = some (.int (nI (pc16 k))) ∧ σ = σ') 0 0) 0 0 4 [(2, .int (nI i)), (1, .int (nI (pcs k i))), (0, .int (nI k))] [] σ := by
  intro d
  induction d with
  | zero =>
    intro i hi
    have e : i = 16 := by omega
    refine zb_iload_n d_Mo_bits_4 rfl rfl ?_
    refine zb_bipush (v := 16) d_Mo_bits_5 rfl ?_
    refine zb_icmp_ge (tgt := 24) d_Mo_bits_7 rfl (fun h7 => ?_) (fun h7 => absurd (nI_le (a := 16) (b := i) (by omega) (by omega)) h7)
    refine zb_iload_n d_Mo_bits_24 rfl rfl ?_
    exact zb_iret d_Mo_bits_25 rfl ⟨by rw [e, pcs_16], rfl⟩
  | succ d ih =>
    intro i hi
    have hlt : i < 16 := by omega
    refine zb_iload_n d_Mo_bits_4 rfl rfl ?_
    refine zb_bipush (v := 16) d_Mo_bits_5 rfl ?_
    refine zb_icmp_ge (tgt := 24) d_Mo_bits_7 rfl (fun h7 => absurd h7 (nI_ge (a := i) (b := 16) (by omega) (by omega))) (fun h7 => ?_)
    refine zb_iload_n d_Mo_bits_10 rfl rfl ?_
    refine zb_iload_n d_Mo_bits_11 rfl rfl ?_
    refine zb_iload_n d_Mo_bits_12 rfl rfl ?_
    refine zb_ishr d_Mo_bits_13 ?_
    refine zb_top (y := nI (k / 2 ^ i)) (sh_r (by omega) (by omega)) ?_
    refine zb_iconst (v := 1) d_Mo_bits_14 rfl ?_
    refine zb_iand d_Mo_bits_15 ?_
    refine zb_top (y := nI (k / 2 ^ i % 2)) (pk_andN (Nat.lt_of_le_of_lt (Nat.div_le_self _ _) (by omega)) 1 rfl) ?_
    refine zb_iadd d_Mo_bits_16 ?_
    refine zb_top (y := nI (pcs k i + k / 2 ^ i % 2)) (nI_add _ _) ?_
    refine zb_istore_n (lv' := [(1, .int (nI (pcs k i + k / 2 ^ i % 2))), (2, .int (nI i)), (0, .int (nI k))]) d_Mo_bits_17 rfl (by decide) rfl ?_
    refine zb_iinc (v := nI (i + 1)) (lv' := [(2, .int (nI (i + 1))), (1, .int (nI (pcs k i + k / 2 ^ i % 2))), (0, .int (nI k))]) d_Mo_bits_18 rfl (nI_1 i) (by decide) rfl ?_
    refine zb_goto (tgt := 4) d_Mo_bits_21 rfl ?_
    refine zb_sub [0, 1, 2] rfl ?_
    exact ih (i + 1) (by omega)
set_option maxHeartbeats 4000000 in
set_option maxRecDepth 100000 in
/-- bits(set) -/
theorem c_bits (l : Launch) (G : zG) {σ : zS} {k : Nat} (hk : k < 65536) : zC l G y_Mo_bits w_Mo_bits (zrm 0 0) 0 0 [.int (nI k)] σ (fun v σ' => v = some (.int (nI (pc16 k))) ∧ σ = σ') := by
  refine zC_of (cc := c_Mo_bits) (nL := 3) (ret := (some .int)) (own := R_Mo) (by decide +kernel) rfl rfl (Nat.le_of_ble_eq_true rfl) ?_
  refine zb_lv (lv' := [(0, .int (nI k))]) rfl ?_
  refine zb_iconst (v := 0) d_Mo_bits_0 rfl ?_
  refine zb_istore_n (lv' := [(1, .int 0), (0, .int (nI k))]) d_Mo_bits_1 rfl (by decide) rfl ?_
  refine zb_iconst (v := 0) d_Mo_bits_2 rfl ?_
  refine zb_istore_n (lv' := [(2, .int 0), (1, .int 0), (0, .int (nI k))]) d_Mo_bits_3 rfl (by decide) rfl ?_
  refine zb_lv (lv' := [(2, .int (nI 0)), (1, .int (nI 0)), (0, .int (nI k))]) rfl ?_
  exact lp_bits l G hk 16 0 rfl
set_option maxHeartbeats 4000000 in
set_option maxRecDepth 100000 in
theorem c_mT_y (l : Launch) (G : zG) {σ : zS} {t u : Nat} (h1 : 1 ≤ u) (h3 : u ≤ 3) (ht : t < 4096) (hd : t % 2 ^ (12 - 4 * u) = 0) : zC l G y_Mo_isTuple w_Mo_isTuple (zrm 0 0) 0 0 [.int (nI t), .int (nI u)] σ (fun v σ' => v = some (.int 1) ∧ σ = σ') := by
  refine zC_of (cc := c_Mo_isTuple) (nL := 2) (ret := (some .boolean)) (own := R_Mo) (by decide +kernel) rfl rfl (Nat.le_of_ble_eq_true rfl) ?_
  refine zb_lv (lv' := [(0, .int (nI t)), (1, .int (nI u))]) rfl ?_
  refine zb_iload_n d_Mo_isTuple_0 rfl rfl ?_
  refine zb_if_lt (tgt := 42) d_Mo_isTuple_1 rfl (fun h1 => absurd h1 (nI_pos (by omega))) (fun h1 => ?_)
  refine zb_iload_n d_Mo_isTuple_4 rfl rfl ?_
  refine zb_sipush (v := 4096) d_Mo_isTuple_5 rfl ?_
  refine zb_icmp_ge (tgt := 42) d_Mo_isTuple_8 rfl (fun h8 => absurd h8 (nI_ge (b := 4096) ht (by decide))) (fun h8 => ?_)
  rcases (show u = 1 ∨ u = 2 ∨ u = 3 by omega) with rfl | rfl | rfl
  · refine zb_lv (lv' := [(0, .int (nI t)), (1, .int (nI 1))]) rfl ?_
    refine zb_iload_n d_Mo_isTuple_11 rfl rfl ?_
    refine zb_iload_n d_Mo_isTuple_12 rfl rfl ?_
    refine zb_iconst (v := 1) d_Mo_isTuple_13 rfl ?_
    refine zb_icmp_ne (tgt := 23) d_Mo_isTuple_14 rfl (fun h14 => absurd h14 (by decide)) (fun h14 => ?_)
    refine zb_sipush (v := 256) d_Mo_isTuple_17 rfl ?_
    refine zb_goto (tgt := 34) d_Mo_isTuple_20 rfl ?_
    refine zb_irem d_Mo_isTuple_34 (by decide) ?_
    refine zb_top (y := nI (t % 256)) (pk_rem (d := 256) (by omega) (by decide) (by decide)) ?_
    refine zb_if_ne (tgt := 42) d_Mo_isTuple_35 rfl (fun h35 => absurd h35 (fun z => z (by rw [show t % 256 = 0 from hd]; rfl))) (fun h35 => ?_)
    refine zb_iconst (v := 1) d_Mo_isTuple_38 rfl ?_
    refine zb_goto (tgt := 43) d_Mo_isTuple_39 rfl ?_
    exact zb_zret d_Mo_isTuple_43 rfl rfl ⟨rfl, rfl⟩
  · refine zb_lv (lv' := [(0, .int (nI t)), (1, .int (nI 2))]) rfl ?_
    refine zb_iload_n d_Mo_isTuple_11 rfl rfl ?_
    refine zb_iload_n d_Mo_isTuple_12 rfl rfl ?_
    refine zb_iconst (v := 1) d_Mo_isTuple_13 rfl ?_
    refine zb_icmp_ne (tgt := 23) d_Mo_isTuple_14 rfl (fun h14 => ?_) (fun h14 => absurd h14 (by decide))
    refine zb_iload_n d_Mo_isTuple_23 rfl rfl ?_
    refine zb_iconst (v := 2) d_Mo_isTuple_24 rfl ?_
    refine zb_icmp_ne (tgt := 33) d_Mo_isTuple_25 rfl (fun h25 => absurd h25 (by decide)) (fun h25 => ?_)
    refine zb_bipush (v := 16) d_Mo_isTuple_28 rfl ?_
    refine zb_goto (tgt := 34) d_Mo_isTuple_30 rfl ?_
    refine zb_irem d_Mo_isTuple_34 (by decide) ?_
    refine zb_top (y := nI (t % 16)) (pk_rem (d := 16) (by omega) (by decide) (by decide)) ?_
    refine zb_if_ne (tgt := 42) d_Mo_isTuple_35 rfl (fun h35 => absurd h35 (fun z => z (by rw [show t % 16 = 0 from hd]; rfl))) (fun h35 => ?_)
    refine zb_iconst (v := 1) d_Mo_isTuple_38 rfl ?_
    refine zb_goto (tgt := 43) d_Mo_isTuple_39 rfl ?_
    exact zb_zret d_Mo_isTuple_43 rfl rfl ⟨rfl, rfl⟩
  · refine zb_lv (lv' := [(0, .int (nI t)), (1, .int (nI 3))]) rfl ?_
    refine zb_iload_n d_Mo_isTuple_11 rfl rfl ?_
    refine zb_iload_n d_Mo_isTuple_12 rfl rfl ?_
    refine zb_iconst (v := 1) d_Mo_isTuple_13 rfl ?_
    refine zb_icmp_ne (tgt := 23) d_Mo_isTuple_14 rfl (fun h14 => ?_) (fun h14 => absurd h14 (by decide))
    refine zb_iload_n d_Mo_isTuple_23 rfl rfl ?_
    refine zb_iconst (v := 2) d_Mo_isTuple_24 rfl ?_
    refine zb_icmp_ne (tgt := 33) d_Mo_isTuple_25 rfl (fun h25 => ?_) (fun h25 => absurd h25 (by decide))
    refine zb_iconst (v := 1) d_Mo_isTuple_33 rfl ?_
    refine zb_irem d_Mo_isTuple_34 (by decide) ?_
    refine zb_top (y := nI (t % 1)) (pk_rem (d := 1) (by omega) (by decide) (by decide)) ?_
    refine zb_if_ne (tgt := 42) d_Mo_isTuple_35 rfl (fun h35 => absurd h35 (fun z => z (by rw [show t % 1 = 0 from hd]; rfl))) (fun h35 => ?_)
    refine zb_iconst (v := 1) d_Mo_isTuple_38 rfl ?_
    refine zb_goto (tgt := 43) d_Mo_isTuple_39 rfl ?_
    exact zb_zret d_Mo_isTuple_43 rfl rfl ⟨rfl, rfl⟩
set_option maxHeartbeats 4000000 in
set_option maxRecDepth 100000 in
theorem c_mT_d (l : Launch) (G : zG) {σ : zS} {t u : Nat} (h1 : 1 ≤ u) (h3 : u ≤ 3) (ht : t < 4096) (hd : ¬ t % 2 ^ (12 - 4 * u) = 0) : zC l G y_Mo_isTuple w_Mo_isTuple (zrm 0 0) 0 0 [.int (nI t), .int (nI u)] σ (fun v σ' => v = some (.int 0) ∧ σ = σ') := by
  refine zC_of (cc := c_Mo_isTuple) (nL := 2) (ret := (some .boolean)) (own := R_Mo) (by decide +kernel) rfl rfl (Nat.le_of_ble_eq_true rfl) ?_
  refine zb_lv (lv' := [(0, .int (nI t)), (1, .int (nI u))]) rfl ?_
  refine zb_iload_n d_Mo_isTuple_0 rfl rfl ?_
  refine zb_if_lt (tgt := 42) d_Mo_isTuple_1 rfl (fun h1 => absurd h1 (nI_pos (by omega))) (fun h1 => ?_)
  refine zb_iload_n d_Mo_isTuple_4 rfl rfl ?_
  refine zb_sipush (v := 4096) d_Mo_isTuple_5 rfl ?_
  refine zb_icmp_ge (tgt := 42) d_Mo_isTuple_8 rfl (fun h8 => absurd h8 (nI_ge (b := 4096) ht (by decide))) (fun h8 => ?_)
  rcases (show u = 1 ∨ u = 2 ∨ u = 3 by omega) with rfl | rfl | rfl
  · refine zb_lv (lv' := [(0, .int (nI t)), (1, .int (nI 1))]) rfl ?_
    refine zb_iload_n d_Mo_isTuple_11 rfl rfl ?_
    refine zb_iload_n d_Mo_isTuple_12 rfl rfl ?_
    refine zb_iconst (v := 1) d_Mo_isTuple_13 rfl ?_
    refine zb_icmp_ne (tgt := 23) d_Mo_isTuple_14 rfl (fun h14 => absurd h14 (by decide)) (fun h14 => ?_)
    refine zb_sipush (v := 256) d_Mo_isTuple_17 rfl ?_
    refine zb_goto (tgt := 34) d_Mo_isTuple_20 rfl ?_
    refine zb_irem d_Mo_isTuple_34 (by decide) ?_
    refine zb_top (y := nI (t % 256)) (pk_rem (d := 256) (by omega) (by decide) (by decide)) ?_
    refine zb_if_ne (tgt := 42) d_Mo_isTuple_35 rfl (fun h35 => ?_) (fun h35 => absurd h35 (nI_ne0 (Nat.pos_of_ne_zero hd) (by have := Nat.mod_lt t (show 0 < 256 by decide); omega)))
    refine zb_iconst (v := 0) d_Mo_isTuple_42 rfl ?_
    exact zb_zret d_Mo_isTuple_43 rfl rfl ⟨rfl, rfl⟩
  · refine zb_lv (lv' := [(0, .int (nI t)), (1, .int (nI 2))]) rfl ?_
    refine zb_iload_n d_Mo_isTuple_11 rfl rfl ?_
    refine zb_iload_n d_Mo_isTuple_12 rfl rfl ?_
    refine zb_iconst (v := 1) d_Mo_isTuple_13 rfl ?_
    refine zb_icmp_ne (tgt := 23) d_Mo_isTuple_14 rfl (fun h14 => ?_) (fun h14 => absurd h14 (by decide))
    refine zb_iload_n d_Mo_isTuple_23 rfl rfl ?_
    refine zb_iconst (v := 2) d_Mo_isTuple_24 rfl ?_
    refine zb_icmp_ne (tgt := 33) d_Mo_isTuple_25 rfl (fun h25 => absurd h25 (by decide)) (fun h25 => ?_)
    refine zb_bipush (v := 16) d_Mo_isTuple_28 rfl ?_
    refine zb_goto (tgt := 34) d_Mo_isTuple_30 rfl ?_
    refine zb_irem d_Mo_isTuple_34 (by decide) ?_
    refine zb_top (y := nI (t % 16)) (pk_rem (d := 16) (by omega) (by decide) (by decide)) ?_
    refine zb_if_ne (tgt := 42) d_Mo_isTuple_35 rfl (fun h35 => ?_) (fun h35 => absurd h35 (nI_ne0 (Nat.pos_of_ne_zero hd) (by have := Nat.mod_lt t (show 0 < 16 by decide); omega)))
    refine zb_iconst (v := 0) d_Mo_isTuple_42 rfl ?_
    exact zb_zret d_Mo_isTuple_43 rfl rfl ⟨rfl, rfl⟩
  · refine zb_lv (lv' := [(0, .int (nI t)), (1, .int (nI 3))]) rfl ?_
    refine zb_iload_n d_Mo_isTuple_11 rfl rfl ?_
    refine zb_iload_n d_Mo_isTuple_12 rfl rfl ?_
    refine zb_iconst (v := 1) d_Mo_isTuple_13 rfl ?_
    refine zb_icmp_ne (tgt := 23) d_Mo_isTuple_14 rfl (fun h14 => ?_) (fun h14 => absurd h14 (by decide))
    refine zb_iload_n d_Mo_isTuple_23 rfl rfl ?_
    refine zb_iconst (v := 2) d_Mo_isTuple_24 rfl ?_
    refine zb_icmp_ne (tgt := 33) d_Mo_isTuple_25 rfl (fun h25 => ?_) (fun h25 => absurd h25 (by decide))
    refine zb_iconst (v := 1) d_Mo_isTuple_33 rfl ?_
    refine zb_irem d_Mo_isTuple_34 (by decide) ?_
    refine zb_top (y := nI (t % 1)) (pk_rem (d := 1) (by omega) (by decide) (by decide)) ?_
    refine zb_if_ne (tgt := 42) d_Mo_isTuple_35 rfl (fun h35 => ?_) (fun h35 => absurd h35 (nI_ne0 (Nat.pos_of_ne_zero hd) (by have := Nat.mod_lt t (show 0 < 1 by decide); omega)))
    refine zb_iconst (v := 0) d_Mo_isTuple_42 rfl ?_
    exact zb_zret d_Mo_isTuple_43 rfl rfl ⟨rfl, rfl⟩
set_option maxHeartbeats 4000000 in
set_option maxRecDepth 100000 in
theorem c_mT_o (l : Launch) (G : zG) {σ : zS} {t : Int32} {u : Nat} (hb : ¬ t < 0 → 4096 ≤ t) : zC l G y_Mo_isTuple w_Mo_isTuple (zrm 0 0) 0 0 [.int t, .int (nI u)] σ (fun v σ' => v = some (.int 0) ∧ σ = σ') := by
  refine zC_of (cc := c_Mo_isTuple) (nL := 2) (ret := (some .boolean)) (own := R_Mo) (by decide +kernel) rfl rfl (Nat.le_of_ble_eq_true rfl) ?_
  refine zb_lv (lv' := [(0, .int t), (1, .int (nI u))]) rfl ?_
  refine zb_iload_n d_Mo_isTuple_0 rfl rfl ?_
  refine zb_if_lt (tgt := 42) d_Mo_isTuple_1 rfl (fun h1 => ?_) (fun h1 => ?_)
  · refine zb_iconst (v := 0) d_Mo_isTuple_42 rfl ?_
    exact zb_zret d_Mo_isTuple_43 rfl rfl ⟨rfl, rfl⟩
  · refine zb_iload_n d_Mo_isTuple_4 rfl rfl ?_
    refine zb_sipush (v := 4096) d_Mo_isTuple_5 rfl ?_
    refine zb_icmp_ge (tgt := 42) d_Mo_isTuple_8 rfl (fun h8 => ?_) (fun h8 => absurd (hb h1) h8)
    refine zb_iconst (v := 0) d_Mo_isTuple_42 rfl ?_
    exact zb_zret d_Mo_isTuple_43 rfl rfl ⟨rfl, rfl⟩
theorem c_mT_n (l : Launch) (G : zG) {σ : zS} {t : Int32} {u : Nat} (h1 : 1 ≤ u) (h3 : u ≤ 3) (h : ¬ ztp t u) : zC l G y_Mo_isTuple w_Mo_isTuple (zrm 0 0) 0 0 [.int t, .int (nI u)] σ (fun v σ' => v = some (.int 0) ∧ σ = σ') := by
  by_cases h0 : t < 0
  · exact c_mT_o l G (fun z => absurd h0 z)
  · obtain ⟨j, hj, rfl⟩ := nI_of h0
    by_cases h4 : j < 4096
    · exact c_mT_d l G h1 h3 h4 (fun z => h ⟨j, h4, rfl, z⟩)
    · exact c_mT_o l G (fun _ => nI_le (a := 4096) (by omega) hj)
set_option maxHeartbeats 4000000 in
set_option maxRecDepth 100000 in
theorem c_number (l : Launch) (G : zG) {σ : zS} {t p : Nat} (ht : t < 4096) (hp : p < 3) : zC l G y_Mo_number w_Mo_number (zrm 0 0) 0 0 [.int (nI t), .int (nI p)] σ (fun v σ' => v = some (.int (nI (nu t p))) ∧ σ = σ') := by
  refine zC_of (cc := c_Mo_number) (nL := 2) (ret := (some .int)) (own := R_Mo) (by decide +kernel) rfl rfl (Nat.le_of_ble_eq_true rfl) ?_
  refine zb_lv (lv' := [(0, .int (nI t)), (1, .int (nI p))]) rfl ?_
  refine zb_iload_n d_Mo_number_0 rfl rfl ?_
  refine zb_bipush (v := 8) d_Mo_number_1 rfl ?_
  refine zb_iconst (v := 4) d_Mo_number_3 rfl ?_
  refine zb_iload_n d_Mo_number_4 rfl rfl ?_
  refine zb_imul d_Mo_number_5 ?_
  refine zb_top (y := nI (4 * p)) (pk_mul 4 p) ?_
  refine zb_isub d_Mo_number_6 ?_
  refine zb_top (y := nI (8 - 4 * p)) (pk_sub (a := 8) (by omega)) ?_
  refine zb_ishr d_Mo_number_7 ?_
  refine zb_top (y := nI (t / 2 ^ (8 - 4 * p))) (sh_r (by omega) (by omega)) ?_
  refine zb_bipush (v := 15) d_Mo_number_8 rfl ?_
  refine zb_iand d_Mo_number_10 ?_
  refine zb_top (y := nI (nu t p)) ((pk_andN (Nat.lt_of_le_of_lt (Nat.div_le_self _ _) (by omega)) 4 rfl).trans (by unfold nu; rw [show 12 - 4 * (p + 1) = 8 - 4 * p by omega])) ?_
  exact zb_iret d_Mo_number_11 rfl ⟨rfl, rfl⟩
end
section
/-- made stands for m; only made has changed -/
def zo (σ σ' : zS) (m : Nat → Int32) : Prop := (∀ t, t < 4096 → σ'.1 33 t = m t) ∧ (∀ q, q ≠ 33 → σ'.1 q = σ.1 q) ∧ σ'.2 = σ.2
/-- i counts of relation r are those of D -/
def zc (σ τ : zS) (r i : Nat) (D : Nat → Int32) : Prop := (∀ t, t < i → τ.1 32 (4096 * r + t) = D t) ∧ (∀ j, (j < 4096 * r ∨ 4096 * r + i ≤ j) → τ.1 32 j = σ.1 32 j) ∧ (∀ q, q ≠ 32 → τ.1 q = σ.1 q) ∧ τ.2 = σ.2
theorem zc_0 (σ : zS) (r : Nat) (D : Nat → Int32) : zc σ σ r 0 D := ⟨fun t h => absurd h (Nat.not_lt_zero t), fun _ _ => rfl, fun _ _ => rfl, rfl⟩
theorem zc_s {σ τ : zS} {r i : Nat} {D : Nat → Int32} (h : zc σ τ r i D) : zc σ (zu τ 32 (upd (τ.1 32) (4096 * r + i) (D i))) r (i + 1) D := by
  refine ⟨fun t ht => ?_, fun j hj => ?_, fun q hq => (zu_ne τ _ hq).trans (h.2.2.1 q hq), h.2.2.2⟩
  · rw [zu_self]
    by_cases e : t = i
    · rw [e, pk_us]
    · rw [pk_un (by omega)]; exact h.1 t (by omega)
  · rw [zu_self, pk_un (by omega)]
    exact h.2.1 j (by omega)
theorem zc_mw {σ τ : zS} {r u : Nat} {D : Nat → Int32} {M : Nat → Nat → Int32} {w : Nat → Nat} (hm : zmw σ M w) (h : zc (zu σ 31 (upd (σ.1 31) r (nI u))) τ r 4096 D) : zmw τ (uM M r D) (uM w r u) := by
  refine ⟨fun k hk => ?_, fun k t hk ht => ?_⟩
  · rw [h.2.2.1 31 (by decide), zu_self]
    by_cases e : k = r
    · rw [e, pk_us, uM_s]
    · rw [pk_un e, uM_n _ _ e]; exact hm.1 k hk
  · by_cases e : k = r
    · rw [e, uM_s]; exact h.1 t ht
    · rw [uM_n _ _ e, h.2.1 _ (by omega), zu_ne σ _ (by decide)]
      exact hm.2 k t hk ht
theorem zc_j {σ τ : zS} {r i : Nat} {x : Int32} {D : Nat → Int32} (h : zc (zu σ 31 (upd (σ.1 31) r x)) τ r i D) : zj σ τ ∧ τ.1 30 = σ.1 30 := ⟨⟨fun q hq => (h.2.2.1 q (by omega)).trans (zu_ne σ _ (by omega)), h.2.2.2⟩, (h.2.2.1 30 (by decide)).trans (zu_ne σ _ (by decide))⟩
set_option maxHeartbeats 4000000 in
set_option maxRecDepth 100000 in
theorem lp_begin (l : Launch) (G : zG) {σ : zS} : ∀ (d i : Nat) (τ : zS), i + d = 4096 → (∀ t, t < i → τ.1 33 t = 0) → ((∀ q, q ≠ 33 → τ.1 q = σ.1 q) ∧ τ.2 = σ.2) → zB l G w_Mo_begin R_Mo c_Mo_begin 2 none [] (zrm 0 0) (zR G (fun v σ' => v = none ∧ zo σ σ' (fun _ => 0)) 0 0) 0 0 2 [(1, .int (nI i)), (0, .ref (zad G 30))] [] τ := by
  intro d
  induction d with
  | zero =>
    intro i τ hi h0 hf
    have e : i = 4096 := by omega
    refine zb_iload_n d_Mo_begin_2 rfl rfl ?_
    refine zb_sipush (v := 4096) d_Mo_begin_3 rfl ?_
    refine zb_icmp_ge (tgt := 22) d_Mo_begin_6 rfl (fun h6 => ?_) (fun h6 => absurd (nI_le (a := 4096) (b := i) (by omega) (by omega)) h6)
    exact zb_vret d_Mo_begin_22 rfl ⟨rfl, fun t ht => h0 t (by omega), hf⟩
  | succ d ih =>
    intro i τ hi h0 hf
    have hlt : i < 4096 := by omega
    refine zb_iload_n d_Mo_begin_2 rfl rfl ?_
    refine zb_sipush (v := 4096) d_Mo_begin_3 rfl ?_
    refine zb_icmp_ge (tgt := 22) d_Mo_begin_6 rfl (fun h6 => absurd h6 (nI_ge (a := i) (b := 4096) (by omega) (by omega))) (fun h6 => ?_)
    refine zb_aload_n d_Mo_begin_9 rfl rfl ?_
    refine zm_made d_Mo_begin_10 fl_Mo_21 ?_
    refine zb_iload_n d_Mo_begin_13 rfl rfl ?_
    refine zb_iconst (v := 0) d_Mo_begin_14 rfl ?_
    refine zb_iastN (q := 33) (j := i) d_Mo_begin_15 (ia33) (show i < 4096 from hlt) ?_
    refine zb_iinc (v := nI (i + 1)) (lv' := [(1, .int (nI (i + 1))), (0, .ref (zad G 30))]) d_Mo_begin_16 rfl (nI_1 i) (by decide) rfl ?_
    refine zb_goto (tgt := 2) d_Mo_begin_19 rfl ?_
    refine zb_sub [0, 1] rfl ?_
    exact ih (i + 1) _ (by omega) (fun t ht => by
      rw [zu_self]
      by_cases e : t = i
      · rw [e, pk_us]
      · rw [pk_un e]; exact h0 t (by omega)) ⟨fun q hq => (zu_ne τ _ hq).trans (hf.1 q hq), hf.2⟩
set_option maxHeartbeats 4000000 in
set_option maxRecDepth 100000 in
/-- begin() -/
theorem c_begin (l : Launch) (G : zG) {σ : zS}  : zC l G y_Mo_begin w_Mo_begin (zrm 0 0) 0 0 [.ref (zad G 30)] σ (fun v σ' => v = none ∧ zo σ σ' (fun _ => 0)) := by
  refine zC_of (cc := c_Mo_begin) (nL := 2) (ret := none) (own := R_Mo) (by decide +kernel) rfl rfl (Nat.le_of_ble_eq_true rfl) ?_
  refine zb_lv (lv' := [(0, .ref (zad G 30))]) rfl ?_
  refine zb_iconst (v := 0) d_Mo_begin_0 rfl ?_
  refine zb_istore_n (lv' := [(1, .int 0), (0, .ref (zad G 30))]) d_Mo_begin_1 rfl (by decide) rfl ?_
  refine zb_lv (lv' := [(1, .int (nI 0)), (0, .ref (zad G 30))]) rfl ?_
  exact lp_begin l G 4096 0 σ rfl (fun t ht => absurd ht (Nat.not_lt_zero t)) ⟨fun _ _ => rfl, rfl⟩
set_option maxHeartbeats 4000000 in
set_option maxRecDepth 100000 in
theorem lp_keep (l : Launch) (G : zG) {σ : zS} {r : Nat} {n u k : Int32} {D : Nat → Int32} {Fin : List Frame → Array Value → State → State → Prop} (hr : r < 8) (hD : ∀ t, t < 4096 → σ.1 33 t = D t) (K : ∀ τ : zS, zc σ τ r 4096 D → zB l G w_Mo_keep R_Mo c_Mo_keep 6 (some .int) [] (zrm 1 24) Fin 0 0 77 [(5, .int (nI 4096)), (4, .int n), (0, .ref (zad G 30)), (1, .int (nI r)), (2, .int u), (3, .int k)] [] τ) : ∀ (d i : Nat) (τ : zS), i + d = 4096 → zc σ τ r i D → zB l G w_Mo_keep R_Mo c_Mo_keep 6 (some .int) [] (zrm 1 24) Fin 0 0 43 [(5, .int (nI i)), (4, .int n), (0, .ref (zad G 30)), (1, .int (nI r)), (2, .int u), (3, .int k)] [] τ := by
  intro d
  induction d with
  | zero =>
    intro i τ hi hc
    have e : i = 4096 := by omega
    refine zb_iload d_Mo_keep_43 rfl ?_
    refine zb_sipush (v := 4096) d_Mo_keep_45 rfl ?_
    refine zb_icmp_ge (tgt := 77) d_Mo_keep_48 rfl (fun h48 => ?_) (fun h48 => absurd (nI_le (a := 4096) (b := i) (by omega) (by omega)) h48)
    refine zb_sub [0, 1, 2, 3, 4, 5] rfl ?_
    rw [e] at hc ⊢
    exact K τ hc
  | succ d ih =>
    intro i τ hi hc
    have hlt : i < 4096 := by omega
    refine zb_iload d_Mo_keep_43 rfl ?_
    refine zb_sipush (v := 4096) d_Mo_keep_45 rfl ?_
    refine zb_icmp_ge (tgt := 77) d_Mo_keep_48 rfl (fun h48 => absurd h48 (nI_ge (a := i) (b := 4096) (by omega) (by omega))) (fun h48 => ?_)
    refine zb_aload_n d_Mo_keep_51 rfl rfl ?_
    refine zm_counts d_Mo_keep_52 fl_Mo_18 ?_
    refine zb_sipush (v := 4096) d_Mo_keep_55 rfl ?_
    refine zb_iload_n d_Mo_keep_58 rfl rfl ?_
    refine zb_imul d_Mo_keep_59 ?_
    refine zb_top (y := nI (4096 * r)) (pk_mul 4096 r) ?_
    refine zb_iload d_Mo_keep_60 rfl ?_
    refine zb_iadd d_Mo_keep_62 ?_
    refine zb_top (y := nI (4096 * r + i)) (nI_add _ _) ?_
    refine zb_aload_n d_Mo_keep_63 rfl rfl ?_
    refine zm_made d_Mo_keep_64 fl_Mo_21 ?_
    refine zb_iload d_Mo_keep_67 rfl ?_
    refine zb_ialdN (q := 33) (j := i) d_Mo_keep_69 (ia33) (show i < 4096 from hlt) ?_
    refine zb_top (y := D i) (by rw [hc.2.2.1 33 (by decide)]; exact hD i hlt) ?_
    refine zb_iastN (q := 32) (j := (4096 * r + i)) d_Mo_keep_70 (ia32) (show 4096 * r + i < 32768 by omega) ?_
    refine zb_iinc (v := nI (i + 1)) (lv' := [(5, .int (nI (i + 1))), (4, .int n), (0, .ref (zad G 30)), (1, .int (nI r)), (2, .int u), (3, .int k)]) d_Mo_keep_71 rfl (nI_1 i) (by decide) rfl ?_
    refine zb_goto (tgt := 43) d_Mo_keep_74 rfl ?_
    refine zb_sub [0, 1, 2, 3, 4, 5] rfl ?_
    exact ih (i + 1) _ (by omega) (zc_s hc)
set_option maxHeartbeats 4000000 in
set_option maxRecDepth 100000 in
/-- keep, where there is room -/
theorem c_keep_y (l : Launch) (G : zG) {σ : zS} {r u : Nat} {k : Int32} {D : Nat → Int32} {M : Nat → Nat → Int32} {w : Nat → Nat} (hm : zmw σ M w) (hr : r < 8) (hD : ∀ t, t < 4096 → σ.1 33 t = D t) (hn : zct D 4096 ≤ 300) : zC l G y_Mo_keep w_Mo_keep (zrm 1 24) 0 0 [.ref (zad G 30), .int (nI r), .int (nI u), .int k] σ (fun v σ' => v = some (.int (nI (zct D 4096))) ∧ zmw σ' (uM M r D) (uM w r u) ∧ zj σ σ' ∧ σ'.1 30 = σ.1 30) := by
  refine zC_of (cc := c_Mo_keep) (nL := 6) (ret := (some .int)) (own := R_Mo) (by decide +kernel) rfl rfl (Nat.le_of_ble_eq_true rfl) ?_
  refine zb_lv (lv' := [(0, .ref (zad G 30)), (1, .int (nI r)), (2, .int (nI u)), (3, .int k)]) rfl ?_
  refine zb_aload_n d_Mo_keep_0 rfl rfl ?_
  refine zm_made d_Mo_keep_1 fl_Mo_21 ?_
  refine zb_iconst (v := 0) d_Mo_keep_4 rfl ?_
  refine zb_callS (rest := []) (c_many l G (q := 33) (f := 0) ia33 (Nat.le_refl 4096)) (lk_Mo_32.cw rfl rfl ⟨Nat.le_of_ble_eq_true rfl, Nat.le_of_ble_eq_true rfl⟩) rfl rfl (Nat.le_of_ble_eq_true rfl) d_Mo_keep_5 ⟨Nat.le_of_ble_eq_true rfl, Nat.le_of_ble_eq_true rfl⟩ ?_
  rintro _ _ ⟨rfl, rfl⟩
  refine zb_st (st' := [.int (nI (zct (fun t => σ.1 33 (0 + t)) 4096))]) rfl ?_
  refine zb_top (y := nI (zct D 4096)) (congrArg nI (zct_congr (m' := D) 4096 (fun t ht => (congrArg (σ.1 33) (Nat.zero_add t)).trans (hD t ht)))) ?_
  refine zb_istore (lv' := [(4, .int (nI (zct D 4096))), (0, .ref (zad G 30)), (1, .int (nI r)), (2, .int (nI u)), (3, .int k)]) d_Mo_keep_8 (by decide) rfl ?_
  refine zb_aload_n d_Mo_keep_10 rfl rfl ?_
  refine zb_iload_n d_Mo_keep_11 rfl rfl ?_
  refine zb_iload d_Mo_keep_12 rfl ?_
  refine zb_sipush (v := 300) d_Mo_keep_14 rfl ?_
  refine zb_icmp_le (tgt := 24) d_Mo_keep_17 rfl (fun h17 => ?_) (fun h17 => absurd (nI_le (b := 300) hn (by decide)) h17)
  refine zb_iconst (v := 0) d_Mo_keep_24 rfl ?_
  refine zb_callV (rest := []) (c_refuse_n l G) (lk_Mo_28.cw rfl rfl ⟨Nat.le_of_ble_eq_true rfl, Nat.le_of_ble_eq_true rfl⟩) zgM rfl rfl rfl rfl (Nat.le_of_ble_eq_true rfl) d_Mo_keep_25 ⟨Nat.le_of_ble_eq_true rfl, Nat.le_of_ble_eq_true rfl⟩ ?_
  rintro _ _ ⟨rfl, rfl⟩
  refine zb_st (st' := [.int 0]) rfl ?_
  refine zb_if_eq (tgt := 33) d_Mo_keep_28 rfl (fun h28 => ?_) (fun h28 => absurd rfl h28)
  refine zb_aload_n d_Mo_keep_33 rfl rfl ?_
  refine zm_width d_Mo_keep_34 fl_Mo_13 ?_
  refine zb_iload_n d_Mo_keep_37 rfl rfl ?_
  refine zb_iload_n d_Mo_keep_38 rfl rfl ?_
  refine zb_iastN (q := 31) (j := r) d_Mo_keep_39 (ia31) (show r < 8 from hr) ?_
  refine zb_iconst (v := 0) d_Mo_keep_40 rfl ?_
  refine zb_istore (lv' := [(5, .int 0), (4, .int (nI (zct D 4096))), (0, .ref (zad G 30)), (1, .int (nI r)), (2, .int (nI u)), (3, .int k)]) d_Mo_keep_41 (by decide) rfl ?_
  refine zb_lv (lv' := [(5, .int (nI 0)), (4, .int (nI (zct D 4096))), (0, .ref (zad G 30)), (1, .int (nI r)), (2, .int (nI u)), (3, .int k)]) rfl ?_
  refine zb_sub [0, 1, 2, 3, 4, 5] rfl ?_
  refine lp_keep l G (σ := zu σ 31 (upd (σ.1 31) r (nI u))) (D := D) hr (fun t ht => by rw [zu_ne σ _ (by decide)]; exact hD t ht) (fun τ hc => ?_) 4096 0 _ rfl (zc_0 _ r D)
  refine zb_iload d_Mo_keep_77 rfl ?_
  exact zb_iret d_Mo_keep_79 rfl ⟨rfl, zc_mw hm hc, zc_j hc⟩
set_option maxHeartbeats 4000000 in
set_option maxRecDepth 100000 in
/-- keep, where there is no room -/
theorem c_keep_n (l : Launch) (G : zG) {σ : zS} {r u : Nat} {k : Int32} {D : Nat → Int32}   (hD : ∀ t, t < 4096 → σ.1 33 t = D t) (hn : 300 < zct D 4096) : zC l G y_Mo_keep w_Mo_keep (zrm 1 24) 0 0 [.ref (zad G 30), .int (nI r), .int (nI u), .int k] σ (fun v σ' => v = some (.int 0) ∧ zt σ σ' k) := by
  refine zC_of (cc := c_Mo_keep) (nL := 6) (ret := (some .int)) (own := R_Mo) (by decide +kernel) rfl rfl (Nat.le_of_ble_eq_true rfl) ?_
  refine zb_lv (lv' := [(0, .ref (zad G 30)), (1, .int (nI r)), (2, .int (nI u)), (3, .int k)]) rfl ?_
  refine zb_aload_n d_Mo_keep_0 rfl rfl ?_
  refine zm_made d_Mo_keep_1 fl_Mo_21 ?_
  refine zb_iconst (v := 0) d_Mo_keep_4 rfl ?_
  refine zb_callS (rest := []) (c_many l G (q := 33) (f := 0) ia33 (Nat.le_refl 4096)) (lk_Mo_32.cw rfl rfl ⟨Nat.le_of_ble_eq_true rfl, Nat.le_of_ble_eq_true rfl⟩) rfl rfl (Nat.le_of_ble_eq_true rfl) d_Mo_keep_5 ⟨Nat.le_of_ble_eq_true rfl, Nat.le_of_ble_eq_true rfl⟩ ?_
  rintro _ _ ⟨rfl, rfl⟩
  refine zb_st (st' := [.int (nI (zct (fun t => σ.1 33 (0 + t)) 4096))]) rfl ?_
  refine zb_top (y := nI (zct D 4096)) (congrArg nI (zct_congr (m' := D) 4096 (fun t ht => (congrArg (σ.1 33) (Nat.zero_add t)).trans (hD t ht)))) ?_
  refine zb_istore (lv' := [(4, .int (nI (zct D 4096))), (0, .ref (zad G 30)), (1, .int (nI r)), (2, .int (nI u)), (3, .int k)]) d_Mo_keep_8 (by decide) rfl ?_
  refine zb_aload_n d_Mo_keep_10 rfl rfl ?_
  refine zb_iload_n d_Mo_keep_11 rfl rfl ?_
  refine zb_iload d_Mo_keep_12 rfl ?_
  refine zb_sipush (v := 300) d_Mo_keep_14 rfl ?_
  refine zb_icmp_le (tgt := 24) d_Mo_keep_17 rfl (fun h17 => absurd h17 (nI_ge (a := 300) hn (by have := zct_le D 4096; omega))) (fun h17 => ?_)
  refine zb_iconst (v := 1) d_Mo_keep_20 rfl ?_
  refine zb_goto (tgt := 25) d_Mo_keep_21 rfl ?_
  refine zb_callV (rest := []) (c_refuse_y l G) (lk_Mo_28.cw rfl rfl ⟨Nat.le_of_ble_eq_true rfl, Nat.le_of_ble_eq_true rfl⟩) zgM rfl rfl rfl rfl (Nat.le_of_ble_eq_true rfl) d_Mo_keep_25 ⟨Nat.le_of_ble_eq_true rfl, Nat.le_of_ble_eq_true rfl⟩ ?_
  rintro _ _ ⟨rfl, y9⟩
  rename_i σ9
  refine zb_st (st' := [.int 1]) rfl ?_
  refine zb_if_eq (tgt := 33) d_Mo_keep_28 rfl (fun h28 => absurd h28 (by decide)) (fun h28 => ?_)
  refine zb_iconst (v := 0) d_Mo_keep_31 rfl ?_
  exact zb_iret d_Mo_keep_32 rfl ⟨rfl, y9⟩
set_option maxHeartbeats 4000000 in
set_option maxRecDepth 100000 in
theorem c_mwidth_ns (l : Launch) (G : zG) {σ : zS} {x y : Int32} (h : ¬ zgr x) : zC l G y_Mo_width w_Mo_width (zrm 2 60) 0 0 [.ref (zad G 30), .int x, .int y] σ (fun v σ' => v = some (.int 0) ∧ zt σ σ' 1) := by
  refine zC_of (cc := c_Mo_width) (nL := 5) (ret := (some .int)) (own := R_Mo) (by decide +kernel) rfl rfl (Nat.le_of_ble_eq_true rfl) ?_
  refine zb_lv (lv' := [(0, .ref (zad G 30)), (1, .int x), (2, .int y)]) rfl ?_
  by_cases hx : zgr x
  · exact absurd hx h
  · refine zb_aload_n d_Mo_width_0 rfl rfl ?_
    refine zb_iload_n d_Mo_width_1 rfl rfl ?_
    refine zb_callV (rest := []) (c_none_y l G hx) (lk_Mo_36.cw rfl rfl ⟨Nat.le_of_ble_eq_true rfl, Nat.le_of_ble_eq_true rfl⟩) zgM rfl rfl rfl rfl (Nat.le_of_ble_eq_true rfl) d_Mo_width_2 ⟨Nat.le_of_ble_eq_true rfl, Nat.le_of_ble_eq_true rfl⟩ ?_
    rintro _ _ ⟨rfl, y9⟩
    rename_i σ9
    refine zb_st (st' := [.int 1]) rfl ?_
    refine zb_if_ne (tgt := 31) d_Mo_width_5 rfl (fun h5 => ?_) (fun h5 => absurd h5 (by decide))
    refine zb_iconst (v := 0) d_Mo_width_31 rfl ?_
    exact zb_iret d_Mo_width_32 rfl ⟨rfl, y9⟩
set_option maxHeartbeats 4000000 in
set_option maxRecDepth 100000 in
theorem c_mwidth_ia (l : Launch) (G : zG) {σ : zS} {r : Nat} {y : Int32} (hr : r < 8) (h : ¬ zgw y) : zC l G y_Mo_width w_Mo_width (zrm 2 60) 0 0 [.ref (zad G 30), .int (nI r), .int y] σ (fun v σ' => v = some (.int 0) ∧ zt σ σ' 2) := by
  refine zC_of (cc := c_Mo_width) (nL := 5) (ret := (some .int)) (own := R_Mo) (by decide +kernel) rfl rfl (Nat.le_of_ble_eq_true rfl) ?_
  refine zb_lv (lv' := [(0, .ref (zad G 30)), (1, .int (nI r)), (2, .int y)]) rfl ?_
  refine zb_aload_n d_Mo_width_0 rfl rfl ?_
  refine zb_iload_n d_Mo_width_1 rfl rfl ?_
  refine zb_callV (rest := []) (c_none_n l G hr) (lk_Mo_36.cw rfl rfl ⟨Nat.le_of_ble_eq_true rfl, Nat.le_of_ble_eq_true rfl⟩) zgM rfl rfl rfl rfl (Nat.le_of_ble_eq_true rfl) d_Mo_width_2 ⟨Nat.le_of_ble_eq_true rfl, Nat.le_of_ble_eq_true rfl⟩ ?_
  rintro _ _ ⟨rfl, y1⟩
  rename_i σ1
  have z1 : zt σ σ1 0 := y1
  refine zb_st (st' := [.int 0]) rfl ?_
  refine zb_if_ne (tgt := 31) d_Mo_width_5 rfl (fun h5 => absurd h5 (fun z => z rfl)) (fun h5 => ?_)
  refine zb_aload_n d_Mo_width_8 rfl rfl ?_
  refine zb_iconst (v := 2) d_Mo_width_9 rfl ?_
  refine zb_iload_n d_Mo_width_10 rfl rfl ?_
  refine zb_iconst (v := 1) d_Mo_width_11 rfl ?_
  refine zb_icmp_lt (tgt := 20) d_Mo_width_12 rfl (fun h12 => ?_) (fun h12 => ?_)
  · refine zb_iconst (v := 1) d_Mo_width_20 rfl ?_
    refine zb_goto (tgt := 25) d_Mo_width_21 rfl ?_
    refine zb_callV (rest := []) (c_refuse_y l G) (lk_Mo_28.cw rfl rfl ⟨Nat.le_of_ble_eq_true rfl, Nat.le_of_ble_eq_true rfl⟩) zgM rfl rfl rfl rfl (Nat.le_of_ble_eq_true rfl) d_Mo_width_25 ⟨Nat.le_of_ble_eq_true rfl, Nat.le_of_ble_eq_true rfl⟩ ?_
    rintro _ _ ⟨rfl, y9⟩
    rename_i σ9
    refine zb_st (st' := [.int 1]) rfl ?_
    refine zb_if_eq (tgt := 33) d_Mo_width_28 rfl (fun h28 => absurd h28 (by decide)) (fun h28 => ?_)
    refine zb_iconst (v := 0) d_Mo_width_31 rfl ?_
    exact zb_iret d_Mo_width_32 rfl ⟨rfl, z1.tr y9⟩
  · refine zb_iload_n d_Mo_width_15 rfl rfl ?_
    refine zb_iconst (v := 3) d_Mo_width_16 rfl ?_
    refine zb_icmp_le (tgt := 24) d_Mo_width_17 rfl (fun h17 => absurd h17 (fun z => h (zgw_of h12 (Int32.not_lt.mpr z)))) (fun h17 => ?_)
    refine zb_iconst (v := 1) d_Mo_width_20 rfl ?_
    refine zb_goto (tgt := 25) d_Mo_width_21 rfl ?_
    refine zb_callV (rest := []) (c_refuse_y l G) (lk_Mo_28.cw rfl rfl ⟨Nat.le_of_ble_eq_true rfl, Nat.le_of_ble_eq_true rfl⟩) zgM rfl rfl rfl rfl (Nat.le_of_ble_eq_true rfl) d_Mo_width_25 ⟨Nat.le_of_ble_eq_true rfl, Nat.le_of_ble_eq_true rfl⟩ ?_
    rintro _ _ ⟨rfl, y9⟩
    rename_i σ9
    refine zb_st (st' := [.int 1]) rfl ?_
    refine zb_if_eq (tgt := 33) d_Mo_width_28 rfl (fun h28 => absurd h28 (by decide)) (fun h28 => ?_)
    refine zb_iconst (v := 0) d_Mo_width_31 rfl ?_
    exact zb_iret d_Mo_width_32 rfl ⟨rfl, z1.tr y9⟩
set_option maxHeartbeats 4000000 in
set_option maxRecDepth 100000 in
theorem lp_mwidth (l : Launch) (G : zG) {σ : zS} {r : Nat} {n u : Int32} {Fin : List Frame → Array Value → State → State → Prop} (hr : r < 8) (K : ∀ τ : zS, zc σ τ r 4096 (fun _ => 0) → zB l G w_Mo_width R_Mo c_Mo_width 5 (some .int) [] (zrm 2 60) Fin 0 0 77 [(4, .int (nI 4096)), (3, .int n), (0, .ref (zad G 30)), (1, .int (nI r)), (2, .int u)] [] τ) : ∀ (d i : Nat) (τ : zS), i + d = 4096 → zc σ τ r i (fun _ => 0) → zB l G w_Mo_width R_Mo c_Mo_width 5 (some .int) [] (zrm 2 60) Fin 0 0 49 [(4, .int (nI i)), (3, .int n), (0, .ref (zad G 30)), (1, .int (nI r)), (2, .int u)] [] τ := by
  intro d
  induction d with
  | zero =>
    intro i τ hi hc
    have e : i = 4096 := by omega
    refine zb_iload d_Mo_width_49 rfl ?_
    refine zb_sipush (v := 4096) d_Mo_width_51 rfl ?_
    refine zb_icmp_ge (tgt := 77) d_Mo_width_54 rfl (fun h54 => ?_) (fun h54 => absurd (nI_le (a := 4096) (b := i) (by omega) (by omega)) h54)
    refine zb_sub [0, 1, 2, 3, 4] rfl ?_
    rw [e] at hc ⊢
    exact K τ hc
  | succ d ih =>
    intro i τ hi hc
    have hlt : i < 4096 := by omega
    refine zb_iload d_Mo_width_49 rfl ?_
    refine zb_sipush (v := 4096) d_Mo_width_51 rfl ?_
    refine zb_icmp_ge (tgt := 77) d_Mo_width_54 rfl (fun h54 => absurd h54 (nI_ge (a := i) (b := 4096) (by omega) (by omega))) (fun h54 => ?_)
    refine zb_aload_n d_Mo_width_57 rfl rfl ?_
    refine zm_counts d_Mo_width_58 fl_Mo_18 ?_
    refine zb_sipush (v := 4096) d_Mo_width_61 rfl ?_
    refine zb_iload_n d_Mo_width_64 rfl rfl ?_
    refine zb_imul d_Mo_width_65 ?_
    refine zb_top (y := nI (4096 * r)) (pk_mul 4096 r) ?_
    refine zb_iload d_Mo_width_66 rfl ?_
    refine zb_iadd d_Mo_width_68 ?_
    refine zb_top (y := nI (4096 * r + i)) (nI_add _ _) ?_
    refine zb_iconst (v := 0) d_Mo_width_69 rfl ?_
    refine zb_iastN (q := 32) (j := (4096 * r + i)) d_Mo_width_70 (ia32) (show 4096 * r + i < 32768 by omega) ?_
    refine zb_iinc (v := nI (i + 1)) (lv' := [(4, .int (nI (i + 1))), (3, .int n), (0, .ref (zad G 30)), (1, .int (nI r)), (2, .int u)]) d_Mo_width_71 rfl (nI_1 i) (by decide) rfl ?_
    refine zb_goto (tgt := 49) d_Mo_width_74 rfl ?_
    refine zb_sub [0, 1, 2, 3, 4] rfl ?_
    exact ih (i + 1) _ (by omega) (zc_s hc)
set_option maxHeartbeats 4000000 in
set_option maxRecDepth 100000 in
/-- width(r, w) -/
theorem c_mwidth (l : Launch) (G : zG) {σ : zS} {r u : Nat} {M : Nat → Nat → Int32} {w : Nat → Nat} (hm : zmw σ M w) (hr : r < 8) (h1 : 1 ≤ u) (h3 : u ≤ 3) : zC l G y_Mo_width w_Mo_width (zrm 2 60) 0 0 [.ref (zad G 30), .int (nI r), .int (nI u)] σ (fun v σ' => v = some (.int (nI (zct (M r) 4096))) ∧ σ'.1 30 0 = 0 ∧ zmw σ' (uM M r (fun _ => 0)) (uM w r u) ∧ zj σ σ') := by
  refine zC_of (cc := c_Mo_width) (nL := 5) (ret := (some .int)) (own := R_Mo) (by decide +kernel) rfl rfl (Nat.le_of_ble_eq_true rfl) ?_
  refine zb_lv (lv' := [(0, .ref (zad G 30)), (1, .int (nI r)), (2, .int (nI u))]) rfl ?_
  refine zb_aload_n d_Mo_width_0 rfl rfl ?_
  refine zb_iload_n d_Mo_width_1 rfl rfl ?_
  refine zb_callV (rest := []) (c_none_n l G hr) (lk_Mo_36.cw rfl rfl ⟨Nat.le_of_ble_eq_true rfl, Nat.le_of_ble_eq_true rfl⟩) zgM rfl rfl rfl rfl (Nat.le_of_ble_eq_true rfl) d_Mo_width_2 ⟨Nat.le_of_ble_eq_true rfl, Nat.le_of_ble_eq_true rfl⟩ ?_
  rintro _ _ ⟨rfl, y1⟩
  rename_i σ1
  have z1 : zt σ σ1 0 := y1
  refine zb_st (st' := [.int 0]) rfl ?_
  refine zb_if_ne (tgt := 31) d_Mo_width_5 rfl (fun h5 => absurd h5 (fun z => z rfl)) (fun h5 => ?_)
  refine zb_aload_n d_Mo_width_8 rfl rfl ?_
  refine zb_iconst (v := 2) d_Mo_width_9 rfl ?_
  refine zb_iload_n d_Mo_width_10 rfl rfl ?_
  refine zb_iconst (v := 1) d_Mo_width_11 rfl ?_
  refine zb_icmp_lt (tgt := 20) d_Mo_width_12 rfl (fun h12 => absurd h12 (nI_nlt (b := 1) h1 (by omega))) (fun h12 => ?_)
  refine zb_iload_n d_Mo_width_15 rfl rfl ?_
  refine zb_iconst (v := 3) d_Mo_width_16 rfl ?_
  refine zb_icmp_le (tgt := 24) d_Mo_width_17 rfl (fun h17 => ?_) (fun h17 => absurd (nI_le (b := 3) h3 (by decide)) h17)
  refine zb_iconst (v := 0) d_Mo_width_24 rfl ?_
  refine zb_callV (rest := []) (c_refuse_n l G) (lk_Mo_28.cw rfl rfl ⟨Nat.le_of_ble_eq_true rfl, Nat.le_of_ble_eq_true rfl⟩) zgM rfl rfl rfl rfl (Nat.le_of_ble_eq_true rfl) d_Mo_width_25 ⟨Nat.le_of_ble_eq_true rfl, Nat.le_of_ble_eq_true rfl⟩ ?_
  rintro _ _ ⟨rfl, rfl⟩
  refine zb_st (st' := [.int 0]) rfl ?_
  refine zb_if_eq (tgt := 33) d_Mo_width_28 rfl (fun h28 => ?_) (fun h28 => absurd rfl h28)
  refine zb_aload_n d_Mo_width_33 rfl rfl ?_
  refine zb_iload_n d_Mo_width_34 rfl rfl ?_
  refine zb_callV (rest := []) (c_in l G (z1.mw hm) hr) (lk_Mo_40.cw rfl rfl ⟨Nat.le_of_ble_eq_true rfl, Nat.le_of_ble_eq_true rfl⟩) zgM rfl rfl rfl rfl (Nat.le_of_ble_eq_true rfl) d_Mo_width_35 ⟨Nat.le_of_ble_eq_true rfl, Nat.le_of_ble_eq_true rfl⟩ ?_
  rintro _ _ ⟨rfl, rfl⟩
  refine zb_st (st' := [.int (nI (zct (M r) 4096))]) rfl ?_
  refine zb_istore_n (lv' := [(3, .int (nI (zct (M r) 4096))), (0, .ref (zad G 30)), (1, .int (nI r)), (2, .int (nI u))]) d_Mo_width_38 rfl (by decide) rfl ?_
  refine zb_aload_n d_Mo_width_39 rfl rfl ?_
  refine zm_width d_Mo_width_40 fl_Mo_13 ?_
  refine zb_iload_n d_Mo_width_43 rfl rfl ?_
  refine zb_iload_n d_Mo_width_44 rfl rfl ?_
  refine zb_iastN (q := 31) (j := r) d_Mo_width_45 (ia31) (show r < 8 from hr) ?_
  refine zb_iconst (v := 0) d_Mo_width_46 rfl ?_
  refine zb_istore (lv' := [(4, .int 0), (3, .int (nI (zct (M r) 4096))), (0, .ref (zad G 30)), (1, .int (nI r)), (2, .int (nI u))]) d_Mo_width_47 (by decide) rfl ?_
  refine zb_lv (lv' := [(4, .int (nI 0)), (3, .int (nI (zct (M r) 4096))), (0, .ref (zad G 30)), (1, .int (nI r)), (2, .int (nI u))]) rfl ?_
  refine zb_sub [0, 1, 2, 3, 4] rfl ?_
  refine lp_mwidth l G (σ := zu σ1 31 (upd (σ1.1 31) r (nI u))) hr (fun τ hc => ?_) 4096 0 _ rfl (zc_0 _ r _)
  refine zb_iload_n d_Mo_width_77 rfl rfl ?_
  exact zb_iret d_Mo_width_78 rfl ⟨rfl, by rw [(zc_j hc).2]; exact z1.1, zc_mw (z1.mw hm) hc, z1.j.tr (zc_j hc).1⟩
set_option maxHeartbeats 4000000 in
set_option maxRecDepth 100000 in
theorem c_mcount_ns (l : Launch) (G : zG) {σ : zS} {x y : Int32} (h : ¬ zgr x) : zC l G y_Mo_count w_Mo_count (zrm 2 60) 0 0 [.ref (zad G 30), .int x, .int y] σ (fun v σ' => v = some (.int 0) ∧ zt σ σ' 1) := by
  refine zC_of (cc := c_Mo_count) (nL := 3) (ret := (some .int)) (own := R_Mo) (by decide +kernel) rfl rfl (Nat.le_of_ble_eq_true rfl) ?_
  refine zb_lv (lv' := [(0, .ref (zad G 30)), (1, .int x), (2, .int y)]) rfl ?_
  by_cases hx : zgr x
  · exact absurd hx h
  · refine zb_aload_n d_Mo_count_0 rfl rfl ?_
    refine zb_iload_n d_Mo_count_1 rfl rfl ?_
    refine zb_callV (rest := []) (c_none_y l G hx) (lk_Mo_36.cw rfl rfl ⟨Nat.le_of_ble_eq_true rfl, Nat.le_of_ble_eq_true rfl⟩) zgM rfl rfl rfl rfl (Nat.le_of_ble_eq_true rfl) d_Mo_count_2 ⟨Nat.le_of_ble_eq_true rfl, Nat.le_of_ble_eq_true rfl⟩ ?_
    rintro _ _ ⟨rfl, y9⟩
    rename_i σ9
    refine zb_st (st' := [.int 1]) rfl ?_
    refine zb_if_ne (tgt := 34) d_Mo_count_5 rfl (fun h5 => ?_) (fun h5 => absurd h5 (by decide))
    refine zb_iconst (v := 0) d_Mo_count_34 rfl ?_
    exact zb_iret d_Mo_count_35 rfl ⟨rfl, y9⟩
set_option maxHeartbeats 4000000 in
set_option maxRecDepth 100000 in
theorem c_mcount_ia (l : Launch) (G : zG) {σ : zS} {r : Nat} {y : Int32} {M : Nat → Nat → Int32} {w : Nat → Nat} (hm : zmw σ M w) (hr : r < 8) (h1 : 1 ≤ w r) (h3 : w r ≤ 3) (ht : ¬ ztp y (w r)) : zC l G y_Mo_count w_Mo_count (zrm 2 60) 0 0 [.ref (zad G 30), .int (nI r), .int y] σ (fun v σ' => v = some (.int 0) ∧ zt σ σ' 2) := by
  refine zC_of (cc := c_Mo_count) (nL := 3) (ret := (some .int)) (own := R_Mo) (by decide +kernel) rfl rfl (Nat.le_of_ble_eq_true rfl) ?_
  refine zb_lv (lv' := [(0, .ref (zad G 30)), (1, .int (nI r)), (2, .int y)]) rfl ?_
  refine zb_aload_n d_Mo_count_0 rfl rfl ?_
  refine zb_iload_n d_Mo_count_1 rfl rfl ?_
  refine zb_callV (rest := []) (c_none_n l G hr) (lk_Mo_36.cw rfl rfl ⟨Nat.le_of_ble_eq_true rfl, Nat.le_of_ble_eq_true rfl⟩) zgM rfl rfl rfl rfl (Nat.le_of_ble_eq_true rfl) d_Mo_count_2 ⟨Nat.le_of_ble_eq_true rfl, Nat.le_of_ble_eq_true rfl⟩ ?_
  rintro _ _ ⟨rfl, y1⟩
  rename_i σ1
  have z1 : zt σ σ1 0 := y1
  refine zb_st (st' := [.int 0]) rfl ?_
  refine zb_if_ne (tgt := 34) d_Mo_count_5 rfl (fun h5 => absurd h5 (fun z => z rfl)) (fun h5 => ?_)
  refine zb_aload_n d_Mo_count_8 rfl rfl ?_
  refine zb_iconst (v := 2) d_Mo_count_9 rfl ?_
  refine zb_iload_n d_Mo_count_10 rfl rfl ?_
  refine zb_aload_n d_Mo_count_11 rfl rfl ?_
  refine zm_width d_Mo_count_12 fl_Mo_13 ?_
  refine zb_iload_n d_Mo_count_15 rfl rfl ?_
  refine zb_ialdN (q := 31) (j := r) d_Mo_count_16 (ia31) (show r < 8 from hr) ?_
  refine zb_top (y := nI (w r)) ((z1.mw hm).1 r hr) ?_
  refine zb_callS (rest := [.int 2, .ref (zad G 30)]) (c_mT_n l G h1 h3 ht) (lk_Mo_44.cw rfl rfl ⟨Nat.le_of_ble_eq_true rfl, Nat.le_of_ble_eq_true rfl⟩) rfl rfl (Nat.le_of_ble_eq_true rfl) d_Mo_count_17 ⟨Nat.le_of_ble_eq_true rfl, Nat.le_of_ble_eq_true rfl⟩ ?_
  rintro _ _ ⟨rfl, rfl⟩
  refine zb_st (st' := [.int 0, .int 2, .ref (zad G 30)]) rfl ?_
  refine zb_if_ne (tgt := 27) d_Mo_count_20 rfl (fun h20 => absurd h20 (fun z => z rfl)) (fun h20 => ?_)
  refine zb_iconst (v := 1) d_Mo_count_23 rfl ?_
  refine zb_goto (tgt := 28) d_Mo_count_24 rfl ?_
  refine zb_callV (rest := []) (c_refuse_y l G) (lk_Mo_28.cw rfl rfl ⟨Nat.le_of_ble_eq_true rfl, Nat.le_of_ble_eq_true rfl⟩) zgM rfl rfl rfl rfl (Nat.le_of_ble_eq_true rfl) d_Mo_count_28 ⟨Nat.le_of_ble_eq_true rfl, Nat.le_of_ble_eq_true rfl⟩ ?_
  rintro _ _ ⟨rfl, y9⟩
  rename_i σ9
  refine zb_st (st' := [.int 1]) rfl ?_
  refine zb_if_eq (tgt := 36) d_Mo_count_31 rfl (fun h31 => absurd h31 (by decide)) (fun h31 => ?_)
  refine zb_iconst (v := 0) d_Mo_count_34 rfl ?_
  exact zb_iret d_Mo_count_35 rfl ⟨rfl, z1.tr y9⟩
set_option maxHeartbeats 4000000 in
set_option maxRecDepth 100000 in
/-- count(r, t) -/
theorem c_mcount (l : Launch) (G : zG) {σ : zS} {r t : Nat} {M : Nat → Nat → Int32} {w : Nat → Nat} (hm : zmw σ M w) (hr : r < 8) (h1 : 1 ≤ w r) (h3 : w r ≤ 3) (ht : t < 4096) (hd : t % 2 ^ (12 - 4 * w r) = 0) : zC l G y_Mo_count w_Mo_count (zrm 2 60) 0 0 [.ref (zad G 30), .int (nI r), .int (nI t)] σ (fun v σ' => v = some (.int (M r t)) ∧ zt σ σ' 0) := by
  refine zC_of (cc := c_Mo_count) (nL := 3) (ret := (some .int)) (own := R_Mo) (by decide +kernel) rfl rfl (Nat.le_of_ble_eq_true rfl) ?_
  refine zb_lv (lv' := [(0, .ref (zad G 30)), (1, .int (nI r)), (2, .int (nI t))]) rfl ?_
  refine zb_aload_n d_Mo_count_0 rfl rfl ?_
  refine zb_iload_n d_Mo_count_1 rfl rfl ?_
  refine zb_callV (rest := []) (c_none_n l G hr) (lk_Mo_36.cw rfl rfl ⟨Nat.le_of_ble_eq_true rfl, Nat.le_of_ble_eq_true rfl⟩) zgM rfl rfl rfl rfl (Nat.le_of_ble_eq_true rfl) d_Mo_count_2 ⟨Nat.le_of_ble_eq_true rfl, Nat.le_of_ble_eq_true rfl⟩ ?_
  rintro _ _ ⟨rfl, y1⟩
  rename_i σ1
  have z1 : zt σ σ1 0 := y1
  refine zb_st (st' := [.int 0]) rfl ?_
  refine zb_if_ne (tgt := 34) d_Mo_count_5 rfl (fun h5 => absurd h5 (fun z => z rfl)) (fun h5 => ?_)
  refine zb_aload_n d_Mo_count_8 rfl rfl ?_
  refine zb_iconst (v := 2) d_Mo_count_9 rfl ?_
  refine zb_iload_n d_Mo_count_10 rfl rfl ?_
  refine zb_aload_n d_Mo_count_11 rfl rfl ?_
  refine zm_width d_Mo_count_12 fl_Mo_13 ?_
  refine zb_iload_n d_Mo_count_15 rfl rfl ?_
  refine zb_ialdN (q := 31) (j := r) d_Mo_count_16 (ia31) (show r < 8 from hr) ?_
  refine zb_top (y := nI (w r)) ((z1.mw hm).1 r hr) ?_
  refine zb_callS (rest := [.int 2, .ref (zad G 30)]) (c_mT_y l G h1 h3 ht hd) (lk_Mo_44.cw rfl rfl ⟨Nat.le_of_ble_eq_true rfl, Nat.le_of_ble_eq_true rfl⟩) rfl rfl (Nat.le_of_ble_eq_true rfl) d_Mo_count_17 ⟨Nat.le_of_ble_eq_true rfl, Nat.le_of_ble_eq_true rfl⟩ ?_
  rintro _ _ ⟨rfl, rfl⟩
  refine zb_st (st' := [.int 1, .int 2, .ref (zad G 30)]) rfl ?_
  refine zb_if_ne (tgt := 27) d_Mo_count_20 rfl (fun h20 => ?_) (fun h20 => absurd h20 (by decide))
  refine zb_iconst (v := 0) d_Mo_count_27 rfl ?_
  refine zb_callV (rest := []) (c_refuse_n l G) (lk_Mo_28.cw rfl rfl ⟨Nat.le_of_ble_eq_true rfl, Nat.le_of_ble_eq_true rfl⟩) zgM rfl rfl rfl rfl (Nat.le_of_ble_eq_true rfl) d_Mo_count_28 ⟨Nat.le_of_ble_eq_true rfl, Nat.le_of_ble_eq_true rfl⟩ ?_
  rintro _ _ ⟨rfl, rfl⟩
  refine zb_st (st' := [.int 0]) rfl ?_
  refine zb_if_eq (tgt := 36) d_Mo_count_31 rfl (fun h31 => ?_) (fun h31 => absurd rfl h31)
  refine zb_aload_n d_Mo_count_36 rfl rfl ?_
  refine zb_iload_n d_Mo_count_37 rfl rfl ?_
  refine zb_iload_n d_Mo_count_38 rfl rfl ?_
  refine zb_callV (rest := []) (c_of l G (z1.mw hm) hr ht) (lk_Mo_48.cw rfl rfl ⟨Nat.le_of_ble_eq_true rfl, Nat.le_of_ble_eq_true rfl⟩) zgM rfl rfl rfl rfl (Nat.le_of_ble_eq_true rfl) d_Mo_count_39 ⟨Nat.le_of_ble_eq_true rfl, Nat.le_of_ble_eq_true rfl⟩ ?_
  rintro _ _ ⟨rfl, rfl⟩
  refine zb_st (st' := [.int (M r t)]) rfl ?_
  exact zb_iret d_Mo_count_42 rfl ⟨rfl, z1⟩
set_option maxHeartbeats 4000000 in
set_option maxRecDepth 100000 in
theorem c_mput_ns (l : Launch) (G : zG) {σ : zS} {x y : Int32} {b : Int32} (h : ¬ zgr x) : zC l G y_Mo_put w_Mo_put (zrm 2 60) 0 0 [.ref (zad G 30), .int x, .int y, .int b] σ (fun v σ' => v = some (.int 0) ∧ zt σ σ' 1) := by
  refine zC_of (cc := c_Mo_put) (nL := 5) (ret := (some .int)) (own := R_Mo) (by decide +kernel) rfl rfl (Nat.le_of_ble_eq_true rfl) ?_
  refine zb_lv (lv' := [(0, .ref (zad G 30)), (1, .int x), (2, .int y), (3, .int b)]) rfl ?_
  by_cases hx : zgr x
  · exact absurd hx h
  · refine zb_aload_n d_Mo_put_0 rfl rfl ?_
    refine zb_iload_n d_Mo_put_1 rfl rfl ?_
    refine zb_callV (rest := []) (c_none_y l G hx) (lk_Mo_36.cw rfl rfl ⟨Nat.le_of_ble_eq_true rfl, Nat.le_of_ble_eq_true rfl⟩) zgM rfl rfl rfl rfl (Nat.le_of_ble_eq_true rfl) d_Mo_put_2 ⟨Nat.le_of_ble_eq_true rfl, Nat.le_of_ble_eq_true rfl⟩ ?_
    rintro _ _ ⟨rfl, y9⟩
    rename_i σ9
    refine zb_st (st' := [.int 1]) rfl ?_
    refine zb_if_ne (tgt := 34) d_Mo_put_5 rfl (fun h5 => ?_) (fun h5 => absurd h5 (by decide))
    refine zb_iconst (v := 0) d_Mo_put_34 rfl ?_
    exact zb_iret d_Mo_put_35 rfl ⟨rfl, y9⟩
set_option maxHeartbeats 4000000 in
set_option maxRecDepth 100000 in
theorem c_mput_ia (l : Launch) (G : zG) {σ : zS} {r : Nat} {y : Int32} {b : Int32} {M : Nat → Nat → Int32} {w : Nat → Nat} (hm : zmw σ M w) (hr : r < 8) (h1 : 1 ≤ w r) (h3 : w r ≤ 3) (ht : ¬ ztp y (w r)) : zC l G y_Mo_put w_Mo_put (zrm 2 60) 0 0 [.ref (zad G 30), .int (nI r), .int y, .int b] σ (fun v σ' => v = some (.int 0) ∧ zt σ σ' 2) := by
  refine zC_of (cc := c_Mo_put) (nL := 5) (ret := (some .int)) (own := R_Mo) (by decide +kernel) rfl rfl (Nat.le_of_ble_eq_true rfl) ?_
  refine zb_lv (lv' := [(0, .ref (zad G 30)), (1, .int (nI r)), (2, .int y), (3, .int b)]) rfl ?_
  refine zb_aload_n d_Mo_put_0 rfl rfl ?_
  refine zb_iload_n d_Mo_put_1 rfl rfl ?_
  refine zb_callV (rest := []) (c_none_n l G hr) (lk_Mo_36.cw rfl rfl ⟨Nat.le_of_ble_eq_true rfl, Nat.le_of_ble_eq_true rfl⟩) zgM rfl rfl rfl rfl (Nat.le_of_ble_eq_true rfl) d_Mo_put_2 ⟨Nat.le_of_ble_eq_true rfl, Nat.le_of_ble_eq_true rfl⟩ ?_
  rintro _ _ ⟨rfl, y1⟩
  rename_i σ1
  have z1 : zt σ σ1 0 := y1
  refine zb_st (st' := [.int 0]) rfl ?_
  refine zb_if_ne (tgt := 34) d_Mo_put_5 rfl (fun h5 => absurd h5 (fun z => z rfl)) (fun h5 => ?_)
  refine zb_aload_n d_Mo_put_8 rfl rfl ?_
  refine zb_iconst (v := 2) d_Mo_put_9 rfl ?_
  refine zb_iload_n d_Mo_put_10 rfl rfl ?_
  refine zb_aload_n d_Mo_put_11 rfl rfl ?_
  refine zm_width d_Mo_put_12 fl_Mo_13 ?_
  refine zb_iload_n d_Mo_put_15 rfl rfl ?_
  refine zb_ialdN (q := 31) (j := r) d_Mo_put_16 (ia31) (show r < 8 from hr) ?_
  refine zb_top (y := nI (w r)) ((z1.mw hm).1 r hr) ?_
  refine zb_callS (rest := [.int 2, .ref (zad G 30)]) (c_mT_n l G h1 h3 ht) (lk_Mo_44.cw rfl rfl ⟨Nat.le_of_ble_eq_true rfl, Nat.le_of_ble_eq_true rfl⟩) rfl rfl (Nat.le_of_ble_eq_true rfl) d_Mo_put_17 ⟨Nat.le_of_ble_eq_true rfl, Nat.le_of_ble_eq_true rfl⟩ ?_
  rintro _ _ ⟨rfl, rfl⟩
  refine zb_st (st' := [.int 0, .int 2, .ref (zad G 30)]) rfl ?_
  refine zb_if_ne (tgt := 27) d_Mo_put_20 rfl (fun h20 => absurd h20 (fun z => z rfl)) (fun h20 => ?_)
  refine zb_iconst (v := 1) d_Mo_put_23 rfl ?_
  refine zb_goto (tgt := 28) d_Mo_put_24 rfl ?_
  refine zb_callV (rest := []) (c_refuse_y l G) (lk_Mo_28.cw rfl rfl ⟨Nat.le_of_ble_eq_true rfl, Nat.le_of_ble_eq_true rfl⟩) zgM rfl rfl rfl rfl (Nat.le_of_ble_eq_true rfl) d_Mo_put_28 ⟨Nat.le_of_ble_eq_true rfl, Nat.le_of_ble_eq_true rfl⟩ ?_
  rintro _ _ ⟨rfl, y9⟩
  rename_i σ9
  refine zb_st (st' := [.int 1]) rfl ?_
  refine zb_if_eq (tgt := 36) d_Mo_put_31 rfl (fun h31 => absurd h31 (by decide)) (fun h31 => ?_)
  refine zb_iconst (v := 0) d_Mo_put_34 rfl ?_
  exact zb_iret d_Mo_put_35 rfl ⟨rfl, z1.tr y9⟩
set_option maxHeartbeats 4000000 in
set_option maxRecDepth 100000 in
theorem c_mput_is (l : Launch) (G : zG) {σ : zS} {r t : Nat} {b : Int32} {M : Nat → Nat → Int32} {w : Nat → Nat} (hm : zmw σ M w) (hr : r < 8) (h1 : 1 ≤ w r) (h3 : w r ≤ 3) (ht : t < 4096) (hd : t % 2 ^ (12 - 4 * w r) = 0) (h0 : M r t = 0) (hb : ¬ M r t + b = 0) (hn : zct (M r) 4096 = 300) : zC l G y_Mo_put w_Mo_put (zrm 2 60) 0 0 [.ref (zad G 30), .int (nI r), .int (nI t), .int b] σ (fun v σ' => v = some (.int 0) ∧ zt σ σ' 3) := by
  refine zC_of (cc := c_Mo_put) (nL := 5) (ret := (some .int)) (own := R_Mo) (by decide +kernel) rfl rfl (Nat.le_of_ble_eq_true rfl) ?_
  refine zb_lv (lv' := [(0, .ref (zad G 30)), (1, .int (nI r)), (2, .int (nI t)), (3, .int b)]) rfl ?_
  refine zb_aload_n d_Mo_put_0 rfl rfl ?_
  refine zb_iload_n d_Mo_put_1 rfl rfl ?_
  refine zb_callV (rest := []) (c_none_n l G hr) (lk_Mo_36.cw rfl rfl ⟨Nat.le_of_ble_eq_true rfl, Nat.le_of_ble_eq_true rfl⟩) zgM rfl rfl rfl rfl (Nat.le_of_ble_eq_true rfl) d_Mo_put_2 ⟨Nat.le_of_ble_eq_true rfl, Nat.le_of_ble_eq_true rfl⟩ ?_
  rintro _ _ ⟨rfl, y1⟩
  rename_i σ1
  have z1 : zt σ σ1 0 := y1
  refine zb_st (st' := [.int 0]) rfl ?_
  refine zb_if_ne (tgt := 34) d_Mo_put_5 rfl (fun h5 => absurd h5 (fun z => z rfl)) (fun h5 => ?_)
  refine zb_aload_n d_Mo_put_8 rfl rfl ?_
  refine zb_iconst (v := 2) d_Mo_put_9 rfl ?_
  refine zb_iload_n d_Mo_put_10 rfl rfl ?_
  refine zb_aload_n d_Mo_put_11 rfl rfl ?_
  refine zm_width d_Mo_put_12 fl_Mo_13 ?_
  refine zb_iload_n d_Mo_put_15 rfl rfl ?_
  refine zb_ialdN (q := 31) (j := r) d_Mo_put_16 (ia31) (show r < 8 from hr) ?_
  refine zb_top (y := nI (w r)) ((z1.mw hm).1 r hr) ?_
  refine zb_callS (rest := [.int 2, .ref (zad G 30)]) (c_mT_y l G h1 h3 ht hd) (lk_Mo_44.cw rfl rfl ⟨Nat.le_of_ble_eq_true rfl, Nat.le_of_ble_eq_true rfl⟩) rfl rfl (Nat.le_of_ble_eq_true rfl) d_Mo_put_17 ⟨Nat.le_of_ble_eq_true rfl, Nat.le_of_ble_eq_true rfl⟩ ?_
  rintro _ _ ⟨rfl, rfl⟩
  refine zb_st (st' := [.int 1, .int 2, .ref (zad G 30)]) rfl ?_
  refine zb_if_ne (tgt := 27) d_Mo_put_20 rfl (fun h20 => ?_) (fun h20 => absurd h20 (by decide))
  refine zb_iconst (v := 0) d_Mo_put_27 rfl ?_
  refine zb_callV (rest := []) (c_refuse_n l G) (lk_Mo_28.cw rfl rfl ⟨Nat.le_of_ble_eq_true rfl, Nat.le_of_ble_eq_true rfl⟩) zgM rfl rfl rfl rfl (Nat.le_of_ble_eq_true rfl) d_Mo_put_28 ⟨Nat.le_of_ble_eq_true rfl, Nat.le_of_ble_eq_true rfl⟩ ?_
  rintro _ _ ⟨rfl, rfl⟩
  refine zb_st (st' := [.int 0]) rfl ?_
  refine zb_if_eq (tgt := 36) d_Mo_put_31 rfl (fun h31 => ?_) (fun h31 => absurd rfl h31)
  refine zb_aload_n d_Mo_put_36 rfl rfl ?_
  refine zb_iload_n d_Mo_put_37 rfl rfl ?_
  refine zb_iload_n d_Mo_put_38 rfl rfl ?_
  refine zb_callV (rest := []) (c_of l G (z1.mw hm) hr ht) (lk_Mo_48.cw rfl rfl ⟨Nat.le_of_ble_eq_true rfl, Nat.le_of_ble_eq_true rfl⟩) zgM rfl rfl rfl rfl (Nat.le_of_ble_eq_true rfl) d_Mo_put_39 ⟨Nat.le_of_ble_eq_true rfl, Nat.le_of_ble_eq_true rfl⟩ ?_
  rintro _ _ ⟨rfl, rfl⟩
  refine zb_st (st' := [.int (M r t)]) rfl ?_
  refine zb_iload_n d_Mo_put_42 rfl rfl ?_
  refine zb_iadd d_Mo_put_43 ?_
  refine zb_istore (lv' := [(4, .int ((M r t) + b)), (0, .ref (zad G 30)), (1, .int (nI r)), (2, .int (nI t)), (3, .int b)]) d_Mo_put_44 (by decide) rfl ?_
  refine zb_aload_n d_Mo_put_46 rfl rfl ?_
  refine zb_iconst (v := 3) d_Mo_put_47 rfl ?_
  refine zb_aload_n d_Mo_put_48 rfl rfl ?_
  refine zb_iload_n d_Mo_put_49 rfl rfl ?_
  refine zb_iload_n d_Mo_put_50 rfl rfl ?_
  refine zb_callV (rest := [.int 3, .ref (zad G 30)]) (c_of l G (z1.mw hm) hr ht) (lk_Mo_48.cw rfl rfl ⟨Nat.le_of_ble_eq_true rfl, Nat.le_of_ble_eq_true rfl⟩) zgM rfl rfl rfl rfl (Nat.le_of_ble_eq_true rfl) d_Mo_put_51 ⟨Nat.le_of_ble_eq_true rfl, Nat.le_of_ble_eq_true rfl⟩ ?_
  rintro _ _ ⟨rfl, rfl⟩
  refine zb_st (st' := [.int (M r t), .int 3, .ref (zad G 30)]) rfl ?_
  refine zb_if_ne (tgt := 77) d_Mo_put_54 rfl (fun h54 => absurd h54 (fun z => z h0)) (fun h54 => ?_)
  refine zb_iload d_Mo_put_57 rfl ?_
  refine zb_if_eq (tgt := 77) d_Mo_put_59 rfl (fun h59 => absurd h59 hb) (fun h59 => ?_)
  refine zb_aload_n d_Mo_put_62 rfl rfl ?_
  refine zb_iload_n d_Mo_put_63 rfl rfl ?_
  refine zb_callV (rest := [.int 3, .ref (zad G 30)]) (c_in l G (z1.mw hm) hr) (lk_Mo_40.cw rfl rfl ⟨Nat.le_of_ble_eq_true rfl, Nat.le_of_ble_eq_true rfl⟩) zgM rfl rfl rfl rfl (Nat.le_of_ble_eq_true rfl) d_Mo_put_64 ⟨Nat.le_of_ble_eq_true rfl, Nat.le_of_ble_eq_true rfl⟩ ?_
  rintro _ _ ⟨rfl, rfl⟩
  refine zb_st (st' := [.int (nI (zct (M r) 4096)), .int 3, .ref (zad G 30)]) rfl ?_
  refine zb_sipush (v := 300) d_Mo_put_67 rfl ?_
  refine zb_icmp_ne (tgt := 77) d_Mo_put_70 rfl (fun h70 => absurd h70 (fun z => z (by rw [hn]; rfl))) (fun h70 => ?_)
  refine zb_iconst (v := 1) d_Mo_put_73 rfl ?_
  refine zb_goto (tgt := 78) d_Mo_put_74 rfl ?_
  refine zb_callV (rest := []) (c_refuse_y l G) (lk_Mo_28.cw rfl rfl ⟨Nat.le_of_ble_eq_true rfl, Nat.le_of_ble_eq_true rfl⟩) zgM rfl rfl rfl rfl (Nat.le_of_ble_eq_true rfl) d_Mo_put_78 ⟨Nat.le_of_ble_eq_true rfl, Nat.le_of_ble_eq_true rfl⟩ ?_
  rintro _ _ ⟨rfl, y9⟩
  rename_i σ9
  refine zb_st (st' := [.int 1]) rfl ?_
  refine zb_if_eq (tgt := 86) d_Mo_put_81 rfl (fun h81 => absurd h81 (by decide)) (fun h81 => ?_)
  refine zb_iconst (v := 0) d_Mo_put_84 rfl ?_
  exact zb_iret d_Mo_put_85 rfl ⟨rfl, z1.tr y9⟩
set_option maxHeartbeats 4000000 in
set_option maxRecDepth 100000 in
theorem c_mput_1 (l : Launch) (G : zG) {σ : zS} {r t : Nat} {b : Int32} {M : Nat → Nat → Int32} {w : Nat → Nat} (hm : zmw σ M w) (hr : r < 8) (h1 : 1 ≤ w r) (h3 : w r ≤ 3) (ht : t < 4096) (hd : t % 2 ^ (12 - 4 * w r) = 0) (h0 : ¬ M r t = 0) : zC l G y_Mo_put w_Mo_put (zrm 2 60) 0 0 [.ref (zad G 30), .int (nI r), .int (nI t), .int b] σ (fun v σ' => v = some (.int (M r t + b)) ∧ σ'.1 30 0 = 0 ∧ zmw σ' (uM M r (upd (M r) t (M r t + b))) w ∧ zj σ σ') := by
  refine zC_of (cc := c_Mo_put) (nL := 5) (ret := (some .int)) (own := R_Mo) (by decide +kernel) rfl rfl (Nat.le_of_ble_eq_true rfl) ?_
  refine zb_lv (lv' := [(0, .ref (zad G 30)), (1, .int (nI r)), (2, .int (nI t)), (3, .int b)]) rfl ?_
  refine zb_aload_n d_Mo_put_0 rfl rfl ?_
  refine zb_iload_n d_Mo_put_1 rfl rfl ?_
  refine zb_callV (rest := []) (c_none_n l G hr) (lk_Mo_36.cw rfl rfl ⟨Nat.le_of_ble_eq_true rfl, Nat.le_of_ble_eq_true rfl⟩) zgM rfl rfl rfl rfl (Nat.le_of_ble_eq_true rfl) d_Mo_put_2 ⟨Nat.le_of_ble_eq_true rfl, Nat.le_of_ble_eq_true rfl⟩ ?_
  rintro _ _ ⟨rfl, y1⟩
  rename_i σ1
  have z1 : zt σ σ1 0 := y1
  refine zb_st (st' := [.int 0]) rfl ?_
  refine zb_if_ne (tgt := 34) d_Mo_put_5 rfl (fun h5 => absurd h5 (fun z => z rfl)) (fun h5 => ?_)
  refine zb_aload_n d_Mo_put_8 rfl rfl ?_
  refine zb_iconst (v := 2) d_Mo_put_9 rfl ?_
  refine zb_iload_n d_Mo_put_10 rfl rfl ?_
  refine zb_aload_n d_Mo_put_11 rfl rfl ?_
  refine zm_width d_Mo_put_12 fl_Mo_13 ?_
  refine zb_iload_n d_Mo_put_15 rfl rfl ?_
  refine zb_ialdN (q := 31) (j := r) d_Mo_put_16 (ia31) (show r < 8 from hr) ?_
  refine zb_top (y := nI (w r)) ((z1.mw hm).1 r hr) ?_
  refine zb_callS (rest := [.int 2, .ref (zad G 30)]) (c_mT_y l G h1 h3 ht hd) (lk_Mo_44.cw rfl rfl ⟨Nat.le_of_ble_eq_true rfl, Nat.le_of_ble_eq_true rfl⟩) rfl rfl (Nat.le_of_ble_eq_true rfl) d_Mo_put_17 ⟨Nat.le_of_ble_eq_true rfl, Nat.le_of_ble_eq_true rfl⟩ ?_
  rintro _ _ ⟨rfl, rfl⟩
  refine zb_st (st' := [.int 1, .int 2, .ref (zad G 30)]) rfl ?_
  refine zb_if_ne (tgt := 27) d_Mo_put_20 rfl (fun h20 => ?_) (fun h20 => absurd h20 (by decide))
  refine zb_iconst (v := 0) d_Mo_put_27 rfl ?_
  refine zb_callV (rest := []) (c_refuse_n l G) (lk_Mo_28.cw rfl rfl ⟨Nat.le_of_ble_eq_true rfl, Nat.le_of_ble_eq_true rfl⟩) zgM rfl rfl rfl rfl (Nat.le_of_ble_eq_true rfl) d_Mo_put_28 ⟨Nat.le_of_ble_eq_true rfl, Nat.le_of_ble_eq_true rfl⟩ ?_
  rintro _ _ ⟨rfl, rfl⟩
  refine zb_st (st' := [.int 0]) rfl ?_
  refine zb_if_eq (tgt := 36) d_Mo_put_31 rfl (fun h31 => ?_) (fun h31 => absurd rfl h31)
  refine zb_aload_n d_Mo_put_36 rfl rfl ?_
  refine zb_iload_n d_Mo_put_37 rfl rfl ?_
  refine zb_iload_n d_Mo_put_38 rfl rfl ?_
  refine zb_callV (rest := []) (c_of l G (z1.mw hm) hr ht) (lk_Mo_48.cw rfl rfl ⟨Nat.le_of_ble_eq_true rfl, Nat.le_of_ble_eq_true rfl⟩) zgM rfl rfl rfl rfl (Nat.le_of_ble_eq_true rfl) d_Mo_put_39 ⟨Nat.le_of_ble_eq_true rfl, Nat.le_of_ble_eq_true rfl⟩ ?_
  rintro _ _ ⟨rfl, rfl⟩
  refine zb_st (st' := [.int (M r t)]) rfl ?_
  refine zb_iload_n d_Mo_put_42 rfl rfl ?_
  refine zb_iadd d_Mo_put_43 ?_
  refine zb_istore (lv' := [(4, .int ((M r t) + b)), (0, .ref (zad G 30)), (1, .int (nI r)), (2, .int (nI t)), (3, .int b)]) d_Mo_put_44 (by decide) rfl ?_
  refine zb_aload_n d_Mo_put_46 rfl rfl ?_
  refine zb_iconst (v := 3) d_Mo_put_47 rfl ?_
  refine zb_aload_n d_Mo_put_48 rfl rfl ?_
  refine zb_iload_n d_Mo_put_49 rfl rfl ?_
  refine zb_iload_n d_Mo_put_50 rfl rfl ?_
  refine zb_callV (rest := [.int 3, .ref (zad G 30)]) (c_of l G (z1.mw hm) hr ht) (lk_Mo_48.cw rfl rfl ⟨Nat.le_of_ble_eq_true rfl, Nat.le_of_ble_eq_true rfl⟩) zgM rfl rfl rfl rfl (Nat.le_of_ble_eq_true rfl) d_Mo_put_51 ⟨Nat.le_of_ble_eq_true rfl, Nat.le_of_ble_eq_true rfl⟩ ?_
  rintro _ _ ⟨rfl, rfl⟩
  refine zb_st (st' := [.int (M r t), .int 3, .ref (zad G 30)]) rfl ?_
  refine zb_if_ne (tgt := 77) d_Mo_put_54 rfl (fun h54 => ?_) (fun h54 => absurd h54 h0)
  refine zb_iconst (v := 0) d_Mo_put_77 rfl ?_
  refine zb_callV (rest := []) (c_refuse_n l G) (lk_Mo_28.cw rfl rfl ⟨Nat.le_of_ble_eq_true rfl, Nat.le_of_ble_eq_true rfl⟩) zgM rfl rfl rfl rfl (Nat.le_of_ble_eq_true rfl) d_Mo_put_78 ⟨Nat.le_of_ble_eq_true rfl, Nat.le_of_ble_eq_true rfl⟩ ?_
  rintro _ _ ⟨rfl, rfl⟩
  refine zb_st (st' := [.int 0]) rfl ?_
  refine zb_if_eq (tgt := 86) d_Mo_put_81 rfl (fun h81 => ?_) (fun h81 => absurd rfl h81)
  refine zb_aload_n d_Mo_put_86 rfl rfl ?_
  refine zm_counts d_Mo_put_87 fl_Mo_18 ?_
  refine zb_sipush (v := 4096) d_Mo_put_90 rfl ?_
  refine zb_iload_n d_Mo_put_93 rfl rfl ?_
  refine zb_imul d_Mo_put_94 ?_
  refine zb_top (y := nI (4096 * r)) (pk_mul 4096 r) ?_
  refine zb_iload_n d_Mo_put_95 rfl rfl ?_
  refine zb_iadd d_Mo_put_96 ?_
  refine zb_top (y := nI (4096 * r + t)) (nI_add _ _) ?_
  refine zb_iload d_Mo_put_97 rfl ?_
  refine zb_iastN (q := 32) (j := (4096 * r + t)) d_Mo_put_99 (ia32) (show 4096 * r + t < 32768 by omega) ?_
  refine zb_iload d_Mo_put_100 rfl ?_
  refine zb_iret d_Mo_put_102 rfl ⟨rfl, by rw [zu_ne σ1 _ (by decide)]; exact z1.1, ⟨fun k hk => by rw [zu_ne σ1 _ (by decide)]; exact (z1.mw hm).1 k hk, fun k i hk hi => ?_⟩, z1.j.tr ⟨fun q hq => zu_ne σ1 _ (by omega), rfl⟩⟩
  rw [zu_self]
  by_cases e : k = r
  · subst e
    rw [uM_s]
    by_cases e2 : i = t
    · rw [e2, pk_us, pk_us]
    · rw [pk_un e2, pk_un (by omega)]; exact (z1.mw hm).2 k i hk hi
  · rw [uM_n _ _ e, pk_un (by omega)]; exact (z1.mw hm).2 k i hk hi
set_option maxHeartbeats 4000000 in
set_option maxRecDepth 100000 in
theorem c_mput_2 (l : Launch) (G : zG) {σ : zS} {r t : Nat} {b : Int32} {M : Nat → Nat → Int32} {w : Nat → Nat} (hm : zmw σ M w) (hr : r < 8) (h1 : 1 ≤ w r) (h3 : w r ≤ 3) (ht : t < 4096) (hd : t % 2 ^ (12 - 4 * w r) = 0) (h0 : M r t = 0) (hb : M r t + b = 0) : zC l G y_Mo_put w_Mo_put (zrm 2 60) 0 0 [.ref (zad G 30), .int (nI r), .int (nI t), .int b] σ (fun v σ' => v = some (.int (M r t + b)) ∧ σ'.1 30 0 = 0 ∧ zmw σ' (uM M r (upd (M r) t (M r t + b))) w ∧ zj σ σ') := by
  refine zC_of (cc := c_Mo_put) (nL := 5) (ret := (some .int)) (own := R_Mo) (by decide +kernel) rfl rfl (Nat.le_of_ble_eq_true rfl) ?_
  refine zb_lv (lv' := [(0, .ref (zad G 30)), (1, .int (nI r)), (2, .int (nI t)), (3, .int b)]) rfl ?_
  refine zb_aload_n d_Mo_put_0 rfl rfl ?_
  refine zb_iload_n d_Mo_put_1 rfl rfl ?_
  refine zb_callV (rest := []) (c_none_n l G hr) (lk_Mo_36.cw rfl rfl ⟨Nat.le_of_ble_eq_true rfl, Nat.le_of_ble_eq_true rfl⟩) zgM rfl rfl rfl rfl (Nat.le_of_ble_eq_true rfl) d_Mo_put_2 ⟨Nat.le_of_ble_eq_true rfl, Nat.le_of_ble_eq_true rfl⟩ ?_
  rintro _ _ ⟨rfl, y1⟩
  rename_i σ1
  have z1 : zt σ σ1 0 := y1
  refine zb_st (st' := [.int 0]) rfl ?_
  refine zb_if_ne (tgt := 34) d_Mo_put_5 rfl (fun h5 => absurd h5 (fun z => z rfl)) (fun h5 => ?_)
  refine zb_aload_n d_Mo_put_8 rfl rfl ?_
  refine zb_iconst (v := 2) d_Mo_put_9 rfl ?_
  refine zb_iload_n d_Mo_put_10 rfl rfl ?_
  refine zb_aload_n d_Mo_put_11 rfl rfl ?_
  refine zm_width d_Mo_put_12 fl_Mo_13 ?_
  refine zb_iload_n d_Mo_put_15 rfl rfl ?_
  refine zb_ialdN (q := 31) (j := r) d_Mo_put_16 (ia31) (show r < 8 from hr) ?_
  refine zb_top (y := nI (w r)) ((z1.mw hm).1 r hr) ?_
  refine zb_callS (rest := [.int 2, .ref (zad G 30)]) (c_mT_y l G h1 h3 ht hd) (lk_Mo_44.cw rfl rfl ⟨Nat.le_of_ble_eq_true rfl, Nat.le_of_ble_eq_true rfl⟩) rfl rfl (Nat.le_of_ble_eq_true rfl) d_Mo_put_17 ⟨Nat.le_of_ble_eq_true rfl, Nat.le_of_ble_eq_true rfl⟩ ?_
  rintro _ _ ⟨rfl, rfl⟩
  refine zb_st (st' := [.int 1, .int 2, .ref (zad G 30)]) rfl ?_
  refine zb_if_ne (tgt := 27) d_Mo_put_20 rfl (fun h20 => ?_) (fun h20 => absurd h20 (by decide))
  refine zb_iconst (v := 0) d_Mo_put_27 rfl ?_
  refine zb_callV (rest := []) (c_refuse_n l G) (lk_Mo_28.cw rfl rfl ⟨Nat.le_of_ble_eq_true rfl, Nat.le_of_ble_eq_true rfl⟩) zgM rfl rfl rfl rfl (Nat.le_of_ble_eq_true rfl) d_Mo_put_28 ⟨Nat.le_of_ble_eq_true rfl, Nat.le_of_ble_eq_true rfl⟩ ?_
  rintro _ _ ⟨rfl, rfl⟩
  refine zb_st (st' := [.int 0]) rfl ?_
  refine zb_if_eq (tgt := 36) d_Mo_put_31 rfl (fun h31 => ?_) (fun h31 => absurd rfl h31)
  refine zb_aload_n d_Mo_put_36 rfl rfl ?_
  refine zb_iload_n d_Mo_put_37 rfl rfl ?_
  refine zb_iload_n d_Mo_put_38 rfl rfl ?_
  refine zb_callV (rest := []) (c_of l G (z1.mw hm) hr ht) (lk_Mo_48.cw rfl rfl ⟨Nat.le_of_ble_eq_true rfl, Nat.le_of_ble_eq_true rfl⟩) zgM rfl rfl rfl rfl (Nat.le_of_ble_eq_true rfl) d_Mo_put_39 ⟨Nat.le_of_ble_eq_true rfl, Nat.le_of_ble_eq_true rfl⟩ ?_
  rintro _ _ ⟨rfl, rfl⟩
  refine zb_st (st' := [.int (M r t)]) rfl ?_
  refine zb_iload_n d_Mo_put_42 rfl rfl ?_
  refine zb_iadd d_Mo_put_43 ?_
  refine zb_istore (lv' := [(4, .int ((M r t) + b)), (0, .ref (zad G 30)), (1, .int (nI r)), (2, .int (nI t)), (3, .int b)]) d_Mo_put_44 (by decide) rfl ?_
  refine zb_aload_n d_Mo_put_46 rfl rfl ?_
  refine zb_iconst (v := 3) d_Mo_put_47 rfl ?_
  refine zb_aload_n d_Mo_put_48 rfl rfl ?_
  refine zb_iload_n d_Mo_put_49 rfl rfl ?_
  refine zb_iload_n d_Mo_put_50 rfl rfl ?_
  refine zb_callV (rest := [.int 3, .ref (zad G 30)]) (c_of l G (z1.mw hm) hr ht) (lk_Mo_48.cw rfl rfl ⟨Nat.le_of_ble_eq_true rfl, Nat.le_of_ble_eq_true rfl⟩) zgM rfl rfl rfl rfl (Nat.le_of_ble_eq_true rfl) d_Mo_put_51 ⟨Nat.le_of_ble_eq_true rfl, Nat.le_of_ble_eq_true rfl⟩ ?_
  rintro _ _ ⟨rfl, rfl⟩
  refine zb_st (st' := [.int (M r t), .int 3, .ref (zad G 30)]) rfl ?_
  refine zb_if_ne (tgt := 77) d_Mo_put_54 rfl (fun h54 => absurd h54 (fun z => z h0)) (fun h54 => ?_)
  refine zb_iload d_Mo_put_57 rfl ?_
  refine zb_if_eq (tgt := 77) d_Mo_put_59 rfl (fun h59 => ?_) (fun h59 => absurd hb h59)
  refine zb_iconst (v := 0) d_Mo_put_77 rfl ?_
  refine zb_callV (rest := []) (c_refuse_n l G) (lk_Mo_28.cw rfl rfl ⟨Nat.le_of_ble_eq_true rfl, Nat.le_of_ble_eq_true rfl⟩) zgM rfl rfl rfl rfl (Nat.le_of_ble_eq_true rfl) d_Mo_put_78 ⟨Nat.le_of_ble_eq_true rfl, Nat.le_of_ble_eq_true rfl⟩ ?_
  rintro _ _ ⟨rfl, rfl⟩
  refine zb_st (st' := [.int 0]) rfl ?_
  refine zb_if_eq (tgt := 86) d_Mo_put_81 rfl (fun h81 => ?_) (fun h81 => absurd rfl h81)
  refine zb_aload_n d_Mo_put_86 rfl rfl ?_
  refine zm_counts d_Mo_put_87 fl_Mo_18 ?_
  refine zb_sipush (v := 4096) d_Mo_put_90 rfl ?_
  refine zb_iload_n d_Mo_put_93 rfl rfl ?_
  refine zb_imul d_Mo_put_94 ?_
  refine zb_top (y := nI (4096 * r)) (pk_mul 4096 r) ?_
  refine zb_iload_n d_Mo_put_95 rfl rfl ?_
  refine zb_iadd d_Mo_put_96 ?_
  refine zb_top (y := nI (4096 * r + t)) (nI_add _ _) ?_
  refine zb_iload d_Mo_put_97 rfl ?_
  refine zb_iastN (q := 32) (j := (4096 * r + t)) d_Mo_put_99 (ia32) (show 4096 * r + t < 32768 by omega) ?_
  refine zb_iload d_Mo_put_100 rfl ?_
  refine zb_iret d_Mo_put_102 rfl ⟨rfl, by rw [zu_ne σ1 _ (by decide)]; exact z1.1, ⟨fun k hk => by rw [zu_ne σ1 _ (by decide)]; exact (z1.mw hm).1 k hk, fun k i hk hi => ?_⟩, z1.j.tr ⟨fun q hq => zu_ne σ1 _ (by omega), rfl⟩⟩
  rw [zu_self]
  by_cases e : k = r
  · subst e
    rw [uM_s]
    by_cases e2 : i = t
    · rw [e2, pk_us, pk_us]
    · rw [pk_un e2, pk_un (by omega)]; exact (z1.mw hm).2 k i hk hi
  · rw [uM_n _ _ e, pk_un (by omega)]; exact (z1.mw hm).2 k i hk hi
set_option maxHeartbeats 4000000 in
set_option maxRecDepth 100000 in
theorem c_mput_3 (l : Launch) (G : zG) {σ : zS} {r t : Nat} {b : Int32} {M : Nat → Nat → Int32} {w : Nat → Nat} (hm : zmw σ M w) (hr : r < 8) (h1 : 1 ≤ w r) (h3 : w r ≤ 3) (ht : t < 4096) (hd : t % 2 ^ (12 - 4 * w r) = 0) (h0 : M r t = 0) (hb : ¬ M r t + b = 0) (hn : zct (M r) 4096 ≠ 300) : zC l G y_Mo_put w_Mo_put (zrm 2 60) 0 0 [.ref (zad G 30), .int (nI r), .int (nI t), .int b] σ (fun v σ' => v = some (.int (M r t + b)) ∧ σ'.1 30 0 = 0 ∧ zmw σ' (uM M r (upd (M r) t (M r t + b))) w ∧ zj σ σ') := by
  refine zC_of (cc := c_Mo_put) (nL := 5) (ret := (some .int)) (own := R_Mo) (by decide +kernel) rfl rfl (Nat.le_of_ble_eq_true rfl) ?_
  refine zb_lv (lv' := [(0, .ref (zad G 30)), (1, .int (nI r)), (2, .int (nI t)), (3, .int b)]) rfl ?_
  refine zb_aload_n d_Mo_put_0 rfl rfl ?_
  refine zb_iload_n d_Mo_put_1 rfl rfl ?_
  refine zb_callV (rest := []) (c_none_n l G hr) (lk_Mo_36.cw rfl rfl ⟨Nat.le_of_ble_eq_true rfl, Nat.le_of_ble_eq_true rfl⟩) zgM rfl rfl rfl rfl (Nat.le_of_ble_eq_true rfl) d_Mo_put_2 ⟨Nat.le_of_ble_eq_true rfl, Nat.le_of_ble_eq_true rfl⟩ ?_
  rintro _ _ ⟨rfl, y1⟩
  rename_i σ1
  have z1 : zt σ σ1 0 := y1
  refine zb_st (st' := [.int 0]) rfl ?_
  refine zb_if_ne (tgt := 34) d_Mo_put_5 rfl (fun h5 => absurd h5 (fun z => z rfl)) (fun h5 => ?_)
  refine zb_aload_n d_Mo_put_8 rfl rfl ?_
  refine zb_iconst (v := 2) d_Mo_put_9 rfl ?_
  refine zb_iload_n d_Mo_put_10 rfl rfl ?_
  refine zb_aload_n d_Mo_put_11 rfl rfl ?_
  refine zm_width d_Mo_put_12 fl_Mo_13 ?_
  refine zb_iload_n d_Mo_put_15 rfl rfl ?_
  refine zb_ialdN (q := 31) (j := r) d_Mo_put_16 (ia31) (show r < 8 from hr) ?_
  refine zb_top (y := nI (w r)) ((z1.mw hm).1 r hr) ?_
  refine zb_callS (rest := [.int 2, .ref (zad G 30)]) (c_mT_y l G h1 h3 ht hd) (lk_Mo_44.cw rfl rfl ⟨Nat.le_of_ble_eq_true rfl, Nat.le_of_ble_eq_true rfl⟩) rfl rfl (Nat.le_of_ble_eq_true rfl) d_Mo_put_17 ⟨Nat.le_of_ble_eq_true rfl, Nat.le_of_ble_eq_true rfl⟩ ?_
  rintro _ _ ⟨rfl, rfl⟩
  refine zb_st (st' := [.int 1, .int 2, .ref (zad G 30)]) rfl ?_
  refine zb_if_ne (tgt := 27) d_Mo_put_20 rfl (fun h20 => ?_) (fun h20 => absurd h20 (by decide))
  refine zb_iconst (v := 0) d_Mo_put_27 rfl ?_
  refine zb_callV (rest := []) (c_refuse_n l G) (lk_Mo_28.cw rfl rfl ⟨Nat.le_of_ble_eq_true rfl, Nat.le_of_ble_eq_true rfl⟩) zgM rfl rfl rfl rfl (Nat.le_of_ble_eq_true rfl) d_Mo_put_28 ⟨Nat.le_of_ble_eq_true rfl, Nat.le_of_ble_eq_true rfl⟩ ?_
  rintro _ _ ⟨rfl, rfl⟩
  refine zb_st (st' := [.int 0]) rfl ?_
  refine zb_if_eq (tgt := 36) d_Mo_put_31 rfl (fun h31 => ?_) (fun h31 => absurd rfl h31)
  refine zb_aload_n d_Mo_put_36 rfl rfl ?_
  refine zb_iload_n d_Mo_put_37 rfl rfl ?_
  refine zb_iload_n d_Mo_put_38 rfl rfl ?_
  refine zb_callV (rest := []) (c_of l G (z1.mw hm) hr ht) (lk_Mo_48.cw rfl rfl ⟨Nat.le_of_ble_eq_true rfl, Nat.le_of_ble_eq_true rfl⟩) zgM rfl rfl rfl rfl (Nat.le_of_ble_eq_true rfl) d_Mo_put_39 ⟨Nat.le_of_ble_eq_true rfl, Nat.le_of_ble_eq_true rfl⟩ ?_
  rintro _ _ ⟨rfl, rfl⟩
  refine zb_st (st' := [.int (M r t)]) rfl ?_
  refine zb_iload_n d_Mo_put_42 rfl rfl ?_
  refine zb_iadd d_Mo_put_43 ?_
  refine zb_istore (lv' := [(4, .int ((M r t) + b)), (0, .ref (zad G 30)), (1, .int (nI r)), (2, .int (nI t)), (3, .int b)]) d_Mo_put_44 (by decide) rfl ?_
  refine zb_aload_n d_Mo_put_46 rfl rfl ?_
  refine zb_iconst (v := 3) d_Mo_put_47 rfl ?_
  refine zb_aload_n d_Mo_put_48 rfl rfl ?_
  refine zb_iload_n d_Mo_put_49 rfl rfl ?_
  refine zb_iload_n d_Mo_put_50 rfl rfl ?_
  refine zb_callV (rest := [.int 3, .ref (zad G 30)]) (c_of l G (z1.mw hm) hr ht) (lk_Mo_48.cw rfl rfl ⟨Nat.le_of_ble_eq_true rfl, Nat.le_of_ble_eq_true rfl⟩) zgM rfl rfl rfl rfl (Nat.le_of_ble_eq_true rfl) d_Mo_put_51 ⟨Nat.le_of_ble_eq_true rfl, Nat.le_of_ble_eq_true rfl⟩ ?_
  rintro _ _ ⟨rfl, rfl⟩
  refine zb_st (st' := [.int (M r t), .int 3, .ref (zad G 30)]) rfl ?_
  refine zb_if_ne (tgt := 77) d_Mo_put_54 rfl (fun h54 => absurd h54 (fun z => z h0)) (fun h54 => ?_)
  refine zb_iload d_Mo_put_57 rfl ?_
  refine zb_if_eq (tgt := 77) d_Mo_put_59 rfl (fun h59 => absurd h59 hb) (fun h59 => ?_)
  refine zb_aload_n d_Mo_put_62 rfl rfl ?_
  refine zb_iload_n d_Mo_put_63 rfl rfl ?_
  refine zb_callV (rest := [.int 3, .ref (zad G 30)]) (c_in l G (z1.mw hm) hr) (lk_Mo_40.cw rfl rfl ⟨Nat.le_of_ble_eq_true rfl, Nat.le_of_ble_eq_true rfl⟩) zgM rfl rfl rfl rfl (Nat.le_of_ble_eq_true rfl) d_Mo_put_64 ⟨Nat.le_of_ble_eq_true rfl, Nat.le_of_ble_eq_true rfl⟩ ?_
  rintro _ _ ⟨rfl, rfl⟩
  refine zb_st (st' := [.int (nI (zct (M r) 4096)), .int 3, .ref (zad G 30)]) rfl ?_
  refine zb_sipush (v := 300) d_Mo_put_67 rfl ?_
  refine zb_icmp_ne (tgt := 77) d_Mo_put_70 rfl (fun h70 => ?_) (fun h70 => absurd ((nI_eq (b := 300) (by have := zct_le (M r) 4096; omega) (by decide)).mp h70) hn)
  refine zb_iconst (v := 0) d_Mo_put_77 rfl ?_
  refine zb_callV (rest := []) (c_refuse_n l G) (lk_Mo_28.cw rfl rfl ⟨Nat.le_of_ble_eq_true rfl, Nat.le_of_ble_eq_true rfl⟩) zgM rfl rfl rfl rfl (Nat.le_of_ble_eq_true rfl) d_Mo_put_78 ⟨Nat.le_of_ble_eq_true rfl, Nat.le_of_ble_eq_true rfl⟩ ?_
  rintro _ _ ⟨rfl, rfl⟩
  refine zb_st (st' := [.int 0]) rfl ?_
  refine zb_if_eq (tgt := 86) d_Mo_put_81 rfl (fun h81 => ?_) (fun h81 => absurd rfl h81)
  refine zb_aload_n d_Mo_put_86 rfl rfl ?_
  refine zm_counts d_Mo_put_87 fl_Mo_18 ?_
  refine zb_sipush (v := 4096) d_Mo_put_90 rfl ?_
  refine zb_iload_n d_Mo_put_93 rfl rfl ?_
  refine zb_imul d_Mo_put_94 ?_
  refine zb_top (y := nI (4096 * r)) (pk_mul 4096 r) ?_
  refine zb_iload_n d_Mo_put_95 rfl rfl ?_
  refine zb_iadd d_Mo_put_96 ?_
  refine zb_top (y := nI (4096 * r + t)) (nI_add _ _) ?_
  refine zb_iload d_Mo_put_97 rfl ?_
  refine zb_iastN (q := 32) (j := (4096 * r + t)) d_Mo_put_99 (ia32) (show 4096 * r + t < 32768 by omega) ?_
  refine zb_iload d_Mo_put_100 rfl ?_
  refine zb_iret d_Mo_put_102 rfl ⟨rfl, by rw [zu_ne σ1 _ (by decide)]; exact z1.1, ⟨fun k hk => by rw [zu_ne σ1 _ (by decide)]; exact (z1.mw hm).1 k hk, fun k i hk hi => ?_⟩, z1.j.tr ⟨fun q hq => zu_ne σ1 _ (by omega), rfl⟩⟩
  rw [zu_self]
  by_cases e : k = r
  · subst e
    rw [uM_s]
    by_cases e2 : i = t
    · rw [e2, pk_us, pk_us]
    · rw [pk_un e2, pk_un (by omega)]; exact (z1.mw hm).2 k i hk hi
  · rw [uM_n _ _ e, pk_un (by omega)]; exact (z1.mw hm).2 k i hk hi
set_option maxHeartbeats 4000000 in
set_option maxRecDepth 100000 in
theorem c_mat_ns (l : Launch) (G : zG) {σ : zS} {x y : Int32} (h : ¬ zgr x) : zC l G y_Mo_at w_Mo_at (zrm 2 60) 0 0 [.ref (zad G 30), .int x, .int y] σ (fun v σ' => v = some (.int 0) ∧ zt σ σ' 1) := by
  refine zC_of (cc := c_Mo_at) (nL := 5) (ret := (some .int)) (own := R_Mo) (by decide +kernel) rfl rfl (Nat.le_of_ble_eq_true rfl) ?_
  refine zb_lv (lv' := [(0, .ref (zad G 30)), (1, .int x), (2, .int y)]) rfl ?_
  by_cases hx : zgr x
  · exact absurd hx h
  · refine zb_aload_n d_Mo_at_0 rfl rfl ?_
    refine zb_iload_n d_Mo_at_1 rfl rfl ?_
    refine zb_callV (rest := []) (c_none_y l G hx) (lk_Mo_36.cw rfl rfl ⟨Nat.le_of_ble_eq_true rfl, Nat.le_of_ble_eq_true rfl⟩) zgM rfl rfl rfl rfl (Nat.le_of_ble_eq_true rfl) d_Mo_at_2 ⟨Nat.le_of_ble_eq_true rfl, Nat.le_of_ble_eq_true rfl⟩ ?_
    rintro _ _ ⟨rfl, y9⟩
    rename_i σ9
    refine zb_st (st' := [.int 1]) rfl ?_
    refine zb_if_eq (tgt := 10) d_Mo_at_5 rfl (fun h5 => absurd h5 (by decide)) (fun h5 => ?_)
    refine zb_iconst (v := 0) d_Mo_at_8 rfl ?_
    exact zb_iret d_Mo_at_9 rfl ⟨rfl, y9⟩
theorem zct_s (m : Nat → Int32) (k : Nat) : zct m (k + 1) = if m k = 0 then zct m k else zct m k + 1 := rfl
theorem zct_up (m : Nat → Int32) {i : Nat} : ∀ j, i ≤ j → zct m i ≤ zct m j := by
  intro j
  induction j with
  | zero => intro h; rw [Nat.le_zero.mp h]; exact Nat.le_refl _
  | succ j ih =>
    intro h
    rcases Nat.lt_or_eq_of_le h with z | z
    · rw [zct_s]
      have := ih (by omega)
      split <;> omega
    · rw [z]; exact Nat.le_refl _
theorem i_subs (y : Int32) (c : Nat) : y - nI c + (-1) = y - nI (c + 1) := by
  rw [nI_succ]
  apply Int32.toBitVec_inj.mp
  simp only [Int32.toBitVec_add, Int32.toBitVec_sub]
  show y.toBitVec - (nI c).toBitVec + (-1#32) = y.toBitVec - ((nI c).toBitVec + 1#32)
  generalize y.toBitVec = a
  generalize (nI c).toBitVec = b
  bv_omega
theorem i_sub0 {y : Int32} {c : Nat} (h : y - nI c = 0) : y = nI c := by
  have : y.toBitVec - (nI c).toBitVec = 0#32 := congrArg Int32.toBitVec h
  apply Int32.toBitVec_inj.mp
  generalize y.toBitVec = a at this ⊢
  generalize (nI c).toBitVec = b at this ⊢
  bv_omega
set_option maxHeartbeats 4000000 in
set_option maxRecDepth 100000 in
theorem lp_at1 (l : Launch) (G : zG) {σ : zS} {r t k : Nat} {y : Int32} {M : Nat → Nat → Int32} {w : Nat → Nat} (hm : zmw σ M w) (hr : r < 8) (ht4 : t < 4096) (ht : ¬ M r t = 0) (hk : zct (M r) t = k) (hy : y = nI k) {φ : Option Value → zS → Prop} (hφ : φ (some (.int (nI t))) σ) : ∀ d i : Nat, i + d = t → zB l G w_Mo_at R_Mo c_Mo_at 5 (some .int) [] (zrm 2 60) (zR G φ 0 0) 0 0 15 [(4, .int (nI i)), (3, .int (y - nI (zct (M r) i))), (0, .ref (zad G 30)), (1, .int (nI r)), (2, .int y)] [] σ := by
  intro d
  induction d with
  | zero =>
    intro i hi
    have e : i = t := by omega
    have hlt : i < 4096 := by omega
    refine zb_iload d_Mo_at_15 rfl ?_
    refine zb_sipush (v := 4096) d_Mo_at_17 rfl ?_
    refine zb_icmp_ge (tgt := 52) d_Mo_at_20 rfl (fun h20 => absurd h20 (nI_ge (a := i) (b := 4096) (by omega) (by omega))) (fun h20 => ?_)
    refine zb_aload_n d_Mo_at_23 rfl rfl ?_
    refine zb_iload_n d_Mo_at_24 rfl rfl ?_
    refine zb_iload d_Mo_at_25 rfl ?_
    refine zb_callV (rest := []) (c_of l G hm hr (show i < 4096 by omega)) (lk_Mo_48.cw rfl rfl ⟨Nat.le_of_ble_eq_true rfl, Nat.le_of_ble_eq_true rfl⟩) zgM rfl rfl rfl rfl (Nat.le_of_ble_eq_true rfl) d_Mo_at_27 ⟨Nat.le_of_ble_eq_true rfl, Nat.le_of_ble_eq_true rfl⟩ ?_
    rintro _ _ ⟨rfl, rfl⟩
    refine zb_st (st' := [.int (M r i)]) rfl ?_
    refine zb_if_ne (tgt := 36) d_Mo_at_30 rfl (fun h30 => ?_) (fun h30 => absurd h30 (by rw [e]; exact ht))
    refine zb_iload_n d_Mo_at_36 rfl rfl ?_
    refine zb_if_ne (tgt := 43) d_Mo_at_37 rfl (fun h37 => absurd h37 (fun z => z (by rw [hy, e, hk]; exact Int32.sub_self _))) (fun h37 => ?_)
    refine zb_iload d_Mo_at_40 rfl ?_
    exact zb_iret d_Mo_at_42 rfl (by rw [e]; exact hφ)
  | succ d ih =>
    intro i hi
    have hlt : i < 4096 := by omega
    have hle := zct_le (M r) t
    have hup : ¬ M r i = 0 → zct (M r) i + 1 ≤ k := fun z => by
      have h9 := zct_up (M r) (i := i + 1) t (by omega)
      rw [zct_s, if_neg z] at h9
      omega
    refine zb_iload d_Mo_at_15 rfl ?_
    refine zb_sipush (v := 4096) d_Mo_at_17 rfl ?_
    refine zb_icmp_ge (tgt := 52) d_Mo_at_20 rfl (fun h20 => absurd h20 (nI_ge (a := i) (b := 4096) (by omega) (by omega))) (fun h20 => ?_)
    refine zb_aload_n d_Mo_at_23 rfl rfl ?_
    refine zb_iload_n d_Mo_at_24 rfl rfl ?_
    refine zb_iload d_Mo_at_25 rfl ?_
    refine zb_callV (rest := []) (c_of l G hm hr (show i < 4096 by omega)) (lk_Mo_48.cw rfl rfl ⟨Nat.le_of_ble_eq_true rfl, Nat.le_of_ble_eq_true rfl⟩) zgM rfl rfl rfl rfl (Nat.le_of_ble_eq_true rfl) d_Mo_at_27 ⟨Nat.le_of_ble_eq_true rfl, Nat.le_of_ble_eq_true rfl⟩ ?_
    rintro _ _ ⟨rfl, rfl⟩
    refine zb_st (st' := [.int (M r i)]) rfl ?_
    refine zb_if_ne (tgt := 36) d_Mo_at_30 rfl (fun h30 => ?_) (fun h30 => ?_)
    · refine zb_iload_n d_Mo_at_36 rfl rfl ?_
      refine zb_if_ne (tgt := 43) d_Mo_at_37 rfl (fun h37 => ?_) (fun h37 => absurd (hy.symm.trans (i_sub0 h37)) (fun z => by have h8 := hup h30; have := (nI_eq (by omega) (by omega)).mp z; omega))
      refine zb_iinc (v := y - nI (zct (M r) i + 1)) (lv' := [(3, .int (y - nI (zct (M r) i + 1))), (4, .int (nI i)), (0, .ref (zad G 30)), (1, .int (nI r)), (2, .int y)]) d_Mo_at_43 rfl (i_subs _ _) (by decide) rfl ?_
      refine zb_iinc (v := nI (i + 1)) (lv' := [(4, .int (nI (i + 1))), (3, .int (y - nI (zct (M r) i + 1))), (0, .ref (zad G 30)), (1, .int (nI r)), (2, .int y)]) d_Mo_at_46 rfl (nI_1 i) (by decide) rfl ?_
      refine zb_goto (tgt := 15) d_Mo_at_49 rfl ?_
      have e9 : zct (M r) (i + 1) = zct (M r) i + 1 := if_neg h30
      refine zb_sub [0, 1, 2, 3, 4] rfl ?_
      have hh := ih (i + 1) (by omega)
      rw [e9] at hh
      exact hh
    · refine zb_goto (tgt := 46) d_Mo_at_33 rfl ?_
      refine zb_iinc (v := nI (i + 1)) (lv' := [(4, .int (nI (i + 1))), (3, .int (y - nI (zct (M r) i))), (0, .ref (zad G 30)), (1, .int (nI r)), (2, .int y)]) d_Mo_at_46 rfl (nI_1 i) (by decide) rfl ?_
      refine zb_goto (tgt := 15) d_Mo_at_49 rfl ?_
      have e9 : zct (M r) (i + 1) = zct (M r) i := if_pos h30
      refine zb_sub [0, 1, 2, 3, 4] rfl ?_
      have hh := ih (i + 1) (by omega)
      rw [e9] at hh
      exact hh
set_option maxHeartbeats 4000000 in
set_option maxRecDepth 100000 in
theorem lp_at2 (l : Launch) (G : zG) {σ : zS} {r : Nat} {y : Int32} {M : Nat → Nat → Int32} {w : Nat → Nat} (hm : zmw σ M w) (hr : r < 8) (hy : ∀ c, c < zct (M r) 4096 → ¬ y = nI c) {φ : Option Value → zS → Prop} (hφ : φ (some (.int 0)) (zu σ 30 (upd (σ.1 30) 0 1))) : ∀ d i : Nat, i + d = 4096 → zB l G w_Mo_at R_Mo c_Mo_at 5 (some .int) [] (zrm 2 60) (zR G φ 0 0) 0 0 15 [(4, .int (nI i)), (3, .int (y - nI (zct (M r) i))), (0, .ref (zad G 30)), (1, .int (nI r)), (2, .int y)] [] σ := by
  intro d
  induction d with
  | zero =>
    intro i hi
    have e : i = 4096 := by omega
    refine zb_iload d_Mo_at_15 rfl ?_
    refine zb_sipush (v := 4096) d_Mo_at_17 rfl ?_
    refine zb_icmp_ge (tgt := 52) d_Mo_at_20 rfl (fun h20 => ?_) (fun h20 => absurd (nI_le (a := 4096) (b := i) (by omega) (by omega)) h20)
    refine zb_aload_n d_Mo_at_52 rfl rfl ?_
    refine zb_iconst (v := 1) d_Mo_at_53 rfl ?_
    refine zm_put_thrown d_Mo_at_54 fl_Mo_7 ?_
    refine zb_iconst (v := 0) d_Mo_at_57 rfl ?_
    exact zb_iret d_Mo_at_58 rfl hφ
  | succ d ih =>
    intro i hi
    have hlt : i < 4096 := by omega
    have hup : ¬ M r i = 0 → zct (M r) i < zct (M r) 4096 := fun z => by
      have h9 := zct_up (M r) (i := i + 1) 4096 (by omega)
      rw [zct_s, if_neg z] at h9
      omega
    refine zb_iload d_Mo_at_15 rfl ?_
    refine zb_sipush (v := 4096) d_Mo_at_17 rfl ?_
    refine zb_icmp_ge (tgt := 52) d_Mo_at_20 rfl (fun h20 => absurd h20 (nI_ge (a := i) (b := 4096) (by omega) (by omega))) (fun h20 => ?_)
    refine zb_aload_n d_Mo_at_23 rfl rfl ?_
    refine zb_iload_n d_Mo_at_24 rfl rfl ?_
    refine zb_iload d_Mo_at_25 rfl ?_
    refine zb_callV (rest := []) (c_of l G hm hr (show i < 4096 by omega)) (lk_Mo_48.cw rfl rfl ⟨Nat.le_of_ble_eq_true rfl, Nat.le_of_ble_eq_true rfl⟩) zgM rfl rfl rfl rfl (Nat.le_of_ble_eq_true rfl) d_Mo_at_27 ⟨Nat.le_of_ble_eq_true rfl, Nat.le_of_ble_eq_true rfl⟩ ?_
    rintro _ _ ⟨rfl, rfl⟩
    refine zb_st (st' := [.int (M r i)]) rfl ?_
    refine zb_if_ne (tgt := 36) d_Mo_at_30 rfl (fun h30 => ?_) (fun h30 => ?_)
    · refine zb_iload_n d_Mo_at_36 rfl rfl ?_
      refine zb_if_ne (tgt := 43) d_Mo_at_37 rfl (fun h37 => ?_) (fun h37 => absurd (i_sub0 h37) (hy _ (hup h30)))
      refine zb_iinc (v := y - nI (zct (M r) i + 1)) (lv' := [(3, .int (y - nI (zct (M r) i + 1))), (4, .int (nI i)), (0, .ref (zad G 30)), (1, .int (nI r)), (2, .int y)]) d_Mo_at_43 rfl (i_subs _ _) (by decide) rfl ?_
      refine zb_iinc (v := nI (i + 1)) (lv' := [(4, .int (nI (i + 1))), (3, .int (y - nI (zct (M r) i + 1))), (0, .ref (zad G 30)), (1, .int (nI r)), (2, .int y)]) d_Mo_at_46 rfl (nI_1 i) (by decide) rfl ?_
      refine zb_goto (tgt := 15) d_Mo_at_49 rfl ?_
      have e9 : zct (M r) (i + 1) = zct (M r) i + 1 := if_neg h30
      refine zb_sub [0, 1, 2, 3, 4] rfl ?_
      have hh := ih (i + 1) (by omega)
      rw [e9] at hh
      exact hh
    · refine zb_goto (tgt := 46) d_Mo_at_33 rfl ?_
      refine zb_iinc (v := nI (i + 1)) (lv' := [(4, .int (nI (i + 1))), (3, .int (y - nI (zct (M r) i))), (0, .ref (zad G 30)), (1, .int (nI r)), (2, .int y)]) d_Mo_at_46 rfl (nI_1 i) (by decide) rfl ?_
      refine zb_goto (tgt := 15) d_Mo_at_49 rfl ?_
      have e9 : zct (M r) (i + 1) = zct (M r) i := if_pos h30
      refine zb_sub [0, 1, 2, 3, 4] rfl ?_
      have hh := ih (i + 1) (by omega)
      rw [e9] at hh
      exact hh
set_option maxHeartbeats 4000000 in
set_option maxRecDepth 100000 in
/-- at(r, k) -/
theorem c_mat (l : Launch) (G : zG) {σ : zS} {r t k : Nat} {y : Int32} {M : Nat → Nat → Int32} {w : Nat → Nat} (hm : zmw σ M w) (hr : r < 8) (ht4 : t < 4096) (ht : ¬ M r t = 0) (hk : zct (M r) t = k) (hy : y = nI k) : zC l G y_Mo_at w_Mo_at (zrm 2 60) 0 0 [.ref (zad G 30), .int (nI r), .int y] σ (fun v σ' => v = some (.int (nI t)) ∧ zt σ σ' 0) := by
  refine zC_of (cc := c_Mo_at) (nL := 5) (ret := (some .int)) (own := R_Mo) (by decide +kernel) rfl rfl (Nat.le_of_ble_eq_true rfl) ?_
  refine zb_lv (lv' := [(0, .ref (zad G 30)), (1, .int (nI r)), (2, .int y)]) rfl ?_
  refine zb_aload_n d_Mo_at_0 rfl rfl ?_
  refine zb_iload_n d_Mo_at_1 rfl rfl ?_
  refine zb_callV (rest := []) (c_none_n l G hr) (lk_Mo_36.cw rfl rfl ⟨Nat.le_of_ble_eq_true rfl, Nat.le_of_ble_eq_true rfl⟩) zgM rfl rfl rfl rfl (Nat.le_of_ble_eq_true rfl) d_Mo_at_2 ⟨Nat.le_of_ble_eq_true rfl, Nat.le_of_ble_eq_true rfl⟩ ?_
  rintro _ _ ⟨rfl, y1⟩
  rename_i σ1
  have z1 : zt σ σ1 0 := y1
  refine zb_st (st' := [.int 0]) rfl ?_
  refine zb_if_eq (tgt := 10) d_Mo_at_5 rfl (fun h5 => ?_) (fun h5 => absurd rfl h5)
  refine zb_iload_n d_Mo_at_10 rfl rfl ?_
  refine zb_istore_n (lv' := [(3, .int y), (0, .ref (zad G 30)), (1, .int (nI r)), (2, .int y)]) d_Mo_at_11 rfl (by decide) rfl ?_
  refine zb_iconst (v := 0) d_Mo_at_12 rfl ?_
  refine zb_istore (lv' := [(4, .int 0), (3, .int y), (0, .ref (zad G 30)), (1, .int (nI r)), (2, .int y)]) d_Mo_at_13 (by decide) rfl ?_
  refine zb_lv (lv' := [(4, .int (nI 0)), (3, .int (y - nI (zct (M r) 0))), (0, .ref (zad G 30)), (1, .int (nI r)), (2, .int y)]) (by rw [show y - nI (zct (M r) 0) = y from Int32.sub_zero y]; rfl) ?_
  exact lp_at1 l G (z1.mw hm) hr ht4 ht hk hy ⟨rfl, z1⟩ t 0 (by omega)
set_option maxHeartbeats 4000000 in
set_option maxRecDepth 100000 in
theorem c_mat_no (l : Launch) (G : zG) {σ : zS} {r : Nat} {y : Int32} {M : Nat → Nat → Int32} {w : Nat → Nat} (hm : zmw σ M w) (hr : r < 8) (hy : ∀ c, c < zct (M r) 4096 → ¬ y = nI c) : zC l G y_Mo_at w_Mo_at (zrm 2 60) 0 0 [.ref (zad G 30), .int (nI r), .int y] σ (fun v σ' => v = some (.int 0) ∧ zt σ σ' 1) := by
  refine zC_of (cc := c_Mo_at) (nL := 5) (ret := (some .int)) (own := R_Mo) (by decide +kernel) rfl rfl (Nat.le_of_ble_eq_true rfl) ?_
  refine zb_lv (lv' := [(0, .ref (zad G 30)), (1, .int (nI r)), (2, .int y)]) rfl ?_
  refine zb_aload_n d_Mo_at_0 rfl rfl ?_
  refine zb_iload_n d_Mo_at_1 rfl rfl ?_
  refine zb_callV (rest := []) (c_none_n l G hr) (lk_Mo_36.cw rfl rfl ⟨Nat.le_of_ble_eq_true rfl, Nat.le_of_ble_eq_true rfl⟩) zgM rfl rfl rfl rfl (Nat.le_of_ble_eq_true rfl) d_Mo_at_2 ⟨Nat.le_of_ble_eq_true rfl, Nat.le_of_ble_eq_true rfl⟩ ?_
  rintro _ _ ⟨rfl, y1⟩
  rename_i σ1
  have z1 : zt σ σ1 0 := y1
  refine zb_st (st' := [.int 0]) rfl ?_
  refine zb_if_eq (tgt := 10) d_Mo_at_5 rfl (fun h5 => ?_) (fun h5 => absurd rfl h5)
  refine zb_iload_n d_Mo_at_10 rfl rfl ?_
  refine zb_istore_n (lv' := [(3, .int y), (0, .ref (zad G 30)), (1, .int (nI r)), (2, .int y)]) d_Mo_at_11 rfl (by decide) rfl ?_
  refine zb_iconst (v := 0) d_Mo_at_12 rfl ?_
  refine zb_istore (lv' := [(4, .int 0), (3, .int y), (0, .ref (zad G 30)), (1, .int (nI r)), (2, .int y)]) d_Mo_at_13 (by decide) rfl ?_
  refine zb_lv (lv' := [(4, .int (nI 0)), (3, .int (y - nI (zct (M r) 0))), (0, .ref (zad G 30)), (1, .int (nI r)), (2, .int y)]) (by rw [show y - nI (zct (M r) 0) = y from Int32.sub_zero y]; rfl) ?_
  exact lp_at2 l G (z1.mw hm) hr hy ⟨rfl, z1.tr (zt_zu σ1 1)⟩ 4096 0 (by omega)
end
section
theorem zo.mw {σ τ : zS} {m : Nat → Int32} {M : Nat → Nat → Int32} {w : Nat → Nat} (h : zo σ τ m) (hm : zmw σ M w) : zmw τ M w := hm.same (h.2.1 31 (by decide)) (h.2.1 32 (by decide))
theorem zo.j {σ τ : zS} {m : Nat → Int32} (h : zo σ τ m) : zj σ τ := ⟨fun q hq => h.2.1 q (by omega), h.2.2⟩
theorem zo_s {σ τ : zS} {m : Nat → Int32} (h : zo σ τ m) (i : Nat) (x : Int32) : zo σ (zu τ 33 (upd (τ.1 33) i x)) (upd m i x) := by
  refine ⟨fun t ht => ?_, fun q hq => (zu_ne τ _ hq).trans (h.2.1 q hq), h.2.2⟩
  rw [zu_self]
  by_cases e : t = i
  · rw [e, pk_us, pk_us]
  · rw [pk_un e, pk_un e]; exact h.1 t ht
theorem fin_y {σ σk τ σ' : zS} {m : Nat → Int32} (z : zt σ σk 0) (h : zo σk τ m) (k : zj τ σ' ∧ σ'.1 30 = τ.1 30) : σ'.1 30 0 = 0 ∧ zj σ σ' := ⟨by rw [k.2, h.2.1 30 (by decide)]; exact z.1, z.j.tr (h.j.tr k.1)⟩
theorem fin_n {σ σk τ σ' : zS} {m : Nat → Int32} {M : Nat → Nat → Int32} {w : Nat → Nat} (z : zt σ σk 0) (h : zo σk τ m) (k : zt τ σ' 3) (hm : zmw σk M w) : σ'.1 30 0 = 3 ∧ zmw σ' M w ∧ zj σ σ' := ⟨k.1, k.mw (h.mw hm), z.j.tr (h.j.tr k.j)⟩
/-- the first i of D -/
def cutm (D : Nat → Int32) (i t : Nat) : Int32 := if t < i then D t else 0
theorem cut_s (D : Nat → Int32) (i : Nat) : upd (cutm D i) i (D i) = cutm D (i + 1) := by
  funext t
  unfold cutm
  by_cases e : t = i
  · rw [e, pk_us, if_pos (Nat.lt_succ_self i)]
  · rw [pk_un e]
    by_cases q : t < i
    · rw [if_pos q, if_pos (by omega)]
    · rw [if_neg q, if_neg (by omega)]
theorem cut_n {D : Nat → Int32} {i : Nat} (h : D i = 0) : cutm D i = cutm D (i + 1) := by
  funext t
  unfold cutm
  by_cases e : t = i
  · rw [e, if_neg (Nat.lt_irrefl i), if_pos (Nat.lt_succ_self i), h]
  · by_cases q : t < i
    · rw [if_pos q, if_pos (by omega)]
    · rw [if_neg q, if_neg (by omega)]
theorem cut_0 (D : Nat → Int32) : cutm D 0 = fun _ => 0 := rfl
theorem zo_cut {σ τ : zS} {D : Nat → Int32} (h : zo σ τ (cutm D 4096)) : zo σ τ D := ⟨fun t ht => (h.1 t ht).trans (if_pos ht), h.2⟩
theorem alt5 {a b : Int32} (ha : ¬ a = 0) (hb : ¬ b = 0) : (b ≤ a → alt 5 a b = b) ∧ (¬ b ≤ a → alt 5 a b = a) := by
  simp only [alt, ha, hb, or_self, if_false, if_true, Nat.reduceEqDiff]
  constructor
  · intro h
    by_cases q : b < a
    · simp [q]
    · have : a = b := Int32.le_antisymm (Int32.not_lt.mp q) h
      simp [this]
  · intro h
    simp [show ¬ b < a from fun z => h (Int32.le_of_lt z)]
set_option maxHeartbeats 4000000 in
set_option maxRecDepth 100000 in
theorem c_maltered (l : Launch) (G : zG) {σ : zS} {op : Nat} {a b : Int32} (ho : op < 6) : zC l G y_Mo_altered w_Mo_altered (zrm 0 0) 0 0 [.int (nI op), .int a, .int b] σ (fun v σ' => v = some (.int (alt op a b)) ∧ σ = σ') := by
  refine zC_of (cc := c_Mo_altered) (nL := 3) (ret := (some .int)) (own := R_Mo) (by decide +kernel) rfl rfl (Nat.le_of_ble_eq_true rfl) ?_
  refine zb_lv (lv' := [(0, .int (nI op)), (1, .int a), (2, .int b)]) rfl ?_
  refine zb_iload_n d_Mo_altered_0 rfl rfl ?_
  rcases (show op = 0 ∨ op = 1 ∨ op = 2 ∨ op = 3 ∨ op = 4 ∨ op = 5 by omega) with rfl | rfl | rfl | rfl | rfl | rfl
  · refine zb_tableIn (tgt := 36) d_Mo_altered_1 (by decide) (by decide) rfl rfl ?_
    refine zb_lv (lv' := [(0, .int (nI 0)), (1, .int a), (2, .int b)]) rfl ?_
    refine zb_iload_n d_Mo_altered_36 rfl rfl ?_
    refine zb_iload_n d_Mo_altered_37 rfl rfl ?_
    refine zb_iadd d_Mo_altered_38 ?_
    exact zb_iret d_Mo_altered_39 rfl ⟨rfl, rfl⟩
  · refine zb_tableIn (tgt := 40) d_Mo_altered_1 (by decide) (by decide) rfl rfl ?_
    refine zb_lv (lv' := [(0, .int (nI 1)), (1, .int a), (2, .int b)]) rfl ?_
    refine zb_iload_n d_Mo_altered_40 rfl rfl ?_
    refine zb_iload_n d_Mo_altered_41 rfl rfl ?_
    refine zb_isub d_Mo_altered_42 ?_
    exact zb_iret d_Mo_altered_43 rfl ⟨rfl, rfl⟩
  · refine zb_tableIn (tgt := 44) d_Mo_altered_1 (by decide) (by decide) rfl rfl ?_
    refine zb_lv (lv' := [(0, .int (nI 2)), (1, .int a), (2, .int b)]) rfl ?_
    refine zb_iload_n d_Mo_altered_44 rfl rfl ?_
    refine zb_if_eq (tgt := 52) d_Mo_altered_45 rfl (fun h45 => ?_) (fun h45 => ?_)
    · refine zb_iconst (v := 0) d_Mo_altered_52 rfl ?_
      exact zb_iret d_Mo_altered_53 rfl ⟨by simp [alt, h45], rfl⟩
    · refine zb_iload_n d_Mo_altered_48 rfl rfl ?_
      refine zb_goto (tgt := 53) d_Mo_altered_49 rfl ?_
      exact zb_iret d_Mo_altered_53 rfl ⟨by simp [alt, h45], rfl⟩
  · refine zb_tableIn (tgt := 54) d_Mo_altered_1 (by decide) (by decide) rfl rfl ?_
    refine zb_lv (lv' := [(0, .int (nI 3)), (1, .int a), (2, .int b)]) rfl ?_
    refine zb_iload_n d_Mo_altered_54 rfl rfl ?_
    refine zb_if_ne (tgt := 62) d_Mo_altered_55 rfl (fun h55 => ?_) (fun h55 => ?_)
    · refine zb_iconst (v := 0) d_Mo_altered_62 rfl ?_
      exact zb_iret d_Mo_altered_63 rfl ⟨by simp [alt, h55], rfl⟩
    · refine zb_iload_n d_Mo_altered_58 rfl rfl ?_
      refine zb_goto (tgt := 63) d_Mo_altered_59 rfl ?_
      exact zb_iret d_Mo_altered_63 rfl ⟨by simp [alt, h55], rfl⟩
  · refine zb_tableIn (tgt := 64) d_Mo_altered_1 (by decide) (by decide) rfl rfl ?_
    refine zb_lv (lv' := [(0, .int (nI 4)), (1, .int a), (2, .int b)]) rfl ?_
    refine zb_iload_n d_Mo_altered_64 rfl rfl ?_
    refine zb_if_ne (tgt := 72) d_Mo_altered_65 rfl (fun h65 => ?_) (fun h65 => ?_)
    · refine zb_iconst (v := 1) d_Mo_altered_72 rfl ?_
      refine zb_goto (tgt := 77) d_Mo_altered_73 rfl ?_
      exact zb_iret d_Mo_altered_77 rfl ⟨by simp [alt, h65], rfl⟩
    · refine zb_iload_n d_Mo_altered_68 rfl rfl ?_
      refine zb_if_eq (tgt := 76) d_Mo_altered_69 rfl (fun h69 => ?_) (fun h69 => ?_)
      · refine zb_iconst (v := 0) d_Mo_altered_76 rfl ?_
        exact zb_iret d_Mo_altered_77 rfl ⟨by simp [alt, h65, h69], rfl⟩
      · refine zb_iconst (v := 1) d_Mo_altered_72 rfl ?_
        refine zb_goto (tgt := 77) d_Mo_altered_73 rfl ?_
        exact zb_iret d_Mo_altered_77 rfl ⟨by simp [alt, h65, h69], rfl⟩
  · refine zb_tableOut (tgt := 78) d_Mo_altered_1 (by decide) rfl ?_
    refine zb_lv (lv' := [(0, .int (nI 5)), (1, .int a), (2, .int b)]) rfl ?_
    refine zb_iload_n d_Mo_altered_78 rfl rfl ?_
    refine zb_if_eq (tgt := 86) d_Mo_altered_79 rfl (fun h79 => ?_) (fun h79 => ?_)
    · refine zb_iconst (v := 0) d_Mo_altered_86 rfl ?_
      refine zb_goto (tgt := 100) d_Mo_altered_87 rfl ?_
      exact zb_iret d_Mo_altered_100 rfl ⟨by simp [alt, h79], rfl⟩
    · refine zb_iload_n d_Mo_altered_82 rfl rfl ?_
      refine zb_if_ne (tgt := 90) d_Mo_altered_83 rfl (fun h83 => ?_) (fun h83 => ?_)
      · refine zb_iload_n d_Mo_altered_90 rfl rfl ?_
        refine zb_iload_n d_Mo_altered_91 rfl rfl ?_
        refine zb_icmp_ge (tgt := 99) d_Mo_altered_92 rfl (fun h92 => ?_) (fun h92 => ?_)
        · refine zb_iload_n d_Mo_altered_99 rfl rfl ?_
          exact zb_iret d_Mo_altered_100 rfl ⟨congrArg (fun z => some (Value.int z)) ((alt5 h79 h83).1 h92).symm, rfl⟩
        · refine zb_iload_n d_Mo_altered_95 rfl rfl ?_
          refine zb_goto (tgt := 100) d_Mo_altered_96 rfl ?_
          exact zb_iret d_Mo_altered_100 rfl ⟨congrArg (fun z => some (Value.int z)) ((alt5 h79 h83).2 h92).symm, rfl⟩
      · refine zb_iconst (v := 0) d_Mo_altered_86 rfl ?_
        refine zb_goto (tgt := 100) d_Mo_altered_87 rfl ?_
        exact zb_iret d_Mo_altered_100 rfl ⟨by simp [alt, h79, h83], rfl⟩
set_option maxHeartbeats 4000000 in
set_option maxRecDepth 100000 in
theorem c_malter_ns (l : Launch) (G : zG) {σ : zS} {x o y z : Int32} (h : ¬ (zgr x ∧ zgr y ∧ zgr z)) : zC l G y_Mo_alter w_Mo_alter (zrm 2 60) 0 0 [.ref (zad G 30), .int x, .int o, .int y, .int z] σ (fun v σ' => v = some (.int 0) ∧ zt σ σ' 1) := by
  refine zC_of (cc := c_Mo_alter) (nL := 6) (ret := (some .int)) (own := R_Mo) (by decide +kernel) rfl rfl (Nat.le_of_ble_eq_true rfl) ?_
  refine zb_lv (lv' := [(0, .ref (zad G 30)), (1, .int x), (2, .int o), (3, .int y), (4, .int z)]) rfl ?_
  by_cases hx : zgr x
  · obtain ⟨r, hr, rfl⟩ := hx
    refine zb_aload_n d_Mo_alter_0 rfl rfl ?_
    refine zb_iload_n d_Mo_alter_1 rfl rfl ?_
    refine zb_callV (rest := []) (c_none_n l G hr) (lk_Mo_36.cw rfl rfl ⟨Nat.le_of_ble_eq_true rfl, Nat.le_of_ble_eq_true rfl⟩) zgM rfl rfl rfl rfl (Nat.le_of_ble_eq_true rfl) d_Mo_alter_2 ⟨Nat.le_of_ble_eq_true rfl, Nat.le_of_ble_eq_true rfl⟩ ?_
    rintro _ _ ⟨rfl, y1⟩
    rename_i σ1
    have z1 : zt σ σ1 0 := y1
    refine zb_st (st' := [.int 0]) rfl ?_
    refine zb_if_ne (tgt := 63) d_Mo_alter_5 rfl (fun h5 => absurd h5 (fun z => z rfl)) (fun h5 => ?_)
    by_cases hy : zgr y
    · obtain ⟨a, ha, rfl⟩ := hy
      refine zb_aload_n d_Mo_alter_8 rfl rfl ?_
      refine zb_iload_n d_Mo_alter_9 rfl rfl ?_
      refine zb_callV (rest := []) (c_none_n l G ha) (lk_Mo_36.cw rfl rfl ⟨Nat.le_of_ble_eq_true rfl, Nat.le_of_ble_eq_true rfl⟩) zgM rfl rfl rfl rfl (Nat.le_of_ble_eq_true rfl) d_Mo_alter_10 ⟨Nat.le_of_ble_eq_true rfl, Nat.le_of_ble_eq_true rfl⟩ ?_
      rintro _ _ ⟨rfl, y2⟩
      rename_i σ2
      have z2 : zt σ σ2 0 := z1.tr y2
      refine zb_st (st' := [.int 0]) rfl ?_
      refine zb_if_ne (tgt := 63) d_Mo_alter_13 rfl (fun h13 => absurd h13 (fun z => z rfl)) (fun h13 => ?_)
      by_cases hz : zgr z
      · exact absurd ⟨⟨r, hr, rfl⟩, ⟨a, ha, rfl⟩, hz⟩ h
      · refine zb_aload_n d_Mo_alter_16 rfl rfl ?_
        refine zb_iload d_Mo_alter_17 rfl ?_
        refine zb_callV (rest := []) (c_none_y l G hz) (lk_Mo_36.cw rfl rfl ⟨Nat.le_of_ble_eq_true rfl, Nat.le_of_ble_eq_true rfl⟩) zgM rfl rfl rfl rfl (Nat.le_of_ble_eq_true rfl) d_Mo_alter_19 ⟨Nat.le_of_ble_eq_true rfl, Nat.le_of_ble_eq_true rfl⟩ ?_
        rintro _ _ ⟨rfl, y9⟩
        rename_i σ9
        refine zb_st (st' := [.int 1]) rfl ?_
        refine zb_if_ne (tgt := 63) d_Mo_alter_22 rfl (fun h22 => ?_) (fun h22 => absurd h22 (by decide))
        refine zb_iconst (v := 0) d_Mo_alter_63 rfl ?_
        exact zb_iret d_Mo_alter_64 rfl ⟨rfl, z2.tr y9⟩
    · refine zb_aload_n d_Mo_alter_8 rfl rfl ?_
      refine zb_iload_n d_Mo_alter_9 rfl rfl ?_
      refine zb_callV (rest := []) (c_none_y l G hy) (lk_Mo_36.cw rfl rfl ⟨Nat.le_of_ble_eq_true rfl, Nat.le_of_ble_eq_true rfl⟩) zgM rfl rfl rfl rfl (Nat.le_of_ble_eq_true rfl) d_Mo_alter_10 ⟨Nat.le_of_ble_eq_true rfl, Nat.le_of_ble_eq_true rfl⟩ ?_
      rintro _ _ ⟨rfl, y9⟩
      rename_i σ9
      refine zb_st (st' := [.int 1]) rfl ?_
      refine zb_if_ne (tgt := 63) d_Mo_alter_13 rfl (fun h13 => ?_) (fun h13 => absurd h13 (by decide))
      refine zb_iconst (v := 0) d_Mo_alter_63 rfl ?_
      exact zb_iret d_Mo_alter_64 rfl ⟨rfl, z1.tr y9⟩
  · refine zb_aload_n d_Mo_alter_0 rfl rfl ?_
    refine zb_iload_n d_Mo_alter_1 rfl rfl ?_
    refine zb_callV (rest := []) (c_none_y l G hx) (lk_Mo_36.cw rfl rfl ⟨Nat.le_of_ble_eq_true rfl, Nat.le_of_ble_eq_true rfl⟩) zgM rfl rfl rfl rfl (Nat.le_of_ble_eq_true rfl) d_Mo_alter_2 ⟨Nat.le_of_ble_eq_true rfl, Nat.le_of_ble_eq_true rfl⟩ ?_
    rintro _ _ ⟨rfl, y9⟩
    rename_i σ9
    refine zb_st (st' := [.int 1]) rfl ?_
    refine zb_if_ne (tgt := 63) d_Mo_alter_5 rfl (fun h5 => ?_) (fun h5 => absurd h5 (by decide))
    refine zb_iconst (v := 0) d_Mo_alter_63 rfl ?_
    exact zb_iret d_Mo_alter_64 rfl ⟨rfl, y9⟩
set_option maxHeartbeats 4000000 in
set_option maxRecDepth 100000 in
theorem c_malter_ia (l : Launch) (G : zG) {σ : zS} {r a b : Nat} {o : Int32} {M : Nat → Nat → Int32} {w : Nat → Nat} (hm : zmw σ M w) (hr : r < 8) (ha : a < 8) (hb : b < 8) (h3a : w a ≤ 3) (h3b : w b ≤ 3) (h : ¬ ∃ op : Nat, op < 6 ∧ o = nI op ∧ w a = w b) : zC l G y_Mo_alter w_Mo_alter (zrm 2 60) 0 0 [.ref (zad G 30), .int (nI r), .int o, .int (nI a), .int (nI b)] σ (fun v σ' => v = some (.int 0) ∧ zt σ σ' 2) := by
  refine zC_of (cc := c_Mo_alter) (nL := 6) (ret := (some .int)) (own := R_Mo) (by decide +kernel) rfl rfl (Nat.le_of_ble_eq_true rfl) ?_
  refine zb_lv (lv' := [(0, .ref (zad G 30)), (1, .int (nI r)), (2, .int o), (3, .int (nI a)), (4, .int (nI b))]) rfl ?_
  refine zb_aload_n d_Mo_alter_0 rfl rfl ?_
  refine zb_iload_n d_Mo_alter_1 rfl rfl ?_
  refine zb_callV (rest := []) (c_none_n l G hr) (lk_Mo_36.cw rfl rfl ⟨Nat.le_of_ble_eq_true rfl, Nat.le_of_ble_eq_true rfl⟩) zgM rfl rfl rfl rfl (Nat.le_of_ble_eq_true rfl) d_Mo_alter_2 ⟨Nat.le_of_ble_eq_true rfl, Nat.le_of_ble_eq_true rfl⟩ ?_
  rintro _ _ ⟨rfl, y1⟩
  rename_i σ1
  have z1 : zt σ σ1 0 := y1
  refine zb_st (st' := [.int 0]) rfl ?_
  refine zb_if_ne (tgt := 63) d_Mo_alter_5 rfl (fun h5 => absurd h5 (fun z => z rfl)) (fun h5 => ?_)
  refine zb_aload_n d_Mo_alter_8 rfl rfl ?_
  refine zb_iload_n d_Mo_alter_9 rfl rfl ?_
  refine zb_callV (rest := []) (c_none_n l G ha) (lk_Mo_36.cw rfl rfl ⟨Nat.le_of_ble_eq_true rfl, Nat.le_of_ble_eq_true rfl⟩) zgM rfl rfl rfl rfl (Nat.le_of_ble_eq_true rfl) d_Mo_alter_10 ⟨Nat.le_of_ble_eq_true rfl, Nat.le_of_ble_eq_true rfl⟩ ?_
  rintro _ _ ⟨rfl, y2⟩
  rename_i σ2
  have z2 : zt σ σ2 0 := z1.tr y2
  refine zb_st (st' := [.int 0]) rfl ?_
  refine zb_if_ne (tgt := 63) d_Mo_alter_13 rfl (fun h13 => absurd h13 (fun z => z rfl)) (fun h13 => ?_)
  refine zb_aload_n d_Mo_alter_16 rfl rfl ?_
  refine zb_iload d_Mo_alter_17 rfl ?_
  refine zb_callV (rest := []) (c_none_n l G hb) (lk_Mo_36.cw rfl rfl ⟨Nat.le_of_ble_eq_true rfl, Nat.le_of_ble_eq_true rfl⟩) zgM rfl rfl rfl rfl (Nat.le_of_ble_eq_true rfl) d_Mo_alter_19 ⟨Nat.le_of_ble_eq_true rfl, Nat.le_of_ble_eq_true rfl⟩ ?_
  rintro _ _ ⟨rfl, y3⟩
  rename_i σ3
  have z3 : zt σ σ3 0 := z2.tr y3
  refine zb_st (st' := [.int 0]) rfl ?_
  refine zb_if_ne (tgt := 63) d_Mo_alter_22 rfl (fun h22 => absurd h22 (fun z => z rfl)) (fun h22 => ?_)
  refine zb_aload_n d_Mo_alter_25 rfl rfl ?_
  refine zb_iconst (v := 2) d_Mo_alter_26 rfl ?_
  refine zb_iload_n d_Mo_alter_27 rfl rfl ?_
  refine zb_if_lt (tgt := 52) d_Mo_alter_28 rfl (fun h28 => ?_) (fun h28 => ?_)
  · refine zb_iconst (v := 1) d_Mo_alter_52 rfl ?_
    refine zb_goto (tgt := 57) d_Mo_alter_53 rfl ?_
    refine zb_callV (rest := []) (c_refuse_y l G) (lk_Mo_28.cw rfl rfl ⟨Nat.le_of_ble_eq_true rfl, Nat.le_of_ble_eq_true rfl⟩) zgM rfl rfl rfl rfl (Nat.le_of_ble_eq_true rfl) d_Mo_alter_57 ⟨Nat.le_of_ble_eq_true rfl, Nat.le_of_ble_eq_true rfl⟩ ?_
    rintro _ _ ⟨rfl, y9⟩
    rename_i σ9
    refine zb_st (st' := [.int 1]) rfl ?_
    refine zb_if_eq (tgt := 65) d_Mo_alter_60 rfl (fun h60 => absurd h60 (by decide)) (fun h60 => ?_)
    refine zb_iconst (v := 0) d_Mo_alter_63 rfl ?_
    exact zb_iret d_Mo_alter_64 rfl ⟨rfl, z3.tr y9⟩
  · refine zb_iload_n d_Mo_alter_31 rfl rfl ?_
    refine zb_iconst (v := 5) d_Mo_alter_32 rfl ?_
    refine zb_icmp_gt (tgt := 52) d_Mo_alter_33 rfl (fun h33 => ?_) (fun h33 => ?_)
    · refine zb_iconst (v := 1) d_Mo_alter_52 rfl ?_
      refine zb_goto (tgt := 57) d_Mo_alter_53 rfl ?_
      refine zb_callV (rest := []) (c_refuse_y l G) (lk_Mo_28.cw rfl rfl ⟨Nat.le_of_ble_eq_true rfl, Nat.le_of_ble_eq_true rfl⟩) zgM rfl rfl rfl rfl (Nat.le_of_ble_eq_true rfl) d_Mo_alter_57 ⟨Nat.le_of_ble_eq_true rfl, Nat.le_of_ble_eq_true rfl⟩ ?_
      rintro _ _ ⟨rfl, y9⟩
      rename_i σ9
      refine zb_st (st' := [.int 1]) rfl ?_
      refine zb_if_eq (tgt := 65) d_Mo_alter_60 rfl (fun h60 => absurd h60 (by decide)) (fun h60 => ?_)
      refine zb_iconst (v := 0) d_Mo_alter_63 rfl ?_
      exact zb_iret d_Mo_alter_64 rfl ⟨rfl, z3.tr y9⟩
    · refine zb_aload_n d_Mo_alter_36 rfl rfl ?_
      refine zm_width d_Mo_alter_37 fl_Mo_13 ?_
      refine zb_iload_n d_Mo_alter_40 rfl rfl ?_
      refine zb_ialdN (q := 31) (j := a) d_Mo_alter_41 (ia31) (show a < 8 from ha) ?_
      refine zb_top (y := nI (w a)) ((z3.mw hm).1 a ha) ?_
      refine zb_aload_n d_Mo_alter_42 rfl rfl ?_
      refine zm_width d_Mo_alter_43 fl_Mo_13 ?_
      refine zb_iload d_Mo_alter_46 rfl ?_
      refine zb_ialdN (q := 31) (j := b) d_Mo_alter_48 (ia31) (show b < 8 from hb) ?_
      refine zb_top (y := nI (w b)) ((z3.mw hm).1 b hb) ?_
      refine zb_icmp_eq (tgt := 56) d_Mo_alter_49 rfl (fun h49 => absurd h49 (fun z => by
        obtain ⟨op, ho31, rfl⟩ := nI_of h28
        exact h ⟨op, by have := (nI_leI (b := 5) ho31 (by decide)).mp (Int32.not_lt.mp h33); omega, rfl, (nI_eq (by omega) (by omega)).mp z⟩)) (fun h49 => ?_)
      refine zb_iconst (v := 1) d_Mo_alter_52 rfl ?_
      refine zb_goto (tgt := 57) d_Mo_alter_53 rfl ?_
      refine zb_callV (rest := []) (c_refuse_y l G) (lk_Mo_28.cw rfl rfl ⟨Nat.le_of_ble_eq_true rfl, Nat.le_of_ble_eq_true rfl⟩) zgM rfl rfl rfl rfl (Nat.le_of_ble_eq_true rfl) d_Mo_alter_57 ⟨Nat.le_of_ble_eq_true rfl, Nat.le_of_ble_eq_true rfl⟩ ?_
      rintro _ _ ⟨rfl, y9⟩
      rename_i σ9
      refine zb_st (st' := [.int 1]) rfl ?_
      refine zb_if_eq (tgt := 65) d_Mo_alter_60 rfl (fun h60 => absurd h60 (by decide)) (fun h60 => ?_)
      refine zb_iconst (v := 0) d_Mo_alter_63 rfl ?_
      exact zb_iret d_Mo_alter_64 rfl ⟨rfl, z3.tr y9⟩
set_option maxHeartbeats 4000000 in
set_option maxRecDepth 100000 in
theorem lp_malter (l : Launch) (G : zG) {σ : zS} {r op a b : Nat} {M : Nat → Nat → Int32} {w : Nat → Nat} (hm : zmw σ M w) (ha : a < 8) (hb : b < 8) (hop : op < 6) {Fin : List Frame → Array Value → State → State → Prop} (K : ∀ τ : zS, zo σ τ (cutm (fun t => alt op (M a t) (M b t)) 4096) → zB l G w_Mo_alter R_Mo c_Mo_alter 6 (some .int) [] (zrm 2 60) Fin 0 0 112 [(5, .int (nI 4096)), (0, .ref (zad G 30)), (1, .int (nI r)), (2, .int (nI op)), (3, .int (nI a)), (4, .int (nI b))] [] τ) : ∀ (d i : Nat) (τ : zS), i + d = 4096 → zo σ τ (cutm (fun t => alt op (M a t) (M b t)) i) → zB l G w_Mo_alter R_Mo c_Mo_alter 6 (some .int) [] (zrm 2 60) Fin 0 0 72 [(5, .int (nI i)), (0, .ref (zad G 30)), (1, .int (nI r)), (2, .int (nI op)), (3, .int (nI a)), (4, .int (nI b))] [] τ := by
  intro d
  induction d with
  | zero =>
    intro i τ hi hz
    have e : i = 4096 := by omega
    refine zb_iload d_Mo_alter_72 rfl ?_
    refine zb_sipush (v := 4096) d_Mo_alter_74 rfl ?_
    refine zb_icmp_ge (tgt := 112) d_Mo_alter_77 rfl (fun h77 => ?_) (fun h77 => absurd (nI_le (a := 4096) (b := i) (by omega) (by omega)) h77)
    refine zb_sub [0, 1, 2, 3, 4, 5] rfl ?_
    rw [e] at hz ⊢
    exact K τ hz
  | succ d ih =>
    intro i τ hi hz
    have hlt : i < 4096 := by omega
    refine zb_iload d_Mo_alter_72 rfl ?_
    refine zb_sipush (v := 4096) d_Mo_alter_74 rfl ?_
    refine zb_icmp_ge (tgt := 112) d_Mo_alter_77 rfl (fun h77 => absurd h77 (nI_ge (a := i) (b := 4096) (by omega) (by omega))) (fun h77 => ?_)
    refine zb_aload_n d_Mo_alter_80 rfl rfl ?_
    refine zm_made d_Mo_alter_81 fl_Mo_21 ?_
    refine zb_iload d_Mo_alter_84 rfl ?_
    refine zb_iload_n d_Mo_alter_86 rfl rfl ?_
    refine zb_aload_n d_Mo_alter_87 rfl rfl ?_
    refine zb_iload_n d_Mo_alter_88 rfl rfl ?_
    refine zb_iload d_Mo_alter_89 rfl ?_
    refine zb_callV (rest := [.int (nI op), .int (nI i), .ref (zad G 33)]) (c_of l G (hz.mw hm) ha hlt) (lk_Mo_48.cw rfl rfl ⟨Nat.le_of_ble_eq_true rfl, Nat.le_of_ble_eq_true rfl⟩) zgM rfl rfl rfl rfl (Nat.le_of_ble_eq_true rfl) d_Mo_alter_91 ⟨Nat.le_of_ble_eq_true rfl, Nat.le_of_ble_eq_true rfl⟩ ?_
    rintro _ _ ⟨rfl, rfl⟩
    refine zb_st (st' := [.int (M a i), .int (nI op), .int (nI i), .ref (zad G 33)]) rfl ?_
    refine zb_aload_n d_Mo_alter_94 rfl rfl ?_
    refine zb_iload d_Mo_alter_95 rfl ?_
    refine zb_iload d_Mo_alter_97 rfl ?_
    refine zb_callV (rest := [.int (M a i), .int (nI op), .int (nI i), .ref (zad G 33)]) (c_of l G (hz.mw hm) hb hlt) (lk_Mo_48.cw rfl rfl ⟨Nat.le_of_ble_eq_true rfl, Nat.le_of_ble_eq_true rfl⟩) zgM rfl rfl rfl rfl (Nat.le_of_ble_eq_true rfl) d_Mo_alter_99 ⟨Nat.le_of_ble_eq_true rfl, Nat.le_of_ble_eq_true rfl⟩ ?_
    rintro _ _ ⟨rfl, rfl⟩
    refine zb_st (st' := [.int (M b i), .int (M a i), .int (nI op), .int (nI i), .ref (zad G 33)]) rfl ?_
    refine zb_callS (rest := [.int (nI i), .ref (zad G 33)]) (c_maltered l G hop) (lk_Mo_65.cw rfl rfl ⟨Nat.le_of_ble_eq_true rfl, Nat.le_of_ble_eq_true rfl⟩) rfl rfl (Nat.le_of_ble_eq_true rfl) d_Mo_alter_102 ⟨Nat.le_of_ble_eq_true rfl, Nat.le_of_ble_eq_true rfl⟩ ?_
    rintro _ _ ⟨rfl, rfl⟩
    refine zb_st (st' := [.int (alt op (M a i) (M b i)), .int (nI i), .ref (zad G 33)]) rfl ?_
    refine zb_iastN (q := 33) (j := i) d_Mo_alter_105 (ia33) (show i < 4096 from hlt) ?_
    refine zb_iinc (v := nI (i + 1)) (lv' := [(5, .int (nI (i + 1))), (0, .ref (zad G 30)), (1, .int (nI r)), (2, .int (nI op)), (3, .int (nI a)), (4, .int (nI b))]) d_Mo_alter_106 rfl (nI_1 i) (by decide) rfl ?_
    refine zb_goto (tgt := 72) d_Mo_alter_109 rfl ?_
    refine zb_sub [0, 1, 2, 3, 4, 5] rfl ?_
    exact ih (i + 1) _ (by omega) (cut_s (fun t => alt op (M a t) (M b t)) i ▸ zo_s hz i _)
set_option maxHeartbeats 4000000 in
set_option maxRecDepth 100000 in
theorem c_malter (l : Launch) (G : zG) {σ : zS} {r op a b : Nat} {M : Nat → Nat → Int32} {w : Nat → Nat} (hm : zmw σ M w) (hr : r < 8) (ha : a < 8) (hb : b < 8) (hop : op < 6) (hww : w a = w b) (hn : zct (fun t => alt op (M a t) (M b t)) 4096 ≤ 300) : zC l G y_Mo_alter w_Mo_alter (zrm 2 60) 0 0 [.ref (zad G 30), .int (nI r), .int (nI op), .int (nI a), .int (nI b)] σ (fun o9 σ' => o9 = some (.int (nI (zct (fun t => alt op (M a t) (M b t)) 4096))) ∧ σ'.1 30 0 = 0 ∧ zmw σ' (uM M r (fun t => alt op (M a t) (M b t))) (uM w r (w a)) ∧ zj σ σ') := by
  refine zC_of (cc := c_Mo_alter) (nL := 6) (ret := (some .int)) (own := R_Mo) (by decide +kernel) rfl rfl (Nat.le_of_ble_eq_true rfl) ?_
  refine zb_lv (lv' := [(0, .ref (zad G 30)), (1, .int (nI r)), (2, .int (nI op)), (3, .int (nI a)), (4, .int (nI b))]) rfl ?_
  refine zb_aload_n d_Mo_alter_0 rfl rfl ?_
  refine zb_iload_n d_Mo_alter_1 rfl rfl ?_
  refine zb_callV (rest := []) (c_none_n l G hr) (lk_Mo_36.cw rfl rfl ⟨Nat.le_of_ble_eq_true rfl, Nat.le_of_ble_eq_true rfl⟩) zgM rfl rfl rfl rfl (Nat.le_of_ble_eq_true rfl) d_Mo_alter_2 ⟨Nat.le_of_ble_eq_true rfl, Nat.le_of_ble_eq_true rfl⟩ ?_
  rintro _ _ ⟨rfl, y1⟩
  rename_i σ1
  have z1 : zt σ σ1 0 := y1
  refine zb_st (st' := [.int 0]) rfl ?_
  refine zb_if_ne (tgt := 63) d_Mo_alter_5 rfl (fun h5 => absurd h5 (fun z => z rfl)) (fun h5 => ?_)
  refine zb_aload_n d_Mo_alter_8 rfl rfl ?_
  refine zb_iload_n d_Mo_alter_9 rfl rfl ?_
  refine zb_callV (rest := []) (c_none_n l G ha) (lk_Mo_36.cw rfl rfl ⟨Nat.le_of_ble_eq_true rfl, Nat.le_of_ble_eq_true rfl⟩) zgM rfl rfl rfl rfl (Nat.le_of_ble_eq_true rfl) d_Mo_alter_10 ⟨Nat.le_of_ble_eq_true rfl, Nat.le_of_ble_eq_true rfl⟩ ?_
  rintro _ _ ⟨rfl, y2⟩
  rename_i σ2
  have z2 : zt σ σ2 0 := z1.tr y2
  refine zb_st (st' := [.int 0]) rfl ?_
  refine zb_if_ne (tgt := 63) d_Mo_alter_13 rfl (fun h13 => absurd h13 (fun z => z rfl)) (fun h13 => ?_)
  refine zb_aload_n d_Mo_alter_16 rfl rfl ?_
  refine zb_iload d_Mo_alter_17 rfl ?_
  refine zb_callV (rest := []) (c_none_n l G hb) (lk_Mo_36.cw rfl rfl ⟨Nat.le_of_ble_eq_true rfl, Nat.le_of_ble_eq_true rfl⟩) zgM rfl rfl rfl rfl (Nat.le_of_ble_eq_true rfl) d_Mo_alter_19 ⟨Nat.le_of_ble_eq_true rfl, Nat.le_of_ble_eq_true rfl⟩ ?_
  rintro _ _ ⟨rfl, y3⟩
  rename_i σ3
  have z3 : zt σ σ3 0 := z2.tr y3
  refine zb_st (st' := [.int 0]) rfl ?_
  refine zb_if_ne (tgt := 63) d_Mo_alter_22 rfl (fun h22 => absurd h22 (fun z => z rfl)) (fun h22 => ?_)
  refine zb_aload_n d_Mo_alter_25 rfl rfl ?_
  refine zb_iconst (v := 2) d_Mo_alter_26 rfl ?_
  refine zb_iload_n d_Mo_alter_27 rfl rfl ?_
  refine zb_if_lt (tgt := 52) d_Mo_alter_28 rfl (fun h28 => absurd h28 (nI_pos (by omega))) (fun h28 => ?_)
  refine zb_iload_n d_Mo_alter_31 rfl rfl ?_
  refine zb_iconst (v := 5) d_Mo_alter_32 rfl ?_
  refine zb_icmp_gt (tgt := 52) d_Mo_alter_33 rfl (fun h33 => absurd h33 (nI_nlt (a := 5) (b := op) (by omega) (by decide))) (fun h33 => ?_)
  refine zb_aload_n d_Mo_alter_36 rfl rfl ?_
  refine zm_width d_Mo_alter_37 fl_Mo_13 ?_
  refine zb_iload_n d_Mo_alter_40 rfl rfl ?_
  refine zb_ialdN (q := 31) (j := a) d_Mo_alter_41 (ia31) (show a < 8 from ha) ?_
  refine zb_top (y := nI (w a)) ((z3.mw hm).1 a ha) ?_
  refine zb_aload_n d_Mo_alter_42 rfl rfl ?_
  refine zm_width d_Mo_alter_43 fl_Mo_13 ?_
  refine zb_iload d_Mo_alter_46 rfl ?_
  refine zb_ialdN (q := 31) (j := b) d_Mo_alter_48 (ia31) (show b < 8 from hb) ?_
  refine zb_top (y := nI (w b)) ((z3.mw hm).1 b hb) ?_
  refine zb_icmp_eq (tgt := 56) d_Mo_alter_49 rfl (fun h49 => ?_) (fun h49 => absurd (by rw [hww]) h49)
  refine zb_iconst (v := 0) d_Mo_alter_56 rfl ?_
  refine zb_callV (rest := []) (c_refuse_n l G) (lk_Mo_28.cw rfl rfl ⟨Nat.le_of_ble_eq_true rfl, Nat.le_of_ble_eq_true rfl⟩) zgM rfl rfl rfl rfl (Nat.le_of_ble_eq_true rfl) d_Mo_alter_57 ⟨Nat.le_of_ble_eq_true rfl, Nat.le_of_ble_eq_true rfl⟩ ?_
  rintro _ _ ⟨rfl, rfl⟩
  refine zb_st (st' := [.int 0]) rfl ?_
  refine zb_if_eq (tgt := 65) d_Mo_alter_60 rfl (fun h60 => ?_) (fun h60 => absurd rfl h60)
  refine zb_aload_n d_Mo_alter_65 rfl rfl ?_
  refine zb_callV (rest := []) (c_begin l G) (lk_Mo_52.cw rfl rfl ⟨Nat.le_of_ble_eq_true rfl, Nat.le_of_ble_eq_true rfl⟩) zgM rfl rfl rfl rfl (Nat.le_of_ble_eq_true rfl) d_Mo_alter_66 ⟨Nat.le_of_ble_eq_true rfl, Nat.le_of_ble_eq_true rfl⟩ ?_
  rintro _ _ ⟨rfl, hb0⟩
  rename_i σb
  have hmk := z3.mw hm
  refine zb_st (st' := []) rfl ?_
  refine zb_iconst (v := 0) d_Mo_alter_69 rfl ?_
  refine zb_istore (lv' := [(5, .int 0), (0, .ref (zad G 30)), (1, .int (nI r)), (2, .int (nI op)), (3, .int (nI a)), (4, .int (nI b))]) d_Mo_alter_70 (by decide) rfl ?_
  refine zb_lv (lv' := [(5, .int (nI 0)), (0, .ref (zad G 30)), (1, .int (nI r)), (2, .int (nI op)), (3, .int (nI a)), (4, .int (nI b))]) rfl ?_
  refine zb_sub [0, 1, 2, 3, 4, 5] rfl ?_
  refine lp_malter l G hmk ha hb hop (fun τ hz => ?_) 4096 0 _ rfl (hb0)
  have hz := zo_cut hz
  refine zb_aload_n d_Mo_alter_112 rfl rfl ?_
  refine zb_iload_n d_Mo_alter_113 rfl rfl ?_
  refine zb_aload_n d_Mo_alter_114 rfl rfl ?_
  refine zm_width d_Mo_alter_115 fl_Mo_13 ?_
  refine zb_iload_n d_Mo_alter_118 rfl rfl ?_
  refine zb_ialdN (q := 31) (j := a) d_Mo_alter_119 (ia31) (show a < 8 from ha) ?_
  refine zb_top (y := nI (w a)) ((hz.mw hmk).1 a ha) ?_
  refine zb_iconst (v := 3) d_Mo_alter_120 rfl ?_
  refine zb_callV (rest := []) (c_keep_y l G (D := (fun t => alt op (M a t) (M b t))) (u := w a) (hz.mw hmk) hr hz.1 hn) (lk_Mo_58.cw rfl rfl ⟨Nat.le_of_ble_eq_true rfl, Nat.le_of_ble_eq_true rfl⟩) zgM rfl rfl rfl rfl (Nat.le_of_ble_eq_true rfl) d_Mo_alter_121 ⟨Nat.le_of_ble_eq_true rfl, Nat.le_of_ble_eq_true rfl⟩ ?_
  rintro _ _ ⟨rfl, k1, k2, k3⟩
  rename_i σ9
  refine zb_st (st' := [.int (nI (zct (fun t => alt op (M a t) (M b t)) 4096))]) rfl ?_
  exact zb_iret d_Mo_alter_124 rfl ⟨rfl, (fin_y z3 hz ⟨k2, k3⟩).1, k1, (fin_y z3 hz ⟨k2, k3⟩).2⟩
set_option maxHeartbeats 4000000 in
set_option maxRecDepth 100000 in
theorem c_malter_is (l : Launch) (G : zG) {σ : zS} {r op a b : Nat} {M : Nat → Nat → Int32} {w : Nat → Nat} (hm : zmw σ M w) (hr : r < 8) (ha : a < 8) (hb : b < 8) (hop : op < 6) (hww : w a = w b) (hn : 300 < zct (fun t => alt op (M a t) (M b t)) 4096) : zC l G y_Mo_alter w_Mo_alter (zrm 2 60) 0 0 [.ref (zad G 30), .int (nI r), .int (nI op), .int (nI a), .int (nI b)] σ (fun o9 σ' => o9 = some (.int 0) ∧ σ'.1 30 0 = 3 ∧ zmw σ' M w ∧ zj σ σ') := by
  refine zC_of (cc := c_Mo_alter) (nL := 6) (ret := (some .int)) (own := R_Mo) (by decide +kernel) rfl rfl (Nat.le_of_ble_eq_true rfl) ?_
  refine zb_lv (lv' := [(0, .ref (zad G 30)), (1, .int (nI r)), (2, .int (nI op)), (3, .int (nI a)), (4, .int (nI b))]) rfl ?_
  refine zb_aload_n d_Mo_alter_0 rfl rfl ?_
  refine zb_iload_n d_Mo_alter_1 rfl rfl ?_
  refine zb_callV (rest := []) (c_none_n l G hr) (lk_Mo_36.cw rfl rfl ⟨Nat.le_of_ble_eq_true rfl, Nat.le_of_ble_eq_true rfl⟩) zgM rfl rfl rfl rfl (Nat.le_of_ble_eq_true rfl) d_Mo_alter_2 ⟨Nat.le_of_ble_eq_true rfl, Nat.le_of_ble_eq_true rfl⟩ ?_
  rintro _ _ ⟨rfl, y1⟩
  rename_i σ1
  have z1 : zt σ σ1 0 := y1
  refine zb_st (st' := [.int 0]) rfl ?_
  refine zb_if_ne (tgt := 63) d_Mo_alter_5 rfl (fun h5 => absurd h5 (fun z => z rfl)) (fun h5 => ?_)
  refine zb_aload_n d_Mo_alter_8 rfl rfl ?_
  refine zb_iload_n d_Mo_alter_9 rfl rfl ?_
  refine zb_callV (rest := []) (c_none_n l G ha) (lk_Mo_36.cw rfl rfl ⟨Nat.le_of_ble_eq_true rfl, Nat.le_of_ble_eq_true rfl⟩) zgM rfl rfl rfl rfl (Nat.le_of_ble_eq_true rfl) d_Mo_alter_10 ⟨Nat.le_of_ble_eq_true rfl, Nat.le_of_ble_eq_true rfl⟩ ?_
  rintro _ _ ⟨rfl, y2⟩
  rename_i σ2
  have z2 : zt σ σ2 0 := z1.tr y2
  refine zb_st (st' := [.int 0]) rfl ?_
  refine zb_if_ne (tgt := 63) d_Mo_alter_13 rfl (fun h13 => absurd h13 (fun z => z rfl)) (fun h13 => ?_)
  refine zb_aload_n d_Mo_alter_16 rfl rfl ?_
  refine zb_iload d_Mo_alter_17 rfl ?_
  refine zb_callV (rest := []) (c_none_n l G hb) (lk_Mo_36.cw rfl rfl ⟨Nat.le_of_ble_eq_true rfl, Nat.le_of_ble_eq_true rfl⟩) zgM rfl rfl rfl rfl (Nat.le_of_ble_eq_true rfl) d_Mo_alter_19 ⟨Nat.le_of_ble_eq_true rfl, Nat.le_of_ble_eq_true rfl⟩ ?_
  rintro _ _ ⟨rfl, y3⟩
  rename_i σ3
  have z3 : zt σ σ3 0 := z2.tr y3
  refine zb_st (st' := [.int 0]) rfl ?_
  refine zb_if_ne (tgt := 63) d_Mo_alter_22 rfl (fun h22 => absurd h22 (fun z => z rfl)) (fun h22 => ?_)
  refine zb_aload_n d_Mo_alter_25 rfl rfl ?_
  refine zb_iconst (v := 2) d_Mo_alter_26 rfl ?_
  refine zb_iload_n d_Mo_alter_27 rfl rfl ?_
  refine zb_if_lt (tgt := 52) d_Mo_alter_28 rfl (fun h28 => absurd h28 (nI_pos (by omega))) (fun h28 => ?_)
  refine zb_iload_n d_Mo_alter_31 rfl rfl ?_
  refine zb_iconst (v := 5) d_Mo_alter_32 rfl ?_
  refine zb_icmp_gt (tgt := 52) d_Mo_alter_33 rfl (fun h33 => absurd h33 (nI_nlt (a := 5) (b := op) (by omega) (by decide))) (fun h33 => ?_)
  refine zb_aload_n d_Mo_alter_36 rfl rfl ?_
  refine zm_width d_Mo_alter_37 fl_Mo_13 ?_
  refine zb_iload_n d_Mo_alter_40 rfl rfl ?_
  refine zb_ialdN (q := 31) (j := a) d_Mo_alter_41 (ia31) (show a < 8 from ha) ?_
  refine zb_top (y := nI (w a)) ((z3.mw hm).1 a ha) ?_
  refine zb_aload_n d_Mo_alter_42 rfl rfl ?_
  refine zm_width d_Mo_alter_43 fl_Mo_13 ?_
  refine zb_iload d_Mo_alter_46 rfl ?_
  refine zb_ialdN (q := 31) (j := b) d_Mo_alter_48 (ia31) (show b < 8 from hb) ?_
  refine zb_top (y := nI (w b)) ((z3.mw hm).1 b hb) ?_
  refine zb_icmp_eq (tgt := 56) d_Mo_alter_49 rfl (fun h49 => ?_) (fun h49 => absurd (by rw [hww]) h49)
  refine zb_iconst (v := 0) d_Mo_alter_56 rfl ?_
  refine zb_callV (rest := []) (c_refuse_n l G) (lk_Mo_28.cw rfl rfl ⟨Nat.le_of_ble_eq_true rfl, Nat.le_of_ble_eq_true rfl⟩) zgM rfl rfl rfl rfl (Nat.le_of_ble_eq_true rfl) d_Mo_alter_57 ⟨Nat.le_of_ble_eq_true rfl, Nat.le_of_ble_eq_true rfl⟩ ?_
  rintro _ _ ⟨rfl, rfl⟩
  refine zb_st (st' := [.int 0]) rfl ?_
  refine zb_if_eq (tgt := 65) d_Mo_alter_60 rfl (fun h60 => ?_) (fun h60 => absurd rfl h60)
  refine zb_aload_n d_Mo_alter_65 rfl rfl ?_
  refine zb_callV (rest := []) (c_begin l G) (lk_Mo_52.cw rfl rfl ⟨Nat.le_of_ble_eq_true rfl, Nat.le_of_ble_eq_true rfl⟩) zgM rfl rfl rfl rfl (Nat.le_of_ble_eq_true rfl) d_Mo_alter_66 ⟨Nat.le_of_ble_eq_true rfl, Nat.le_of_ble_eq_true rfl⟩ ?_
  rintro _ _ ⟨rfl, hb0⟩
  rename_i σb
  have hmk := z3.mw hm
  refine zb_st (st' := []) rfl ?_
  refine zb_iconst (v := 0) d_Mo_alter_69 rfl ?_
  refine zb_istore (lv' := [(5, .int 0), (0, .ref (zad G 30)), (1, .int (nI r)), (2, .int (nI op)), (3, .int (nI a)), (4, .int (nI b))]) d_Mo_alter_70 (by decide) rfl ?_
  refine zb_lv (lv' := [(5, .int (nI 0)), (0, .ref (zad G 30)), (1, .int (nI r)), (2, .int (nI op)), (3, .int (nI a)), (4, .int (nI b))]) rfl ?_
  refine zb_sub [0, 1, 2, 3, 4, 5] rfl ?_
  refine lp_malter l G hmk ha hb hop (fun τ hz => ?_) 4096 0 _ rfl (hb0)
  have hz := zo_cut hz
  refine zb_aload_n d_Mo_alter_112 rfl rfl ?_
  refine zb_iload_n d_Mo_alter_113 rfl rfl ?_
  refine zb_aload_n d_Mo_alter_114 rfl rfl ?_
  refine zm_width d_Mo_alter_115 fl_Mo_13 ?_
  refine zb_iload_n d_Mo_alter_118 rfl rfl ?_
  refine zb_ialdN (q := 31) (j := a) d_Mo_alter_119 (ia31) (show a < 8 from ha) ?_
  refine zb_top (y := nI (w a)) ((hz.mw hmk).1 a ha) ?_
  refine zb_iconst (v := 3) d_Mo_alter_120 rfl ?_
  refine zb_callV (rest := []) (c_keep_n l G (D := (fun t => alt op (M a t) (M b t))) (r := r) (u := w a) hz.1 hn) (lk_Mo_58.cw rfl rfl ⟨Nat.le_of_ble_eq_true rfl, Nat.le_of_ble_eq_true rfl⟩) zgM rfl rfl rfl rfl (Nat.le_of_ble_eq_true rfl) d_Mo_alter_121 ⟨Nat.le_of_ble_eq_true rfl, Nat.le_of_ble_eq_true rfl⟩ ?_
  rintro _ _ ⟨rfl, k1⟩
  rename_i σ9
  refine zb_st (st' := [.int 0]) rfl ?_
  exact zb_iret d_Mo_alter_124 rfl ⟨rfl, fin_n z3 hz k1 hmk⟩
set_option maxHeartbeats 4000000 in
set_option maxRecDepth 100000 in
theorem c_mpick_ns (l : Launch) (G : zG) {σ : zS} {x y z b : Int32} (h : ¬ (zgr x ∧ zgr y)) : zC l G y_Mo_pick w_Mo_pick (zrm 2 60) 0 0 [.ref (zad G 30), .int x, .int y, .int z, .int b] σ (fun v σ' => v = some (.int 0) ∧ zt σ σ' 1) := by
  refine zC_of (cc := c_Mo_pick) (nL := 6) (ret := (some .int)) (own := R_Mo) (by decide +kernel) rfl rfl (Nat.le_of_ble_eq_true rfl) ?_
  refine zb_lv (lv' := [(0, .ref (zad G 30)), (1, .int x), (2, .int y), (3, .int z), (4, .int b)]) rfl ?_
  by_cases hx : zgr x
  · obtain ⟨r, hr, rfl⟩ := hx
    refine zb_aload_n d_Mo_pick_0 rfl rfl ?_
    refine zb_iload_n d_Mo_pick_1 rfl rfl ?_
    refine zb_callV (rest := []) (c_none_n l G hr) (lk_Mo_36.cw rfl rfl ⟨Nat.le_of_ble_eq_true rfl, Nat.le_of_ble_eq_true rfl⟩) zgM rfl rfl rfl rfl (Nat.le_of_ble_eq_true rfl) d_Mo_pick_2 ⟨Nat.le_of_ble_eq_true rfl, Nat.le_of_ble_eq_true rfl⟩ ?_
    rintro _ _ ⟨rfl, y1⟩
    rename_i σ1
    have z1 : zt σ σ1 0 := y1
    refine zb_st (st' := [.int 0]) rfl ?_
    refine zb_if_ne (tgt := 55) d_Mo_pick_5 rfl (fun h5 => absurd h5 (fun z => z rfl)) (fun h5 => ?_)
    by_cases hy : zgr y
    · exact absurd ⟨⟨r, hr, rfl⟩, hy⟩ h
    · refine zb_aload_n d_Mo_pick_8 rfl rfl ?_
      refine zb_iload_n d_Mo_pick_9 rfl rfl ?_
      refine zb_callV (rest := []) (c_none_y l G hy) (lk_Mo_36.cw rfl rfl ⟨Nat.le_of_ble_eq_true rfl, Nat.le_of_ble_eq_true rfl⟩) zgM rfl rfl rfl rfl (Nat.le_of_ble_eq_true rfl) d_Mo_pick_10 ⟨Nat.le_of_ble_eq_true rfl, Nat.le_of_ble_eq_true rfl⟩ ?_
      rintro _ _ ⟨rfl, y9⟩
      rename_i σ9
      refine zb_st (st' := [.int 1]) rfl ?_
      refine zb_if_ne (tgt := 55) d_Mo_pick_13 rfl (fun h13 => ?_) (fun h13 => absurd h13 (by decide))
      refine zb_iconst (v := 0) d_Mo_pick_55 rfl ?_
      exact zb_iret d_Mo_pick_56 rfl ⟨rfl, z1.tr y9⟩
  · refine zb_aload_n d_Mo_pick_0 rfl rfl ?_
    refine zb_iload_n d_Mo_pick_1 rfl rfl ?_
    refine zb_callV (rest := []) (c_none_y l G hx) (lk_Mo_36.cw rfl rfl ⟨Nat.le_of_ble_eq_true rfl, Nat.le_of_ble_eq_true rfl⟩) zgM rfl rfl rfl rfl (Nat.le_of_ble_eq_true rfl) d_Mo_pick_2 ⟨Nat.le_of_ble_eq_true rfl, Nat.le_of_ble_eq_true rfl⟩ ?_
    rintro _ _ ⟨rfl, y9⟩
    rename_i σ9
    refine zb_st (st' := [.int 1]) rfl ?_
    refine zb_if_ne (tgt := 55) d_Mo_pick_5 rfl (fun h5 => ?_) (fun h5 => absurd h5 (by decide))
    refine zb_iconst (v := 0) d_Mo_pick_55 rfl ?_
    exact zb_iret d_Mo_pick_56 rfl ⟨rfl, y9⟩
set_option maxHeartbeats 4000000 in
set_option maxRecDepth 100000 in
theorem c_mpick_ia (l : Launch) (G : zG) {σ : zS} {r a : Nat} {z b : Int32} {M : Nat → Nat → Int32} {w : Nat → Nat} (hm : zmw σ M w) (hr : r < 8) (ha : a < 8) (h3 : w a ≤ 3) (h : ¬ ∃ k v : Nat, k < w a ∧ z = nI k ∧ v < 16 ∧ b = nI v) : zC l G y_Mo_pick w_Mo_pick (zrm 2 60) 0 0 [.ref (zad G 30), .int (nI r), .int (nI a), .int z, .int b] σ (fun v σ' => v = some (.int 0) ∧ zt σ σ' 2) := by
  refine zC_of (cc := c_Mo_pick) (nL := 6) (ret := (some .int)) (own := R_Mo) (by decide +kernel) rfl rfl (Nat.le_of_ble_eq_true rfl) ?_
  refine zb_lv (lv' := [(0, .ref (zad G 30)), (1, .int (nI r)), (2, .int (nI a)), (3, .int z), (4, .int b)]) rfl ?_
  refine zb_aload_n d_Mo_pick_0 rfl rfl ?_
  refine zb_iload_n d_Mo_pick_1 rfl rfl ?_
  refine zb_callV (rest := []) (c_none_n l G hr) (lk_Mo_36.cw rfl rfl ⟨Nat.le_of_ble_eq_true rfl, Nat.le_of_ble_eq_true rfl⟩) zgM rfl rfl rfl rfl (Nat.le_of_ble_eq_true rfl) d_Mo_pick_2 ⟨Nat.le_of_ble_eq_true rfl, Nat.le_of_ble_eq_true rfl⟩ ?_
  rintro _ _ ⟨rfl, y1⟩
  rename_i σ1
  have z1 : zt σ σ1 0 := y1
  refine zb_st (st' := [.int 0]) rfl ?_
  refine zb_if_ne (tgt := 55) d_Mo_pick_5 rfl (fun h5 => absurd h5 (fun z => z rfl)) (fun h5 => ?_)
  refine zb_aload_n d_Mo_pick_8 rfl rfl ?_
  refine zb_iload_n d_Mo_pick_9 rfl rfl ?_
  refine zb_callV (rest := []) (c_none_n l G ha) (lk_Mo_36.cw rfl rfl ⟨Nat.le_of_ble_eq_true rfl, Nat.le_of_ble_eq_true rfl⟩) zgM rfl rfl rfl rfl (Nat.le_of_ble_eq_true rfl) d_Mo_pick_10 ⟨Nat.le_of_ble_eq_true rfl, Nat.le_of_ble_eq_true rfl⟩ ?_
  rintro _ _ ⟨rfl, y2⟩
  rename_i σ2
  have z2 : zt σ σ2 0 := z1.tr y2
  refine zb_st (st' := [.int 0]) rfl ?_
  refine zb_if_ne (tgt := 55) d_Mo_pick_13 rfl (fun h13 => absurd h13 (fun z => z rfl)) (fun h13 => ?_)
  refine zb_aload_n d_Mo_pick_16 rfl rfl ?_
  refine zb_iconst (v := 2) d_Mo_pick_17 rfl ?_
  refine zb_iload_n d_Mo_pick_18 rfl rfl ?_
  refine zb_if_lt (tgt := 44) d_Mo_pick_19 rfl (fun h19 => ?_) (fun h19 => ?_)
  · refine zb_iconst (v := 1) d_Mo_pick_44 rfl ?_
    refine zb_goto (tgt := 49) d_Mo_pick_45 rfl ?_
    refine zb_callV (rest := []) (c_refuse_y l G) (lk_Mo_28.cw rfl rfl ⟨Nat.le_of_ble_eq_true rfl, Nat.le_of_ble_eq_true rfl⟩) zgM rfl rfl rfl rfl (Nat.le_of_ble_eq_true rfl) d_Mo_pick_49 ⟨Nat.le_of_ble_eq_true rfl, Nat.le_of_ble_eq_true rfl⟩ ?_
    rintro _ _ ⟨rfl, y9⟩
    rename_i σ9
    refine zb_st (st' := [.int 1]) rfl ?_
    refine zb_if_eq (tgt := 57) d_Mo_pick_52 rfl (fun h52 => absurd h52 (by decide)) (fun h52 => ?_)
    refine zb_iconst (v := 0) d_Mo_pick_55 rfl ?_
    exact zb_iret d_Mo_pick_56 rfl ⟨rfl, z2.tr y9⟩
  · refine zb_iload_n d_Mo_pick_22 rfl rfl ?_
    refine zb_aload_n d_Mo_pick_23 rfl rfl ?_
    refine zm_width d_Mo_pick_24 fl_Mo_13 ?_
    refine zb_iload_n d_Mo_pick_27 rfl rfl ?_
    refine zb_ialdN (q := 31) (j := a) d_Mo_pick_28 (ia31) (show a < 8 from ha) ?_
    refine zb_top (y := nI (w a)) ((z2.mw hm).1 a ha) ?_
    refine zb_icmp_ge (tgt := 44) d_Mo_pick_29 rfl (fun h29 => ?_) (fun h29 => ?_)
    · refine zb_iconst (v := 1) d_Mo_pick_44 rfl ?_
      refine zb_goto (tgt := 49) d_Mo_pick_45 rfl ?_
      refine zb_callV (rest := []) (c_refuse_y l G) (lk_Mo_28.cw rfl rfl ⟨Nat.le_of_ble_eq_true rfl, Nat.le_of_ble_eq_true rfl⟩) zgM rfl rfl rfl rfl (Nat.le_of_ble_eq_true rfl) d_Mo_pick_49 ⟨Nat.le_of_ble_eq_true rfl, Nat.le_of_ble_eq_true rfl⟩ ?_
      rintro _ _ ⟨rfl, y9⟩
      rename_i σ9
      refine zb_st (st' := [.int 1]) rfl ?_
      refine zb_if_eq (tgt := 57) d_Mo_pick_52 rfl (fun h52 => absurd h52 (by decide)) (fun h52 => ?_)
      refine zb_iconst (v := 0) d_Mo_pick_55 rfl ?_
      exact zb_iret d_Mo_pick_56 rfl ⟨rfl, z2.tr y9⟩
    · refine zb_iload d_Mo_pick_32 rfl ?_
      refine zb_if_lt (tgt := 44) d_Mo_pick_34 rfl (fun h34 => ?_) (fun h34 => ?_)
      · refine zb_iconst (v := 1) d_Mo_pick_44 rfl ?_
        refine zb_goto (tgt := 49) d_Mo_pick_45 rfl ?_
        refine zb_callV (rest := []) (c_refuse_y l G) (lk_Mo_28.cw rfl rfl ⟨Nat.le_of_ble_eq_true rfl, Nat.le_of_ble_eq_true rfl⟩) zgM rfl rfl rfl rfl (Nat.le_of_ble_eq_true rfl) d_Mo_pick_49 ⟨Nat.le_of_ble_eq_true rfl, Nat.le_of_ble_eq_true rfl⟩ ?_
        rintro _ _ ⟨rfl, y9⟩
        rename_i σ9
        refine zb_st (st' := [.int 1]) rfl ?_
        refine zb_if_eq (tgt := 57) d_Mo_pick_52 rfl (fun h52 => absurd h52 (by decide)) (fun h52 => ?_)
        refine zb_iconst (v := 0) d_Mo_pick_55 rfl ?_
        exact zb_iret d_Mo_pick_56 rfl ⟨rfl, z2.tr y9⟩
      · refine zb_iload d_Mo_pick_37 rfl ?_
        refine zb_bipush (v := 15) d_Mo_pick_39 rfl ?_
        refine zb_icmp_le (tgt := 48) d_Mo_pick_41 rfl (fun h41 => absurd h41 (fun q => by
          obtain ⟨k, hk31, rfl⟩ := nI_of h19
          obtain ⟨v, hv31, rfl⟩ := nI_of h34
          exact h ⟨k, v, (nI_ltI hk31 (by omega)).mp (Int32.not_le.mp h29), rfl, by have := (nI_leI (b := 15) hv31 (by decide)).mp q; omega, rfl⟩)) (fun h41 => ?_)
        refine zb_iconst (v := 1) d_Mo_pick_44 rfl ?_
        refine zb_goto (tgt := 49) d_Mo_pick_45 rfl ?_
        refine zb_callV (rest := []) (c_refuse_y l G) (lk_Mo_28.cw rfl rfl ⟨Nat.le_of_ble_eq_true rfl, Nat.le_of_ble_eq_true rfl⟩) zgM rfl rfl rfl rfl (Nat.le_of_ble_eq_true rfl) d_Mo_pick_49 ⟨Nat.le_of_ble_eq_true rfl, Nat.le_of_ble_eq_true rfl⟩ ?_
        rintro _ _ ⟨rfl, y9⟩
        rename_i σ9
        refine zb_st (st' := [.int 1]) rfl ?_
        refine zb_if_eq (tgt := 57) d_Mo_pick_52 rfl (fun h52 => absurd h52 (by decide)) (fun h52 => ?_)
        refine zb_iconst (v := 0) d_Mo_pick_55 rfl ?_
        exact zb_iret d_Mo_pick_56 rfl ⟨rfl, z2.tr y9⟩
set_option maxHeartbeats 4000000 in
set_option maxRecDepth 100000 in
theorem lp_mpick (l : Launch) (G : zG) {σ : zS} {r a k v : Nat} {M : Nat → Nat → Int32} {w : Nat → Nat} (hm : zmw σ M w) (ha : a < 8) (hk : k < 3) (hv : v < 16) {Fin : List Frame → Array Value → State → State → Prop} (K : ∀ τ : zS, zo σ τ (cutm (fun t => if nu t k = v then M a t else 0) 4096) → zB l G w_Mo_pick R_Mo c_Mo_pick 6 (some .int) [] (zrm 2 60) Fin 0 0 103 [(5, .int (nI 4096)), (0, .ref (zad G 30)), (1, .int (nI r)), (2, .int (nI a)), (3, .int (nI k)), (4, .int (nI v))] [] τ) : ∀ (d i : Nat) (τ : zS), i + d = 4096 → zo σ τ (cutm (fun t => if nu t k = v then M a t else 0) i) → zB l G w_Mo_pick R_Mo c_Mo_pick 6 (some .int) [] (zrm 2 60) Fin 0 0 64 [(5, .int (nI i)), (0, .ref (zad G 30)), (1, .int (nI r)), (2, .int (nI a)), (3, .int (nI k)), (4, .int (nI v))] [] τ := by
  intro d
  induction d with
  | zero =>
    intro i τ hi hz
    have e : i = 4096 := by omega
    refine zb_iload d_Mo_pick_64 rfl ?_
    refine zb_sipush (v := 4096) d_Mo_pick_66 rfl ?_
    refine zb_icmp_ge (tgt := 103) d_Mo_pick_69 rfl (fun h69 => ?_) (fun h69 => absurd (nI_le (a := 4096) (b := i) (by omega) (by omega)) h69)
    refine zb_sub [0, 1, 2, 3, 4, 5] rfl ?_
    rw [e] at hz ⊢
    exact K τ hz
  | succ d ih =>
    intro i τ hi hz
    have hlt : i < 4096 := by omega
    refine zb_iload d_Mo_pick_64 rfl ?_
    refine zb_sipush (v := 4096) d_Mo_pick_66 rfl ?_
    refine zb_icmp_ge (tgt := 103) d_Mo_pick_69 rfl (fun h69 => absurd h69 (nI_ge (a := i) (b := 4096) (by omega) (by omega))) (fun h69 => ?_)
    refine zb_iload d_Mo_pick_72 rfl ?_
    refine zb_iload_n d_Mo_pick_74 rfl rfl ?_
    refine zb_callS (rest := []) (c_number l G hlt hk) (lk_Mo_55.cw rfl rfl ⟨Nat.le_of_ble_eq_true rfl, Nat.le_of_ble_eq_true rfl⟩) rfl rfl (Nat.le_of_ble_eq_true rfl) d_Mo_pick_75 ⟨Nat.le_of_ble_eq_true rfl, Nat.le_of_ble_eq_true rfl⟩ ?_
    rintro _ _ ⟨rfl, rfl⟩
    refine zb_st (st' := [.int (nI (nu i k))]) rfl ?_
    refine zb_iload d_Mo_pick_78 rfl ?_
    refine zb_icmp_ne (tgt := 97) d_Mo_pick_80 rfl (fun h80 => ?_) (fun h80 => ?_)
    · refine zb_iinc (v := nI (i + 1)) (lv' := [(5, .int (nI (i + 1))), (0, .ref (zad G 30)), (1, .int (nI r)), (2, .int (nI a)), (3, .int (nI k)), (4, .int (nI v))]) d_Mo_pick_97 rfl (nI_1 i) (by decide) rfl ?_
      refine zb_goto (tgt := 64) d_Mo_pick_100 rfl ?_
      refine zb_sub [0, 1, 2, 3, 4, 5] rfl ?_
      exact ih (i + 1) _ (by omega) (cut_n (D := (fun t => if nu t k = v then M a t else 0)) (if_neg (fun e => h80 (by rw [e]))) ▸ hz)
    · refine zb_aload_n d_Mo_pick_83 rfl rfl ?_
      refine zm_made d_Mo_pick_84 fl_Mo_21 ?_
      refine zb_iload d_Mo_pick_87 rfl ?_
      refine zb_aload_n d_Mo_pick_89 rfl rfl ?_
      refine zb_iload_n d_Mo_pick_90 rfl rfl ?_
      refine zb_iload d_Mo_pick_91 rfl ?_
      refine zb_callV (rest := [.int (nI i), .ref (zad G 33)]) (c_of l G (hz.mw hm) ha hlt) (lk_Mo_48.cw rfl rfl ⟨Nat.le_of_ble_eq_true rfl, Nat.le_of_ble_eq_true rfl⟩) zgM rfl rfl rfl rfl (Nat.le_of_ble_eq_true rfl) d_Mo_pick_93 ⟨Nat.le_of_ble_eq_true rfl, Nat.le_of_ble_eq_true rfl⟩ ?_
      rintro _ _ ⟨rfl, rfl⟩
      refine zb_st (st' := [.int (M a i), .int (nI i), .ref (zad G 33)]) rfl ?_
      refine zb_iastN (q := 33) (j := i) d_Mo_pick_96 (ia33) (show i < 4096 from hlt) ?_
      refine zb_iinc (v := nI (i + 1)) (lv' := [(5, .int (nI (i + 1))), (0, .ref (zad G 30)), (1, .int (nI r)), (2, .int (nI a)), (3, .int (nI k)), (4, .int (nI v))]) d_Mo_pick_97 rfl (nI_1 i) (by decide) rfl ?_
      refine zb_goto (tgt := 64) d_Mo_pick_100 rfl ?_
      refine zb_sub [0, 1, 2, 3, 4, 5] rfl ?_
      exact ih (i + 1) _ (by omega) (cut_s (fun t => if nu t k = v then M a t else 0) i ▸ (show zo σ _ (upd _ i (if nu i k = v then M a i else 0)) from (if_pos ((nI_eq (by have := nu_lt i k; omega) (by omega)).mp h80)).symm ▸ zo_s hz i (M a i)))
set_option maxHeartbeats 4000000 in
set_option maxRecDepth 100000 in
theorem c_mpick (l : Launch) (G : zG) {σ : zS} {r a k v : Nat} {M : Nat → Nat → Int32} {w : Nat → Nat} (hm : zmw σ M w) (hr : r < 8) (ha : a < 8) (h3 : w a ≤ 3) (hk : k < w a) (hv : v < 16) (hn : zct (fun t => if nu t k = v then M a t else 0) 4096 ≤ 300) : zC l G y_Mo_pick w_Mo_pick (zrm 2 60) 0 0 [.ref (zad G 30), .int (nI r), .int (nI a), .int (nI k), .int (nI v)] σ (fun o9 σ' => o9 = some (.int (nI (zct (fun t => if nu t k = v then M a t else 0) 4096))) ∧ σ'.1 30 0 = 0 ∧ zmw σ' (uM M r (fun t => if nu t k = v then M a t else 0)) (uM w r (w a)) ∧ zj σ σ') := by
  refine zC_of (cc := c_Mo_pick) (nL := 6) (ret := (some .int)) (own := R_Mo) (by decide +kernel) rfl rfl (Nat.le_of_ble_eq_true rfl) ?_
  refine zb_lv (lv' := [(0, .ref (zad G 30)), (1, .int (nI r)), (2, .int (nI a)), (3, .int (nI k)), (4, .int (nI v))]) rfl ?_
  refine zb_aload_n d_Mo_pick_0 rfl rfl ?_
  refine zb_iload_n d_Mo_pick_1 rfl rfl ?_
  refine zb_callV (rest := []) (c_none_n l G hr) (lk_Mo_36.cw rfl rfl ⟨Nat.le_of_ble_eq_true rfl, Nat.le_of_ble_eq_true rfl⟩) zgM rfl rfl rfl rfl (Nat.le_of_ble_eq_true rfl) d_Mo_pick_2 ⟨Nat.le_of_ble_eq_true rfl, Nat.le_of_ble_eq_true rfl⟩ ?_
  rintro _ _ ⟨rfl, y1⟩
  rename_i σ1
  have z1 : zt σ σ1 0 := y1
  refine zb_st (st' := [.int 0]) rfl ?_
  refine zb_if_ne (tgt := 55) d_Mo_pick_5 rfl (fun h5 => absurd h5 (fun z => z rfl)) (fun h5 => ?_)
  refine zb_aload_n d_Mo_pick_8 rfl rfl ?_
  refine zb_iload_n d_Mo_pick_9 rfl rfl ?_
  refine zb_callV (rest := []) (c_none_n l G ha) (lk_Mo_36.cw rfl rfl ⟨Nat.le_of_ble_eq_true rfl, Nat.le_of_ble_eq_true rfl⟩) zgM rfl rfl rfl rfl (Nat.le_of_ble_eq_true rfl) d_Mo_pick_10 ⟨Nat.le_of_ble_eq_true rfl, Nat.le_of_ble_eq_true rfl⟩ ?_
  rintro _ _ ⟨rfl, y2⟩
  rename_i σ2
  have z2 : zt σ σ2 0 := z1.tr y2
  refine zb_st (st' := [.int 0]) rfl ?_
  refine zb_if_ne (tgt := 55) d_Mo_pick_13 rfl (fun h13 => absurd h13 (fun z => z rfl)) (fun h13 => ?_)
  refine zb_aload_n d_Mo_pick_16 rfl rfl ?_
  refine zb_iconst (v := 2) d_Mo_pick_17 rfl ?_
  refine zb_iload_n d_Mo_pick_18 rfl rfl ?_
  refine zb_if_lt (tgt := 44) d_Mo_pick_19 rfl (fun h19 => absurd h19 (nI_pos (by omega))) (fun h19 => ?_)
  refine zb_iload_n d_Mo_pick_22 rfl rfl ?_
  refine zb_aload_n d_Mo_pick_23 rfl rfl ?_
  refine zm_width d_Mo_pick_24 fl_Mo_13 ?_
  refine zb_iload_n d_Mo_pick_27 rfl rfl ?_
  refine zb_ialdN (q := 31) (j := a) d_Mo_pick_28 (ia31) (show a < 8 from ha) ?_
  refine zb_top (y := nI (w a)) ((z2.mw hm).1 a ha) ?_
  refine zb_icmp_ge (tgt := 44) d_Mo_pick_29 rfl (fun h29 => absurd h29 (nI_ge hk (by omega))) (fun h29 => ?_)
  refine zb_iload d_Mo_pick_32 rfl ?_
  refine zb_if_lt (tgt := 44) d_Mo_pick_34 rfl (fun h34 => absurd h34 (nI_pos (by omega))) (fun h34 => ?_)
  refine zb_iload d_Mo_pick_37 rfl ?_
  refine zb_bipush (v := 15) d_Mo_pick_39 rfl ?_
  refine zb_icmp_le (tgt := 48) d_Mo_pick_41 rfl (fun h41 => ?_) (fun h41 => absurd (nI_le (b := 15) (show v ≤ 15 by omega) (by decide)) h41)
  refine zb_iconst (v := 0) d_Mo_pick_48 rfl ?_
  refine zb_callV (rest := []) (c_refuse_n l G) (lk_Mo_28.cw rfl rfl ⟨Nat.le_of_ble_eq_true rfl, Nat.le_of_ble_eq_true rfl⟩) zgM rfl rfl rfl rfl (Nat.le_of_ble_eq_true rfl) d_Mo_pick_49 ⟨Nat.le_of_ble_eq_true rfl, Nat.le_of_ble_eq_true rfl⟩ ?_
  rintro _ _ ⟨rfl, rfl⟩
  refine zb_st (st' := [.int 0]) rfl ?_
  refine zb_if_eq (tgt := 57) d_Mo_pick_52 rfl (fun h52 => ?_) (fun h52 => absurd rfl h52)
  refine zb_aload_n d_Mo_pick_57 rfl rfl ?_
  refine zb_callV (rest := []) (c_begin l G) (lk_Mo_52.cw rfl rfl ⟨Nat.le_of_ble_eq_true rfl, Nat.le_of_ble_eq_true rfl⟩) zgM rfl rfl rfl rfl (Nat.le_of_ble_eq_true rfl) d_Mo_pick_58 ⟨Nat.le_of_ble_eq_true rfl, Nat.le_of_ble_eq_true rfl⟩ ?_
  rintro _ _ ⟨rfl, hb0⟩
  rename_i σb
  have hmk := z2.mw hm
  refine zb_st (st' := []) rfl ?_
  refine zb_iconst (v := 0) d_Mo_pick_61 rfl ?_
  refine zb_istore (lv' := [(5, .int 0), (0, .ref (zad G 30)), (1, .int (nI r)), (2, .int (nI a)), (3, .int (nI k)), (4, .int (nI v))]) d_Mo_pick_62 (by decide) rfl ?_
  refine zb_lv (lv' := [(5, .int (nI 0)), (0, .ref (zad G 30)), (1, .int (nI r)), (2, .int (nI a)), (3, .int (nI k)), (4, .int (nI v))]) rfl ?_
  refine zb_sub [0, 1, 2, 3, 4, 5] rfl ?_
  refine lp_mpick l G hmk ha (show k < 3 by omega) hv (fun τ hz => ?_) 4096 0 _ rfl (hb0)
  have hz := zo_cut hz
  refine zb_aload_n d_Mo_pick_103 rfl rfl ?_
  refine zb_iload_n d_Mo_pick_104 rfl rfl ?_
  refine zb_aload_n d_Mo_pick_105 rfl rfl ?_
  refine zm_width d_Mo_pick_106 fl_Mo_13 ?_
  refine zb_iload_n d_Mo_pick_109 rfl rfl ?_
  refine zb_ialdN (q := 31) (j := a) d_Mo_pick_110 (ia31) (show a < 8 from ha) ?_
  refine zb_top (y := nI (w a)) ((hz.mw hmk).1 a ha) ?_
  refine zb_iconst (v := 3) d_Mo_pick_111 rfl ?_
  refine zb_callV (rest := []) (c_keep_y l G (D := (fun t => if nu t k = v then M a t else 0)) (u := w a) (hz.mw hmk) hr hz.1 hn) (lk_Mo_58.cw rfl rfl ⟨Nat.le_of_ble_eq_true rfl, Nat.le_of_ble_eq_true rfl⟩) zgM rfl rfl rfl rfl (Nat.le_of_ble_eq_true rfl) d_Mo_pick_112 ⟨Nat.le_of_ble_eq_true rfl, Nat.le_of_ble_eq_true rfl⟩ ?_
  rintro _ _ ⟨rfl, k1, k2, k3⟩
  rename_i σ9
  refine zb_st (st' := [.int (nI (zct (fun t => if nu t k = v then M a t else 0) 4096))]) rfl ?_
  exact zb_iret d_Mo_pick_115 rfl ⟨rfl, (fin_y z2 hz ⟨k2, k3⟩).1, k1, (fin_y z2 hz ⟨k2, k3⟩).2⟩
set_option maxHeartbeats 4000000 in
set_option maxRecDepth 100000 in
theorem c_msame_ns (l : Launch) (G : zG) {σ : zS} {x y : Int32} (h : ¬ (zgr x ∧ zgr y)) : zC l G y_Mo_same w_Mo_same (zrm 2 60) 0 0 [.ref (zad G 30), .int x, .int y] σ (fun v σ' => v = some (.int 0) ∧ zt σ σ' 1) := by
  refine zC_of (cc := c_Mo_same) (nL := 5) (ret := (some .boolean)) (own := R_Mo) (by decide +kernel) rfl rfl (Nat.le_of_ble_eq_true rfl) ?_
  refine zb_lv (lv' := [(0, .ref (zad G 30)), (1, .int x), (2, .int y)]) rfl ?_
  by_cases hx : zgr x
  · obtain ⟨r, hr, rfl⟩ := hx
    refine zb_aload_n d_Mo_same_0 rfl rfl ?_
    refine zb_iload_n d_Mo_same_1 rfl rfl ?_
    refine zb_callV (rest := []) (c_none_n l G hr) (lk_Mo_36.cw rfl rfl ⟨Nat.le_of_ble_eq_true rfl, Nat.le_of_ble_eq_true rfl⟩) zgM rfl rfl rfl rfl (Nat.le_of_ble_eq_true rfl) d_Mo_same_2 ⟨Nat.le_of_ble_eq_true rfl, Nat.le_of_ble_eq_true rfl⟩ ?_
    rintro _ _ ⟨rfl, y1⟩
    rename_i σ1
    have z1 : zt σ σ1 0 := y1
    refine zb_st (st' := [.int 0]) rfl ?_
    refine zb_if_ne (tgt := 16) d_Mo_same_5 rfl (fun h5 => absurd h5 (fun z => z rfl)) (fun h5 => ?_)
    by_cases hy : zgr y
    · exact absurd ⟨⟨r, hr, rfl⟩, hy⟩ h
    · refine zb_aload_n d_Mo_same_8 rfl rfl ?_
      refine zb_iload_n d_Mo_same_9 rfl rfl ?_
      refine zb_callV (rest := []) (c_none_y l G hy) (lk_Mo_36.cw rfl rfl ⟨Nat.le_of_ble_eq_true rfl, Nat.le_of_ble_eq_true rfl⟩) zgM rfl rfl rfl rfl (Nat.le_of_ble_eq_true rfl) d_Mo_same_10 ⟨Nat.le_of_ble_eq_true rfl, Nat.le_of_ble_eq_true rfl⟩ ?_
      rintro _ _ ⟨rfl, y9⟩
      rename_i σ9
      refine zb_st (st' := [.int 1]) rfl ?_
      refine zb_if_eq (tgt := 18) d_Mo_same_13 rfl (fun h13 => absurd h13 (by decide)) (fun h13 => ?_)
      refine zb_iconst (v := 0) d_Mo_same_16 rfl ?_
      exact zb_zret d_Mo_same_17 rfl rfl ⟨rfl, z1.tr y9⟩
  · refine zb_aload_n d_Mo_same_0 rfl rfl ?_
    refine zb_iload_n d_Mo_same_1 rfl rfl ?_
    refine zb_callV (rest := []) (c_none_y l G hx) (lk_Mo_36.cw rfl rfl ⟨Nat.le_of_ble_eq_true rfl, Nat.le_of_ble_eq_true rfl⟩) zgM rfl rfl rfl rfl (Nat.le_of_ble_eq_true rfl) d_Mo_same_2 ⟨Nat.le_of_ble_eq_true rfl, Nat.le_of_ble_eq_true rfl⟩ ?_
    rintro _ _ ⟨rfl, y9⟩
    rename_i σ9
    refine zb_st (st' := [.int 1]) rfl ?_
    refine zb_if_ne (tgt := 16) d_Mo_same_5 rfl (fun h5 => ?_) (fun h5 => absurd h5 (by decide))
    refine zb_iconst (v := 0) d_Mo_same_16 rfl ?_
    exact zb_zret d_Mo_same_17 rfl rfl ⟨rfl, y9⟩
set_option maxHeartbeats 4000000 in
set_option maxRecDepth 100000 in
theorem lp_same0 (l : Launch) (G : zG) {σ : zS} {a b : Nat} {φ : Option Value → zS → Prop} (hφ : φ (some (.int 0)) σ) : ∀ d i : Nat, i + d = 4096 → zB l G w_Mo_same R_Mo c_Mo_same 5 (some .boolean) [] (zrm 2 60) (zR G φ 0 0) 0 0 42 [(4, .int (nI i)), (3, .int 0), (0, .ref (zad G 30)), (1, .int (nI a)), (2, .int (nI b))] [] σ := by
  intro d
  induction d with
  | zero =>
    intro i hi
    have e : i = 4096 := by omega
    refine zb_iload d_Mo_same_42 rfl ?_
    refine zb_sipush (v := 4096) d_Mo_same_44 rfl ?_
    refine zb_icmp_ge (tgt := 83) d_Mo_same_47 rfl (fun h47 => ?_) (fun h47 => absurd (nI_le (a := 4096) (b := i) (by omega) (by omega)) h47)
    refine zb_iload_n d_Mo_same_83 rfl rfl ?_
    exact zb_zret d_Mo_same_84 rfl rfl hφ
  | succ d ih =>
    intro i hi
    have hlt : i < 4096 := by omega
    refine zb_iload d_Mo_same_42 rfl ?_
    refine zb_sipush (v := 4096) d_Mo_same_44 rfl ?_
    refine zb_icmp_ge (tgt := 83) d_Mo_same_47 rfl (fun h47 => absurd h47 (nI_ge (a := i) (b := 4096) (by omega) (by omega))) (fun h47 => ?_)
    refine zb_iload_n d_Mo_same_50 rfl rfl ?_
    refine zb_if_eq (tgt := 75) d_Mo_same_51 rfl (fun h51 => ?_) (fun h51 => absurd rfl h51)
    refine zb_iconst (v := 0) d_Mo_same_75 rfl ?_
    refine zb_istore_n (lv' := [(3, .int 0), (4, .int (nI i)), (0, .ref (zad G 30)), (1, .int (nI a)), (2, .int (nI b))]) d_Mo_same_76 rfl (by decide) rfl ?_
    refine zb_iinc (v := nI (i + 1)) (lv' := [(4, .int (nI (i + 1))), (3, .int 0), (0, .ref (zad G 30)), (1, .int (nI a)), (2, .int (nI b))]) d_Mo_same_77 rfl (nI_1 i) (by decide) rfl ?_
    refine zb_goto (tgt := 42) d_Mo_same_80 rfl ?_
    refine zb_sub [0, 1, 2, 3, 4] rfl ?_
    exact ih (i + 1) (by omega)
set_option maxHeartbeats 4000000 in
set_option maxRecDepth 100000 in
theorem lp_same1 (l : Launch) (G : zG) {σ : zS} {a b : Nat} {M : Nat → Nat → Int32} {w : Nat → Nat} (hm : zmw σ M w) (ha : a < 8) (hb : b < 8) {φ : Option Value → zS → Prop} (hφ1 : (∀ t, t < 4096 → M a t = M b t) → φ (some (.int 1)) σ) (hφ0 : ¬ (∀ t, t < 4096 → M a t = M b t) → φ (some (.int 0)) σ) : ∀ d i : Nat, i + d = 4096 → (∀ t, t < i → M a t = M b t) → zB l G w_Mo_same R_Mo c_Mo_same 5 (some .boolean) [] (zrm 2 60) (zR G φ 0 0) 0 0 42 [(4, .int (nI i)), (3, .int 1), (0, .ref (zad G 30)), (1, .int (nI a)), (2, .int (nI b))] [] σ := by
  intro d
  induction d with
  | zero =>
    intro i hi hq
    have e : i = 4096 := by omega
    refine zb_iload d_Mo_same_42 rfl ?_
    refine zb_sipush (v := 4096) d_Mo_same_44 rfl ?_
    refine zb_icmp_ge (tgt := 83) d_Mo_same_47 rfl (fun h47 => ?_) (fun h47 => absurd (nI_le (a := 4096) (b := i) (by omega) (by omega)) h47)
    refine zb_iload_n d_Mo_same_83 rfl rfl ?_
    exact zb_zret d_Mo_same_84 rfl rfl (hφ1 (fun t ht => hq t (by omega)))
  | succ d ih =>
    intro i hi hq
    have hlt : i < 4096 := by omega
    refine zb_iload d_Mo_same_42 rfl ?_
    refine zb_sipush (v := 4096) d_Mo_same_44 rfl ?_
    refine zb_icmp_ge (tgt := 83) d_Mo_same_47 rfl (fun h47 => absurd h47 (nI_ge (a := i) (b := 4096) (by omega) (by omega))) (fun h47 => ?_)
    refine zb_iload_n d_Mo_same_50 rfl rfl ?_
    refine zb_if_eq (tgt := 75) d_Mo_same_51 rfl (fun h51 => absurd h51 (by decide)) (fun h51 => ?_)
    refine zb_aload_n d_Mo_same_54 rfl rfl ?_
    refine zb_iload_n d_Mo_same_55 rfl rfl ?_
    refine zb_iload d_Mo_same_56 rfl ?_
    refine zb_callV (rest := []) (c_of l G hm ha hlt) (lk_Mo_48.cw rfl rfl ⟨Nat.le_of_ble_eq_true rfl, Nat.le_of_ble_eq_true rfl⟩) zgM rfl rfl rfl rfl (Nat.le_of_ble_eq_true rfl) d_Mo_same_58 ⟨Nat.le_of_ble_eq_true rfl, Nat.le_of_ble_eq_true rfl⟩ ?_
    rintro _ _ ⟨rfl, rfl⟩
    refine zb_st (st' := [.int (M a i)]) rfl ?_
    refine zb_aload_n d_Mo_same_61 rfl rfl ?_
    refine zb_iload_n d_Mo_same_62 rfl rfl ?_
    refine zb_iload d_Mo_same_63 rfl ?_
    refine zb_callV (rest := [.int (M a i)]) (c_of l G hm hb hlt) (lk_Mo_48.cw rfl rfl ⟨Nat.le_of_ble_eq_true rfl, Nat.le_of_ble_eq_true rfl⟩) zgM rfl rfl rfl rfl (Nat.le_of_ble_eq_true rfl) d_Mo_same_65 ⟨Nat.le_of_ble_eq_true rfl, Nat.le_of_ble_eq_true rfl⟩ ?_
    rintro _ _ ⟨rfl, rfl⟩
    refine zb_st (st' := [.int (M b i), .int (M a i)]) rfl ?_
    refine zb_icmp_ne (tgt := 75) d_Mo_same_68 rfl (fun h68 => ?_) (fun h68 => ?_)
    · refine zb_iconst (v := 0) d_Mo_same_75 rfl ?_
      refine zb_istore_n (lv' := [(3, .int 0), (4, .int (nI i)), (0, .ref (zad G 30)), (1, .int (nI a)), (2, .int (nI b))]) d_Mo_same_76 rfl (by decide) rfl ?_
      refine zb_iinc (v := nI (i + 1)) (lv' := [(4, .int (nI (i + 1))), (3, .int 0), (0, .ref (zad G 30)), (1, .int (nI a)), (2, .int (nI b))]) d_Mo_same_77 rfl (nI_1 i) (by decide) rfl ?_
      refine zb_goto (tgt := 42) d_Mo_same_80 rfl ?_
      refine zb_sub [0, 1, 2, 3, 4] rfl ?_
      exact lp_same0 l G (hφ0 (fun z => h68 (z i hlt))) d (i + 1) (by omega)
    · refine zb_iconst (v := 1) d_Mo_same_71 rfl ?_
      refine zb_goto (tgt := 76) d_Mo_same_72 rfl ?_
      refine zb_istore_n (lv' := [(3, .int 1), (4, .int (nI i)), (0, .ref (zad G 30)), (1, .int (nI a)), (2, .int (nI b))]) d_Mo_same_76 rfl (by decide) rfl ?_
      refine zb_iinc (v := nI (i + 1)) (lv' := [(4, .int (nI (i + 1))), (3, .int 1), (0, .ref (zad G 30)), (1, .int (nI a)), (2, .int (nI b))]) d_Mo_same_77 rfl (nI_1 i) (by decide) rfl ?_
      refine zb_goto (tgt := 42) d_Mo_same_80 rfl ?_
      refine zb_sub [0, 1, 2, 3, 4] rfl ?_
      exact ih (i + 1) (by omega) (fun t ht => by
        by_cases e : t = i
        · rw [e]; exact h68
        · exact hq t (by omega))
set_option maxHeartbeats 4000000 in
set_option maxRecDepth 100000 in
/-- same(a, b) -/
theorem c_msame (l : Launch) (G : zG) {σ : zS} {a b : Nat} {M : Nat → Nat → Int32} {w : Nat → Nat} (hm : zmw σ M w) (ha : a < 8) (hb : b < 8) (h3a : w a ≤ 3) (h3b : w b ≤ 3) : zC l G y_Mo_same w_Mo_same (zrm 2 60) 0 0 [.ref (zad G 30), .int (nI a), .int (nI b)] σ (fun v σ' => ((w a = w b ∧ ∀ t, t < 4096 → M a t = M b t) ∧ v = some (.int 1) ∨ ¬ (w a = w b ∧ ∀ t, t < 4096 → M a t = M b t) ∧ v = some (.int 0)) ∧ zt σ σ' 0) := by
  refine zC_of (cc := c_Mo_same) (nL := 5) (ret := (some .boolean)) (own := R_Mo) (by decide +kernel) rfl rfl (Nat.le_of_ble_eq_true rfl) ?_
  refine zb_lv (lv' := [(0, .ref (zad G 30)), (1, .int (nI a)), (2, .int (nI b))]) rfl ?_
  refine zb_aload_n d_Mo_same_0 rfl rfl ?_
  refine zb_iload_n d_Mo_same_1 rfl rfl ?_
  refine zb_callV (rest := []) (c_none_n l G ha) (lk_Mo_36.cw rfl rfl ⟨Nat.le_of_ble_eq_true rfl, Nat.le_of_ble_eq_true rfl⟩) zgM rfl rfl rfl rfl (Nat.le_of_ble_eq_true rfl) d_Mo_same_2 ⟨Nat.le_of_ble_eq_true rfl, Nat.le_of_ble_eq_true rfl⟩ ?_
  rintro _ _ ⟨rfl, y1⟩
  rename_i σ1
  have z1 : zt σ σ1 0 := y1
  refine zb_st (st' := [.int 0]) rfl ?_
  refine zb_if_ne (tgt := 16) d_Mo_same_5 rfl (fun h5 => absurd h5 (fun z => z rfl)) (fun h5 => ?_)
  refine zb_aload_n d_Mo_same_8 rfl rfl ?_
  refine zb_iload_n d_Mo_same_9 rfl rfl ?_
  refine zb_callV (rest := []) (c_none_n l G hb) (lk_Mo_36.cw rfl rfl ⟨Nat.le_of_ble_eq_true rfl, Nat.le_of_ble_eq_true rfl⟩) zgM rfl rfl rfl rfl (Nat.le_of_ble_eq_true rfl) d_Mo_same_10 ⟨Nat.le_of_ble_eq_true rfl, Nat.le_of_ble_eq_true rfl⟩ ?_
  rintro _ _ ⟨rfl, y2⟩
  rename_i σ2
  have z2 : zt σ σ2 0 := z1.tr y2
  refine zb_st (st' := [.int 0]) rfl ?_
  refine zb_if_eq (tgt := 18) d_Mo_same_13 rfl (fun h13 => ?_) (fun h13 => absurd rfl h13)
  refine zb_aload_n d_Mo_same_18 rfl rfl ?_
  refine zm_width d_Mo_same_19 fl_Mo_13 ?_
  refine zb_iload_n d_Mo_same_22 rfl rfl ?_
  refine zb_ialdN (q := 31) (j := a) d_Mo_same_23 (ia31) (show a < 8 from ha) ?_
  refine zb_top (y := nI (w a)) ((z2.mw hm).1 a ha) ?_
  refine zb_aload_n d_Mo_same_24 rfl rfl ?_
  refine zm_width d_Mo_same_25 fl_Mo_13 ?_
  refine zb_iload_n d_Mo_same_28 rfl rfl ?_
  refine zb_ialdN (q := 31) (j := b) d_Mo_same_29 (ia31) (show b < 8 from hb) ?_
  refine zb_top (y := nI (w b)) ((z2.mw hm).1 b hb) ?_
  refine zb_icmp_ne (tgt := 37) d_Mo_same_30 rfl (fun h30 => ?_) (fun h30 => ?_)
  · refine zb_iconst (v := 0) d_Mo_same_37 rfl ?_
    refine zb_istore_n (lv' := [(3, .int 0), (0, .ref (zad G 30)), (1, .int (nI a)), (2, .int (nI b))]) d_Mo_same_38 rfl (by decide) rfl ?_
    refine zb_iconst (v := 0) d_Mo_same_39 rfl ?_
    refine zb_istore (lv' := [(4, .int 0), (3, .int 0), (0, .ref (zad G 30)), (1, .int (nI a)), (2, .int (nI b))]) d_Mo_same_40 (by decide) rfl ?_
    refine zb_lv (lv' := [(4, .int (nI 0)), (3, .int 0), (0, .ref (zad G 30)), (1, .int (nI a)), (2, .int (nI b))]) rfl ?_
    exact lp_same0 l G ⟨Or.inr ⟨fun z => h30 (by rw [z.1]), rfl⟩, z2⟩ 4096 0 rfl
  · refine zb_iconst (v := 1) d_Mo_same_33 rfl ?_
    refine zb_goto (tgt := 38) d_Mo_same_34 rfl ?_
    refine zb_istore_n (lv' := [(3, .int 1), (0, .ref (zad G 30)), (1, .int (nI a)), (2, .int (nI b))]) d_Mo_same_38 rfl (by decide) rfl ?_
    refine zb_iconst (v := 0) d_Mo_same_39 rfl ?_
    refine zb_istore (lv' := [(4, .int 0), (3, .int 1), (0, .ref (zad G 30)), (1, .int (nI a)), (2, .int (nI b))]) d_Mo_same_40 (by decide) rfl ?_
    refine zb_lv (lv' := [(4, .int (nI 0)), (3, .int 1), (0, .ref (zad G 30)), (1, .int (nI a)), (2, .int (nI b))]) rfl ?_
    have hww : w a = w b := (nI_eq (by omega) (by omega)).mp h30
    exact lp_same1 l G (z2.mw hm) ha hb (fun q => ⟨Or.inl ⟨⟨hww, q⟩, rfl⟩, z2⟩) (fun q => ⟨Or.inr ⟨fun z => q z.2, rfl⟩, z2⟩) 4096 0 rfl (fun t ht => absurd ht (Nat.not_lt_zero t))
set_option maxHeartbeats 4000000 in
set_option maxRecDepth 100000 in
theorem c_mabout_ns (l : Launch) (G : zG) {σ : zS} {x y : Int32} (h : ¬ zgr x) : zC l G y_Mo_about w_Mo_about (zrm 2 60) 0 0 [.ref (zad G 30), .int x, .int y] σ (fun v σ' => v = some (.long 0) ∧ zt σ σ' 1) := by
  refine zC_of (cc := c_Mo_about) (nL := 10) (ret := (some .long)) (own := R_Mo) (by decide +kernel) rfl rfl (Nat.le_of_ble_eq_true rfl) ?_
  refine zb_lv (lv' := [(0, .ref (zad G 30)), (1, .int x), (2, .int y)]) rfl ?_
  by_cases hx : zgr x
  · exact absurd hx h
  · refine zb_aload_n d_Mo_about_0 rfl rfl ?_
    refine zb_iload_n d_Mo_about_1 rfl rfl ?_
    refine zb_callV (rest := []) (c_none_y l G hx) (lk_Mo_36.cw rfl rfl ⟨Nat.le_of_ble_eq_true rfl, Nat.le_of_ble_eq_true rfl⟩) zgM rfl rfl rfl rfl (Nat.le_of_ble_eq_true rfl) d_Mo_about_2 ⟨Nat.le_of_ble_eq_true rfl, Nat.le_of_ble_eq_true rfl⟩ ?_
    rintro _ _ ⟨rfl, y9⟩
    rename_i σ9
    refine zb_st (st' := [.int 1]) rfl ?_
    refine zb_if_ne (tgt := 30) d_Mo_about_5 rfl (fun h5 => ?_) (fun h5 => absurd h5 (by decide))
    refine zb_lconst (v := 0) d_Mo_about_30 rfl ?_
    exact zb_lret d_Mo_about_31 rfl ⟨rfl, y9⟩
set_option maxHeartbeats 4000000 in
set_option maxRecDepth 100000 in
theorem c_mabout_ia (l : Launch) (G : zG) {σ : zS} {r : Nat} {y : Int32} (hr : r < 8) (h : ¬ ∃ k : Nat, k < 5 ∧ y = nI k) : zC l G y_Mo_about w_Mo_about (zrm 2 60) 0 0 [.ref (zad G 30), .int (nI r), .int y] σ (fun v σ' => v = some (.long 0) ∧ zt σ σ' 2) := by
  refine zC_of (cc := c_Mo_about) (nL := 10) (ret := (some .long)) (own := R_Mo) (by decide +kernel) rfl rfl (Nat.le_of_ble_eq_true rfl) ?_
  refine zb_lv (lv' := [(0, .ref (zad G 30)), (1, .int (nI r)), (2, .int y)]) rfl ?_
  refine zb_aload_n d_Mo_about_0 rfl rfl ?_
  refine zb_iload_n d_Mo_about_1 rfl rfl ?_
  refine zb_callV (rest := []) (c_none_n l G hr) (lk_Mo_36.cw rfl rfl ⟨Nat.le_of_ble_eq_true rfl, Nat.le_of_ble_eq_true rfl⟩) zgM rfl rfl rfl rfl (Nat.le_of_ble_eq_true rfl) d_Mo_about_2 ⟨Nat.le_of_ble_eq_true rfl, Nat.le_of_ble_eq_true rfl⟩ ?_
  rintro _ _ ⟨rfl, y1⟩
  rename_i σ1
  have z1 : zt σ σ1 0 := y1
  refine zb_st (st' := [.int 0]) rfl ?_
  refine zb_if_ne (tgt := 30) d_Mo_about_5 rfl (fun h5 => absurd h5 (fun z => z rfl)) (fun h5 => ?_)
  refine zb_aload_n d_Mo_about_8 rfl rfl ?_
  refine zb_iconst (v := 2) d_Mo_about_9 rfl ?_
  refine zb_iload_n d_Mo_about_10 rfl rfl ?_
  refine zb_if_lt (tgt := 19) d_Mo_about_11 rfl (fun h11 => ?_) (fun h11 => ?_)
  · refine zb_iconst (v := 1) d_Mo_about_19 rfl ?_
    refine zb_goto (tgt := 24) d_Mo_about_20 rfl ?_
    refine zb_callV (rest := []) (c_refuse_y l G) (lk_Mo_28.cw rfl rfl ⟨Nat.le_of_ble_eq_true rfl, Nat.le_of_ble_eq_true rfl⟩) zgM rfl rfl rfl rfl (Nat.le_of_ble_eq_true rfl) d_Mo_about_24 ⟨Nat.le_of_ble_eq_true rfl, Nat.le_of_ble_eq_true rfl⟩ ?_
    rintro _ _ ⟨rfl, y9⟩
    rename_i σ9
    refine zb_st (st' := [.int 1]) rfl ?_
    refine zb_if_eq (tgt := 32) d_Mo_about_27 rfl (fun h27 => absurd h27 (by decide)) (fun h27 => ?_)
    refine zb_lconst (v := 0) d_Mo_about_30 rfl ?_
    exact zb_lret d_Mo_about_31 rfl ⟨rfl, z1.tr y9⟩
  · refine zb_iload_n d_Mo_about_14 rfl rfl ?_
    refine zb_iconst (v := 4) d_Mo_about_15 rfl ?_
    refine zb_icmp_le (tgt := 23) d_Mo_about_16 rfl (fun h16 => absurd h16 (fun z => by
      obtain ⟨k, hk31, rfl⟩ := nI_of h11
      exact h ⟨k, by have := (nI_leI (b := 4) hk31 (by decide)).mp z; omega, rfl⟩)) (fun h16 => ?_)
    refine zb_iconst (v := 1) d_Mo_about_19 rfl ?_
    refine zb_goto (tgt := 24) d_Mo_about_20 rfl ?_
    refine zb_callV (rest := []) (c_refuse_y l G) (lk_Mo_28.cw rfl rfl ⟨Nat.le_of_ble_eq_true rfl, Nat.le_of_ble_eq_true rfl⟩) zgM rfl rfl rfl rfl (Nat.le_of_ble_eq_true rfl) d_Mo_about_24 ⟨Nat.le_of_ble_eq_true rfl, Nat.le_of_ble_eq_true rfl⟩ ?_
    rintro _ _ ⟨rfl, y9⟩
    rename_i σ9
    refine zb_st (st' := [.int 1]) rfl ?_
    refine zb_if_eq (tgt := 32) d_Mo_about_27 rfl (fun h27 => absurd h27 (by decide)) (fun h27 => ?_)
    refine zb_lconst (v := 0) d_Mo_about_30 rfl ?_
    exact zb_lret d_Mo_about_31 rfl ⟨rfl, z1.tr y9⟩
theorem fm_s {α : Type} (f : α → Nat → Int32 → α) (a0 : α) (m : Nat → Int32) (t : Nat) : fm f a0 m (t + 1) = if m t = 0 then fm f a0 m t else f (fm f a0 m t) t (m t) := rfl
theorem fmF_lt (m : Nat → Int32) (n : Nat) : fm fF 0 m n < 65536 := by
  induction n with
  | zero => exact (by decide : 0 < 65536)
  | succ n ih =>
    rw [fm_s]
    split
    · exact ih
    · exact Nat.or_lt_two_pow (n := 16) ih (Nat.pow_lt_pow_right (by decide) (Nat.mod_lt _ (by decide)))
def gO (g : Option Int32) : Int32 := match g with
  | none => 0
  | some _ => 1
set_option maxHeartbeats 4000000 in
set_option maxRecDepth 100000 in
theorem lp_mabout (l : Launch) (G : zG) {σ : zS} {r : Nat} {y : Int32} {M : Nat → Nat → Int32} {w : Nat → Nat} (hm : zmw σ M w) (hr : r < 8) {Fin : List Frame → Array Value → State → State → Prop} (K : zB l G w_Mo_about R_Mo c_Mo_about 10 (some .long) [] (zrm 2 60) Fin 0 0 125 [(8, .int (nI 4096)), (7, .int (gO (fm fG none (M r) 4096))), (6, .int ((fm fG none (M r) 4096).getD 0)), (4, .long (fm fS 0 (M r) 4096)), (3, .int (nI (fm fF 0 (M r) 4096))), (0, .ref (zad G 30)), (1, .int (nI r)), (2, .int y)] [] σ) : ∀ d i : Nat, i + d = 4096 → zB l G w_Mo_about R_Mo c_Mo_about 10 (some .long) [] (zrm 2 60) Fin 0 0 46 [(8, .int (nI i)), (7, .int (gO (fm fG none (M r) i))), (6, .int ((fm fG none (M r) i).getD 0)), (4, .long (fm fS 0 (M r) i)), (3, .int (nI (fm fF 0 (M r) i))), (0, .ref (zad G 30)), (1, .int (nI r)), (2, .int y)] [] σ := by
  intro d
  induction d with
  | zero =>
    intro i hi
    have e : i = 4096 := by omega
    refine zb_iload d_Mo_about_46 rfl ?_
    refine zb_sipush (v := 4096) d_Mo_about_48 rfl ?_
    refine zb_icmp_ge (tgt := 125) d_Mo_about_51 rfl (fun h51 => ?_) (fun h51 => absurd (nI_le (a := 4096) (b := i) (by omega) (by omega)) h51)
    refine zb_sub [0, 1, 2, 3, 4, 5, 6, 7] rfl ?_
    rw [e]
    exact K
  | succ d ih =>
    intro i hi
    have hlt : i < 4096 := by omega
    refine zb_iload d_Mo_about_46 rfl ?_
    refine zb_sipush (v := 4096) d_Mo_about_48 rfl ?_
    refine zb_icmp_ge (tgt := 125) d_Mo_about_51 rfl (fun h51 => absurd h51 (nI_ge (a := i) (b := 4096) (by omega) (by omega))) (fun h51 => ?_)
    refine zb_aload_n d_Mo_about_54 rfl rfl ?_
    refine zb_iload_n d_Mo_about_55 rfl rfl ?_
    refine zb_iload d_Mo_about_56 rfl ?_
    refine zb_callV (rest := []) (c_of l G hm hr hlt) (lk_Mo_48.cw rfl rfl ⟨Nat.le_of_ble_eq_true rfl, Nat.le_of_ble_eq_true rfl⟩) zgM rfl rfl rfl rfl (Nat.le_of_ble_eq_true rfl) d_Mo_about_58 ⟨Nat.le_of_ble_eq_true rfl, Nat.le_of_ble_eq_true rfl⟩ ?_
    rintro _ _ ⟨rfl, rfl⟩
    refine zb_st (st' := [.int (M r i)]) rfl ?_
    refine zb_istore (lv' := [(9, .int (M r i)), (8, .int (nI i)), (7, .int (gO (fm fG none (M r) i))), (6, .int ((fm fG none (M r) i).getD 0)), (4, .long (fm fS 0 (M r) i)), (3, .int (nI (fm fF 0 (M r) i))), (0, .ref (zad G 30)), (1, .int (nI r)), (2, .int y)]) d_Mo_about_61 (by decide) rfl ?_
    refine zb_iload d_Mo_about_63 rfl ?_
    refine zb_if_ne (tgt := 71) d_Mo_about_65 rfl (fun h65 => ?_) (fun h65 => ?_)
    · refine zb_iload_n d_Mo_about_71 rfl rfl ?_
      refine zb_iconst (v := 1) d_Mo_about_72 rfl ?_
      refine zb_iload d_Mo_about_73 rfl ?_
      refine zb_iconst (v := 0) d_Mo_about_75 rfl ?_
      refine zb_callS (rest := [.int 1, .int (nI (fm fF 0 (M r) i))]) (c_number l G (p := 0) hlt (by decide)) (lk_Mo_55.cw rfl rfl ⟨Nat.le_of_ble_eq_true rfl, Nat.le_of_ble_eq_true rfl⟩) rfl rfl (Nat.le_of_ble_eq_true rfl) d_Mo_about_76 ⟨Nat.le_of_ble_eq_true rfl, Nat.le_of_ble_eq_true rfl⟩ ?_
      rintro _ _ ⟨rfl, rfl⟩
      refine zb_st (st' := [.int (nI (nu i 0)), .int 1, .int (nI (fm fF 0 (M r) i))]) rfl ?_
      refine zb_ishl d_Mo_about_79 ?_
      refine zb_top (y := nI (2 ^ nu i 0)) (nI_bit _ (nu_lt i 0)) ?_
      refine zb_ior d_Mo_about_80 ?_
      refine zb_top (y := nI (fm fF 0 (M r) i ||| 2 ^ nu i 0)) (nI_or _ _) ?_
      refine zb_istore_n (lv' := [(3, .int (nI (fm fF 0 (M r) i ||| 2 ^ nu i 0))), (9, .int (M r i)), (8, .int (nI i)), (7, .int (gO (fm fG none (M r) i))), (6, .int ((fm fG none (M r) i).getD 0)), (4, .long (fm fS 0 (M r) i)), (0, .ref (zad G 30)), (1, .int (nI r)), (2, .int y)]) d_Mo_about_81 rfl (by decide) rfl ?_
      refine zb_lload d_Mo_about_82 rfl ?_
      refine zb_iload d_Mo_about_84 rfl ?_
      refine zb_i2l (v := (M r i).toInt64) d_Mo_about_86 rfl ?_
      refine zb_ladd d_Mo_about_87 ?_
      refine zb_lstore (lv' := [(4, .long ((fm fS 0 (M r) i) + ((M r i).toInt64))), (3, .int (nI (fm fF 0 (M r) i ||| 2 ^ nu i 0))), (9, .int (M r i)), (8, .int (nI i)), (7, .int (gO (fm fG none (M r) i))), (6, .int ((fm fG none (M r) i).getD 0)), (0, .ref (zad G 30)), (1, .int (nI r)), (2, .int y)]) d_Mo_about_88 (by decide) rfl ?_
      rcases hg : fm fG none (M r) i with _ | g
      · refine zb_lv (lv' := [(4, .long ((fm fS 0 (M r) i) + ((M r i).toInt64))), (3, .int (nI (fm fF 0 (M r) i ||| 2 ^ nu i 0))), (9, .int (M r i)), (8, .int (nI i)), (7, .int 0), (6, .int 0), (0, .ref (zad G 30)), (1, .int (nI r)), (2, .int y)]) rfl ?_
        refine zb_iload d_Mo_about_90 rfl ?_
        refine zb_if_eq (tgt := 112) d_Mo_about_92 rfl (fun h92 => ?_) (fun h92 => absurd rfl h92)
        refine zb_iload d_Mo_about_112 rfl ?_
        refine zb_istore (lv' := [(6, .int (M r i)), (4, .long ((fm fS 0 (M r) i) + ((M r i).toInt64))), (3, .int (nI (fm fF 0 (M r) i ||| 2 ^ nu i 0))), (9, .int (M r i)), (8, .int (nI i)), (7, .int 0), (0, .ref (zad G 30)), (1, .int (nI r)), (2, .int y)]) d_Mo_about_114 (by decide) rfl ?_
        refine zb_iconst (v := 1) d_Mo_about_116 rfl ?_
        refine zb_istore (lv' := [(7, .int 1), (6, .int (M r i)), (4, .long ((fm fS 0 (M r) i) + ((M r i).toInt64))), (3, .int (nI (fm fF 0 (M r) i ||| 2 ^ nu i 0))), (9, .int (M r i)), (8, .int (nI i)), (0, .ref (zad G 30)), (1, .int (nI r)), (2, .int y)]) d_Mo_about_117 (by decide) rfl ?_
        refine zb_iinc (v := nI (i + 1)) (lv' := [(8, .int (nI (i + 1))), (7, .int 1), (6, .int (M r i)), (4, .long ((fm fS 0 (M r) i) + ((M r i).toInt64))), (3, .int (nI (fm fF 0 (M r) i ||| 2 ^ nu i 0))), (9, .int (M r i)), (0, .ref (zad G 30)), (1, .int (nI r)), (2, .int y)]) d_Mo_about_119 rfl (nI_1 i) (by decide) rfl ?_
        refine zb_goto (tgt := 46) d_Mo_about_122 rfl ?_
        refine zb_sub [0, 1, 2, 3, 4, 6, 7, 8] rfl ?_
        refine zb_lv (lv' := [(8, .int (nI (i + 1))), (7, .int (gO (fm fG none (M r) (i + 1)))), (6, .int ((fm fG none (M r) (i + 1)).getD 0)), (4, .long (fm fS 0 (M r) (i + 1))), (3, .int (nI (fm fF 0 (M r) (i + 1)))), (0, .ref (zad G 30)), (1, .int (nI r)), (2, .int y)]) (by simp only [fm_s, h65, if_false, hg, fG, gO, Option.getD]; rfl) ?_
        exact ih (i + 1) (by omega)
      · refine zb_lv (lv' := [(4, .long ((fm fS 0 (M r) i) + ((M r i).toInt64))), (3, .int (nI (fm fF 0 (M r) i ||| 2 ^ nu i 0))), (9, .int (M r i)), (8, .int (nI i)), (7, .int 1), (6, .int g), (0, .ref (zad G 30)), (1, .int (nI r)), (2, .int y)]) rfl ?_
        refine zb_iload d_Mo_about_90 rfl ?_
        refine zb_if_eq (tgt := 112) d_Mo_about_92 rfl (fun h92 => absurd h92 (by decide)) (fun h92 => ?_)
        refine zb_iload d_Mo_about_95 rfl ?_
        refine zb_iload d_Mo_about_97 rfl ?_
        refine zb_icmp_le (tgt := 107) d_Mo_about_99 rfl (fun h99 => ?_) (fun h99 => ?_)
        · refine zb_iload d_Mo_about_107 rfl ?_
          refine zb_goto (tgt := 114) d_Mo_about_109 rfl ?_
          refine zb_istore (lv' := [(6, .int g), (4, .long ((fm fS 0 (M r) i) + ((M r i).toInt64))), (3, .int (nI (fm fF 0 (M r) i ||| 2 ^ nu i 0))), (9, .int (M r i)), (8, .int (nI i)), (7, .int 1), (0, .ref (zad G 30)), (1, .int (nI r)), (2, .int y)]) d_Mo_about_114 (by decide) rfl ?_
          refine zb_iconst (v := 1) d_Mo_about_116 rfl ?_
          refine zb_istore (lv' := [(7, .int 1), (6, .int g), (4, .long ((fm fS 0 (M r) i) + ((M r i).toInt64))), (3, .int (nI (fm fF 0 (M r) i ||| 2 ^ nu i 0))), (9, .int (M r i)), (8, .int (nI i)), (0, .ref (zad G 30)), (1, .int (nI r)), (2, .int y)]) d_Mo_about_117 (by decide) rfl ?_
          refine zb_iinc (v := nI (i + 1)) (lv' := [(8, .int (nI (i + 1))), (7, .int 1), (6, .int g), (4, .long ((fm fS 0 (M r) i) + ((M r i).toInt64))), (3, .int (nI (fm fF 0 (M r) i ||| 2 ^ nu i 0))), (9, .int (M r i)), (0, .ref (zad G 30)), (1, .int (nI r)), (2, .int y)]) d_Mo_about_119 rfl (nI_1 i) (by decide) rfl ?_
          refine zb_goto (tgt := 46) d_Mo_about_122 rfl ?_
          refine zb_sub [0, 1, 2, 3, 4, 6, 7, 8] rfl ?_
          refine zb_lv (lv' := [(8, .int (nI (i + 1))), (7, .int (gO (fm fG none (M r) (i + 1)))), (6, .int ((fm fG none (M r) (i + 1)).getD 0)), (4, .long (fm fS 0 (M r) (i + 1))), (3, .int (nI (fm fF 0 (M r) (i + 1)))), (0, .ref (zad G 30)), (1, .int (nI r)), (2, .int y)]) (by simp only [fm_s, h65, if_false, hg, fG, gO, Option.getD, if_neg (Int32.not_lt.mpr h99)]; rfl) ?_
          exact ih (i + 1) (by omega)
        · refine zb_iload d_Mo_about_102 rfl ?_
          refine zb_goto (tgt := 114) d_Mo_about_104 rfl ?_
          refine zb_istore (lv' := [(6, .int (M r i)), (4, .long ((fm fS 0 (M r) i) + ((M r i).toInt64))), (3, .int (nI (fm fF 0 (M r) i ||| 2 ^ nu i 0))), (9, .int (M r i)), (8, .int (nI i)), (7, .int 1), (0, .ref (zad G 30)), (1, .int (nI r)), (2, .int y)]) d_Mo_about_114 (by decide) rfl ?_
          refine zb_iconst (v := 1) d_Mo_about_116 rfl ?_
          refine zb_istore (lv' := [(7, .int 1), (6, .int (M r i)), (4, .long ((fm fS 0 (M r) i) + ((M r i).toInt64))), (3, .int (nI (fm fF 0 (M r) i ||| 2 ^ nu i 0))), (9, .int (M r i)), (8, .int (nI i)), (0, .ref (zad G 30)), (1, .int (nI r)), (2, .int y)]) d_Mo_about_117 (by decide) rfl ?_
          refine zb_iinc (v := nI (i + 1)) (lv' := [(8, .int (nI (i + 1))), (7, .int 1), (6, .int (M r i)), (4, .long ((fm fS 0 (M r) i) + ((M r i).toInt64))), (3, .int (nI (fm fF 0 (M r) i ||| 2 ^ nu i 0))), (9, .int (M r i)), (0, .ref (zad G 30)), (1, .int (nI r)), (2, .int y)]) d_Mo_about_119 rfl (nI_1 i) (by decide) rfl ?_
          refine zb_goto (tgt := 46) d_Mo_about_122 rfl ?_
          refine zb_sub [0, 1, 2, 3, 4, 6, 7, 8] rfl ?_
          refine zb_lv (lv' := [(8, .int (nI (i + 1))), (7, .int (gO (fm fG none (M r) (i + 1)))), (6, .int ((fm fG none (M r) (i + 1)).getD 0)), (4, .long (fm fS 0 (M r) (i + 1))), (3, .int (nI (fm fF 0 (M r) (i + 1)))), (0, .ref (zad G 30)), (1, .int (nI r)), (2, .int y)]) (by simp only [fm_s, h65, if_false, hg, fG, gO, Option.getD, if_pos (Int32.not_le.mp h99)]; rfl) ?_
          exact ih (i + 1) (by omega)
    · refine zb_goto (tgt := 119) d_Mo_about_68 rfl ?_
      refine zb_iinc (v := nI (i + 1)) (lv' := [(8, .int (nI (i + 1))), (9, .int (M r i)), (7, .int (gO (fm fG none (M r) i))), (6, .int ((fm fG none (M r) i).getD 0)), (4, .long (fm fS 0 (M r) i)), (3, .int (nI (fm fF 0 (M r) i))), (0, .ref (zad G 30)), (1, .int (nI r)), (2, .int y)]) d_Mo_about_119 rfl (nI_1 i) (by decide) rfl ?_
      refine zb_goto (tgt := 46) d_Mo_about_122 rfl ?_
      refine zb_sub [0, 2, 3, 4, 5, 6, 7, 8] rfl ?_
      refine zb_lv (lv' := [(8, .int (nI (i + 1))), (7, .int (gO (fm fG none (M r) (i + 1)))), (6, .int ((fm fG none (M r) (i + 1)).getD 0)), (4, .long (fm fS 0 (M r) (i + 1))), (3, .int (nI (fm fF 0 (M r) (i + 1)))), (0, .ref (zad G 30)), (1, .int (nI r)), (2, .int y)]) (by simp only [fm_s, h65, if_true]; rfl) ?_
      exact ih (i + 1) (by omega)
set_option maxHeartbeats 4000000 in
set_option maxRecDepth 100000 in
/-- about(r, what) -/
theorem c_mabout (l : Launch) (G : zG) {σ : zS} {r k : Nat} {M : Nat → Nat → Int32} {w : Nat → Nat} (hm : zmw σ M w) (hr : r < 8) (hk : k < 5) : zC l G y_Mo_about w_Mo_about (zrm 2 60) 0 0 [.ref (zad G 30), .int (nI r), .int (nI k)] σ (fun v σ' => v = some (.long (abt (w r) (M r) k)) ∧ zt σ σ' 0) := by
  refine zC_of (cc := c_Mo_about) (nL := 10) (ret := (some .long)) (own := R_Mo) (by decide +kernel) rfl rfl (Nat.le_of_ble_eq_true rfl) ?_
  refine zb_lv (lv' := [(0, .ref (zad G 30)), (1, .int (nI r)), (2, .int (nI k))]) rfl ?_
  refine zb_aload_n d_Mo_about_0 rfl rfl ?_
  refine zb_iload_n d_Mo_about_1 rfl rfl ?_
  refine zb_callV (rest := []) (c_none_n l G hr) (lk_Mo_36.cw rfl rfl ⟨Nat.le_of_ble_eq_true rfl, Nat.le_of_ble_eq_true rfl⟩) zgM rfl rfl rfl rfl (Nat.le_of_ble_eq_true rfl) d_Mo_about_2 ⟨Nat.le_of_ble_eq_true rfl, Nat.le_of_ble_eq_true rfl⟩ ?_
  rintro _ _ ⟨rfl, y1⟩
  rename_i σ1
  have z1 : zt σ σ1 0 := y1
  refine zb_st (st' := [.int 0]) rfl ?_
  refine zb_if_ne (tgt := 30) d_Mo_about_5 rfl (fun h5 => absurd h5 (fun z => z rfl)) (fun h5 => ?_)
  refine zb_aload_n d_Mo_about_8 rfl rfl ?_
  refine zb_iconst (v := 2) d_Mo_about_9 rfl ?_
  refine zb_iload_n d_Mo_about_10 rfl rfl ?_
  refine zb_if_lt (tgt := 19) d_Mo_about_11 rfl (fun h11 => absurd h11 (nI_pos (by omega))) (fun h11 => ?_)
  refine zb_iload_n d_Mo_about_14 rfl rfl ?_
  refine zb_iconst (v := 4) d_Mo_about_15 rfl ?_
  refine zb_icmp_le (tgt := 23) d_Mo_about_16 rfl (fun h16 => ?_) (fun h16 => absurd (nI_le (b := 4) (show k ≤ 4 by omega) (by decide)) h16)
  refine zb_iconst (v := 0) d_Mo_about_23 rfl ?_
  refine zb_callV (rest := []) (c_refuse_n l G) (lk_Mo_28.cw rfl rfl ⟨Nat.le_of_ble_eq_true rfl, Nat.le_of_ble_eq_true rfl⟩) zgM rfl rfl rfl rfl (Nat.le_of_ble_eq_true rfl) d_Mo_about_24 ⟨Nat.le_of_ble_eq_true rfl, Nat.le_of_ble_eq_true rfl⟩ ?_
  rintro _ _ ⟨rfl, rfl⟩
  refine zb_st (st' := [.int 0]) rfl ?_
  refine zb_if_eq (tgt := 32) d_Mo_about_27 rfl (fun h27 => ?_) (fun h27 => absurd rfl h27)
  refine zb_iconst (v := 0) d_Mo_about_32 rfl ?_
  refine zb_istore_n (lv' := [(3, .int 0), (0, .ref (zad G 30)), (1, .int (nI r)), (2, .int (nI k))]) d_Mo_about_33 rfl (by decide) rfl ?_
  refine zb_lconst (v := 0) d_Mo_about_34 rfl ?_
  refine zb_lstore (lv' := [(4, .long 0), (3, .int 0), (0, .ref (zad G 30)), (1, .int (nI r)), (2, .int (nI k))]) d_Mo_about_35 (by decide) rfl ?_
  refine zb_iconst (v := 0) d_Mo_about_37 rfl ?_
  refine zb_istore (lv' := [(6, .int 0), (4, .long 0), (3, .int 0), (0, .ref (zad G 30)), (1, .int (nI r)), (2, .int (nI k))]) d_Mo_about_38 (by decide) rfl ?_
  refine zb_iconst (v := 0) d_Mo_about_40 rfl ?_
  refine zb_istore (lv' := [(7, .int 0), (6, .int 0), (4, .long 0), (3, .int 0), (0, .ref (zad G 30)), (1, .int (nI r)), (2, .int (nI k))]) d_Mo_about_41 (by decide) rfl ?_
  refine zb_iconst (v := 0) d_Mo_about_43 rfl ?_
  refine zb_istore (lv' := [(8, .int 0), (7, .int 0), (6, .int 0), (4, .long 0), (3, .int 0), (0, .ref (zad G 30)), (1, .int (nI r)), (2, .int (nI k))]) d_Mo_about_44 (by decide) rfl ?_
  refine zb_lv (lv' := [(8, .int (nI 0)), (7, .int (gO (fm fG none (M r) 0))), (6, .int ((fm fG none (M r) 0).getD 0)), (4, .long (fm fS 0 (M r) 0)), (3, .int (nI (fm fF 0 (M r) 0))), (0, .ref (zad G 30)), (1, .int (nI r)), (2, .int (nI k))]) rfl ?_
  refine lp_mabout l G (z1.mw hm) hr ?_ 4096 0 rfl
  refine zb_iload_n d_Mo_about_125 rfl rfl ?_
  rcases (show k = 0 ∨ k = 1 ∨ k = 2 ∨ k = 3 ∨ k = 4 by omega) with rfl | rfl | rfl | rfl | rfl
  · refine zb_tableIn (tgt := 156) d_Mo_about_126 (by decide) (by decide) rfl rfl ?_
    refine zb_lv (lv' := [(8, .int (nI 4096)), (7, .int (gO (fm fG none (M r) 4096))), (6, .int ((fm fG none (M r) 4096).getD 0)), (4, .long (fm fS 0 (M r) 4096)), (3, .int (nI (fm fF 0 (M r) 4096))), (0, .ref (zad G 30)), (1, .int (nI r)), (2, .int (nI 0))]) rfl ?_
    refine zb_aload_n d_Mo_about_156 rfl rfl ?_
    refine zm_width d_Mo_about_157 fl_Mo_13 ?_
    refine zb_iload_n d_Mo_about_160 rfl rfl ?_
    refine zb_ialdN (q := 31) (j := r) d_Mo_about_161 (ia31) (show r < 8 from hr) ?_
    refine zb_top (y := nI (w r)) ((z1.mw hm).1 r hr) ?_
    refine zb_i2l (v := (nI (w r)).toInt64) d_Mo_about_162 rfl ?_
    exact zb_lret d_Mo_about_163 rfl ⟨rfl, z1⟩
  · refine zb_tableIn (tgt := 164) d_Mo_about_126 (by decide) (by decide) rfl rfl ?_
    refine zb_lv (lv' := [(8, .int (nI 4096)), (7, .int (gO (fm fG none (M r) 4096))), (6, .int ((fm fG none (M r) 4096).getD 0)), (4, .long (fm fS 0 (M r) 4096)), (3, .int (nI (fm fF 0 (M r) 4096))), (0, .ref (zad G 30)), (1, .int (nI r)), (2, .int (nI 1))]) rfl ?_
    refine zb_aload_n d_Mo_about_164 rfl rfl ?_
    refine zb_iload_n d_Mo_about_165 rfl rfl ?_
    refine zb_callV (rest := []) (c_in l G (z1.mw hm) hr) (lk_Mo_40.cw rfl rfl ⟨Nat.le_of_ble_eq_true rfl, Nat.le_of_ble_eq_true rfl⟩) zgM rfl rfl rfl rfl (Nat.le_of_ble_eq_true rfl) d_Mo_about_166 ⟨Nat.le_of_ble_eq_true rfl, Nat.le_of_ble_eq_true rfl⟩ ?_
    rintro _ _ ⟨rfl, rfl⟩
    refine zb_st (st' := [.int (nI (zct (M r) 4096))]) rfl ?_
    refine zb_i2l (v := (nI (zct (M r) 4096)).toInt64) d_Mo_about_169 rfl ?_
    exact zb_lret d_Mo_about_170 rfl ⟨rfl, z1⟩
  · refine zb_tableIn (tgt := 171) d_Mo_about_126 (by decide) (by decide) rfl rfl ?_
    refine zb_lv (lv' := [(8, .int (nI 4096)), (7, .int (gO (fm fG none (M r) 4096))), (6, .int ((fm fG none (M r) 4096).getD 0)), (4, .long (fm fS 0 (M r) 4096)), (3, .int (nI (fm fF 0 (M r) 4096))), (0, .ref (zad G 30)), (1, .int (nI r)), (2, .int (nI 2))]) rfl ?_
    refine zb_iload_n d_Mo_about_171 rfl rfl ?_
    refine zb_callS (rest := []) (c_bits l G (fmF_lt (M r) 4096)) (lk_Mo_62.cw rfl rfl ⟨Nat.le_of_ble_eq_true rfl, Nat.le_of_ble_eq_true rfl⟩) rfl rfl (Nat.le_of_ble_eq_true rfl) d_Mo_about_172 ⟨Nat.le_of_ble_eq_true rfl, Nat.le_of_ble_eq_true rfl⟩ ?_
    rintro _ _ ⟨rfl, rfl⟩
    refine zb_st (st' := [.int (nI (pc16 (fm fF 0 (M r) 4096)))]) rfl ?_
    refine zb_i2l (v := (nI (pc16 (fm fF 0 (M r) 4096))).toInt64) d_Mo_about_175 rfl ?_
    exact zb_lret d_Mo_about_176 rfl ⟨rfl, z1⟩
  · refine zb_tableIn (tgt := 177) d_Mo_about_126 (by decide) (by decide) rfl rfl ?_
    refine zb_lv (lv' := [(8, .int (nI 4096)), (7, .int (gO (fm fG none (M r) 4096))), (6, .int ((fm fG none (M r) 4096).getD 0)), (4, .long (fm fS 0 (M r) 4096)), (3, .int (nI (fm fF 0 (M r) 4096))), (0, .ref (zad G 30)), (1, .int (nI r)), (2, .int (nI 3))]) rfl ?_
    refine zb_lload d_Mo_about_177 rfl ?_
    exact zb_lret d_Mo_about_179 rfl ⟨rfl, z1⟩
  · refine zb_tableOut (tgt := 180) d_Mo_about_126 (by decide) rfl ?_
    refine zb_lv (lv' := [(8, .int (nI 4096)), (7, .int (gO (fm fG none (M r) 4096))), (6, .int ((fm fG none (M r) 4096).getD 0)), (4, .long (fm fS 0 (M r) 4096)), (3, .int (nI (fm fF 0 (M r) 4096))), (0, .ref (zad G 30)), (1, .int (nI r)), (2, .int (nI 4))]) rfl ?_
    refine zb_iload d_Mo_about_180 rfl ?_
    refine zb_i2l (v := ((fm fG none (M r) 4096).getD 0).toInt64) d_Mo_about_182 rfl ?_
    exact zb_lret d_Mo_about_183 rfl ⟨rfl, z1⟩
end
