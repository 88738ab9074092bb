def R_Rel : String := "TupleShelf$Relation"
def T_Rel : u_T := fun k => match k with
  | 0 => ("TupleShelf$Relation", "tuples", "[I", true)
  | 1 => ("TupleShelf$Relation", "counts", "[I", true)
  | 2 => ("TupleShelf$Relation", "width", "I", false)
  | _ => ("TupleShelf$Relation", "size", "I", false)
def ty_Rel : Nat → FieldType := fun k => match k with
  | 0 => .array .int
  | 1 => .array .int
  | 2 => .int
  | _ => .int
theorem nm_Rel : ∀ a, a < 4 → ∀ b, b < 4 → a ≠ b → (T_Rel a).2.1 ≠ (T_Rel b).2.1 := by decide +kernel
theorem ty_Rel_ok : ∀ k, k < 4 → parseFieldDescriptor (T_Rel k).2.2.1 = some (ty_Rel k) := by decide +kernel
def R_Sh : String := "TupleShelf"
def T_Sh : u_T := fun k => match k with
  | 0 => ("TupleShelf", "relations", "[LTupleShelf$Relation;", true)
  | 1 => ("TupleShelf", "spare", "LTupleShelf$Relation;", false)
  | _ => ("TupleShelf", "reached", "[I", true)
def ty_Sh : Nat → FieldType := fun k => match k with
  | 0 => .array (.object "TupleShelf$Relation")
  | 1 => .object "TupleShelf$Relation"
  | _ => .array .int
theorem nm_Sh : ∀ a, a < 3 → ∀ b, b < 3 → a ≠ b → (T_Sh a).2.1 ≠ (T_Sh b).2.1 := by decide +kernel
theorem ty_Sh_ok : ∀ k, k < 3 → parseFieldDescriptor (T_Sh k).2.2.1 = some (ty_Sh k) := by decide +kernel
def R_Mo : String := "TupleShelfModel"
def T_Mo : u_T := fun k => match k with
  | 0 => ("TupleShelfModel", "thrown", "I", false)
  | 1 => ("TupleShelfModel", "width", "[I", true)
  | 2 => ("TupleShelfModel", "counts", "[I", true)
  | 3 => ("TupleShelfModel", "made", "[I", true)
  | _ => ("TupleShelfModel", "way", "[Z", true)
def ty_Mo : Nat → FieldType := fun k => match k with
  | 0 => .int
  | 1 => .array .int
  | 2 => .array .int
  | 3 => .array .int
  | _ => .array .boolean
theorem nm_Mo : ∀ a, a < 5 → ∀ b, b < 5 → a ≠ b → (T_Mo a).2.1 ≠ (T_Mo b).2.1 := by decide +kernel
theorem ty_Mo_ok : ∀ k, k < 5 → parseFieldDescriptor (T_Mo k).2.2.1 = some (ty_Mo k) := by decide +kernel
def R_La : String := "TupleShelfLaw"
abbrev vwCl : List vw_C := [(R_Rel, T_Rel, 4), (R_Sh, T_Sh, 3), (R_Mo, T_Mo, 5)]
abbrev n_Rel : Nat := 0
abbrev n_Shelf : Nat := 1
abbrev n_Model : Nat := 2
/-- all good words of the tables: every method's words are these, behind its own code -/
def zws : List Cond := lw_tbl.filter goodWord
def zwy (y : MethodName) (cc : ByteArray) (n : Nat) (ret : Option FieldType) : List Cond := .code y cc n ret :: zws
theorem zin (i : Nat) {w : Cond} (h : tables_1[i]? = some w) (hg : goodWord w = true) : w ∈ zws := List.mem_filter.mpr ⟨List.mem_append_right _ (List.mem_of_getElem? h), hg⟩
theorem zinp (i : Nat) {w : Cond} (h : (k2_sels lw_privs)[i]? = some w) (hg : goodWord w = true) : w ∈ zws := List.mem_filter.mpr ⟨List.mem_append_left _ (List.mem_of_getElem? h), hg⟩
theorem zws_good {w : Cond} (h : w ∈ zws) : (w.onTables && w.keeps) = true ∨ ∃ ty, w = .arrayClass ty := good_of_word (List.mem_filter.mp h).2
theorem zwy_in {y : MethodName} {cc : ByteArray} {n : Nat} {ret : Option FieldType} {w : Cond} (h : w ∈ zws) : w ∈ zwy y cc n ret := List.mem_cons_of_mem _ h
theorem zwy_good {y y2 : MethodName} {cc cc2 : ByteArray} {n n2 : Nat} {ret ret2 : Option FieldType} (h : Cond.code y2 cc2 n2 ret2 ∈ zws) : GoodIn (zwy y cc n ret) (zwy y2 cc2 n2 ret2) := fun w hw => by
  have hz : w ∈ zws := (List.mem_cons.mp hw).elim (fun e => by rw [e]; exact h) id
  exact ⟨zwy_in hz, zws_good hz⟩
theorem zu_Rel : ∀ w ∈ u_ws R_Rel T_Rel 4, w ∈ zws := by
  intro w hw
  have h : w ∈ ([u_lay R_Rel T_Rel 0, u_lay R_Rel T_Rel 1, u_lay R_Rel T_Rel 2, u_lay R_Rel T_Rel 3] : List Cond) := hw
  simp only [List.mem_cons, List.not_mem_nil, or_false] at h
  rcases h with rfl | rfl | rfl | rfl
  · exact zin 36 (by decide +kernel) (by decide +kernel)
  · exact zin 38 (by decide +kernel) (by decide +kernel)
  · exact zin 40 (by decide +kernel) (by decide +kernel)
  · exact zin 42 (by decide +kernel) (by decide +kernel)
theorem zu_Sh : ∀ w ∈ u_ws R_Sh T_Sh 3, w ∈ zws := by
  intro w hw
  have h : w ∈ ([u_lay R_Sh T_Sh 0, u_lay R_Sh T_Sh 1, u_lay R_Sh T_Sh 2] : List Cond) := hw
  simp only [List.mem_cons, List.not_mem_nil, or_false] at h
  rcases h with rfl | rfl | rfl
  · exact zin 49 (by decide +kernel) (by decide +kernel)
  · exact zin 51 (by decide +kernel) (by decide +kernel)
  · exact zin 53 (by decide +kernel) (by decide +kernel)
theorem zu_Mo : ∀ w ∈ u_ws R_Mo T_Mo 5, w ∈ zws := by
  intro w hw
  have h : w ∈ ([u_lay R_Mo T_Mo 0, u_lay R_Mo T_Mo 1, u_lay R_Mo T_Mo 2, u_lay R_Mo T_Mo 3, u_lay R_Mo T_Mo 4] : List Cond) := hw
  simp only [List.mem_cons, List.not_mem_nil, or_false] at h
  rcases h with rfl | rfl | rfl | rfl | rfl
  · exact zin 371 (by decide +kernel) (by decide +kernel)
  · exact zin 373 (by decide +kernel) (by decide +kernel)
  · exact zin 375 (by decide +kernel) (by decide +kernel)
  · exact zin 377 (by decide +kernel) (by decide +kernel)
  · exact zin 379 (by decide +kernel) (by decide +kernel)
/-- what a call rests on -/
def zlS (own : String) (idx : Nat) (y : MethodName) (bytes : ByteArray) (maxL : Nat) (ret : Option FieldType) (n : Nat) : Prop := Cond.code y bytes maxL ret ∈ zws ∧ Cond.methodLink own idx y ∈ zws ∧ Cond.static y ∈ zws ∧ Cond.initialized y.cls ∈ zws ∧ y.cls ≠ "java/lang/invoke/MethodHandle" ∧ y.cls ≠ "java/lang/invoke/VarHandle" ∧ (parseMethodDescriptor y.desc).map (fun d => d.parameters.length) = some n
def zlV (own : String) (idx : Nat) (y : MethodName) (bytes : ByteArray) (maxL : Nat) (ret : Option FieldType) (n : Nat) : Prop := Cond.code y bytes maxL ret ∈ zws ∧ Cond.methodLink own idx y ∈ zws ∧ (Cond.instanceMethod y ∈ zws ∧ Cond.selects y.cls y y ∈ zws) ∧ Cond.initialized y.cls ∈ zws ∧ y.cls ≠ "java/lang/invoke/MethodHandle" ∧ y.cls ≠ "java/lang/invoke/VarHandle" ∧ (parseMethodDescriptor y.desc).map (fun d => d.parameters.length) = some n
section ZLW
variable {R rm : Room} {s : State} {args : Array Value} {own : String} {idx maxL n mc ms nL : Nat} {y y0 : MethodName} {bytes cc : ByteArray} {ret ret0 : Option FieldType}
theorem zlS.cw (h : zlS own idx y bytes maxL ret n) (hrc : rm.cells = mc) (hrs : rm.slots = ms) (hR : rm.frames + 1 ≤ R.frames ∧ 8 + (maxL + 11) + rm.locals ≤ R.locals) (s : State) (args : Array Value) (ht : ∀ w ∈ zwy y0 cc nL ret0, w.before args s = true) : CallB R s args own idx y bytes maxL ret (zwy y bytes maxL ret) rm mc ms n ∧ (Cond.static y).before args s = true :=
  ⟨callB_of n ht (zwy_good h.1) rfl hrc hrs (ht _ (zwy_in h.2.2.2.1)) (ht _ (zwy_in h.2.1)) h.2.2.2.2 hR, ht _ (zwy_in h.2.2.1)⟩
theorem zlV.cw (h : zlV own idx y bytes maxL ret n) (hrc : rm.cells = mc) (hrs : rm.slots = ms) (hR : rm.frames + 1 ≤ R.frames ∧ 8 + (maxL + 11) + rm.locals ≤ R.locals) (s : State) (args : Array Value) (ht : ∀ w ∈ zwy y0 cc nL ret0, w.before args s = true) : CallW R s args own y.cls idx y bytes maxL ret (zwy y bytes maxL ret) rm mc ms n :=
  ⟨callB_of n ht (zwy_good h.1) rfl hrc hrs (ht _ (zwy_in h.2.2.2.1)) (ht _ (zwy_in h.2.1)) h.2.2.2.2 hR, ht _ (zwy_in h.2.2.1.1), ht _ (zwy_in h.2.2.1.2)⟩
end ZLW
abbrev c_Sh_init : ByteArray := prog_1_method_1_code
def y_Sh_init : MethodName := ⟨"TupleShelf", "<init>", "()V"⟩
abbrev c_Rel_init : ByteArray := prog_2_method_1_code
def y_Rel_init : MethodName := ⟨"TupleShelf$Relation", "<init>", "()V"⟩
abbrev c_La_width : ByteArray := method_3_code
def y_La_width : MethodName := ⟨"TupleShelfLaw", "width", "(LTupleShelf;II[J)I"⟩
abbrev c_Sh_width : ByteArray := prog_1_method_2_code
def y_Sh_width : MethodName := ⟨"TupleShelf", "width", "(II)I"⟩
abbrev c_Sh_relationOf : ByteArray := prog_1_method_17_code
def y_Sh_relationOf : MethodName := ⟨"TupleShelf", "relationOf", "(I)LTupleShelf$Relation;"⟩
abbrev c_Sh_mustBeRelation : ByteArray := prog_1_method_14_code
def y_Sh_mustBeRelation : MethodName := ⟨"TupleShelf", "mustBeRelation", "(I)V"⟩
abbrev c_Sh_refuseUnless : ByteArray := prog_1_method_15_code
def y_Sh_refuseUnless : MethodName := ⟨"TupleShelf", "refuseUnless", "(Z)V"⟩
abbrev c_Rel_startAnew : ByteArray := prog_2_method_2_code
def y_Rel_startAnew : MethodName := ⟨"TupleShelf$Relation", "startAnew", "(I)V"⟩
abbrev c_La_put : ByteArray := method_4_code
def y_La_put : MethodName := ⟨"TupleShelfLaw", "put", "(LTupleShelf;III[J)I"⟩
abbrev c_Sh_put : ByteArray := prog_1_method_3_code
def y_Sh_put : MethodName := ⟨"TupleShelf", "put", "(III)I"⟩
abbrev c_Sh_isTuple : ByteArray := prog_1_method_25_code
def y_Sh_isTuple : MethodName := ⟨"TupleShelf", "isTuple", "(II)Z"⟩
abbrev c_Sh_bitsBehind : ByteArray := prog_1_method_24_code
def y_Sh_bitsBehind : MethodName := ⟨"TupleShelf", "bitsBehind", "(I)I"⟩
abbrev c_Rel_raise : ByteArray := prog_2_method_5_code
def y_Rel_raise : MethodName := ⟨"TupleShelf$Relation", "raise", "(II)Z"⟩
abbrev c_Rel_placeOf : ByteArray := prog_2_method_3_code
def y_Rel_placeOf : MethodName := ⟨"TupleShelf$Relation", "placeOf", "(I)I"⟩
abbrev c_Rel_holdsAt : ByteArray := prog_2_method_10_code
def y_Rel_holdsAt : MethodName := ⟨"TupleShelf$Relation", "holdsAt", "(II)Z"⟩
abbrev c_Rel_raiseAt : ByteArray := prog_2_method_11_code
def y_Rel_raiseAt : MethodName := ⟨"TupleShelf$Relation", "raiseAt", "(II)V"⟩
abbrev c_Rel_removeAt : ByteArray := prog_2_method_13_code
def y_Rel_removeAt : MethodName := ⟨"TupleShelf$Relation", "removeAt", "(I)V"⟩
abbrev c_Rel_insertAt : ByteArray := prog_2_method_12_code
def y_Rel_insertAt : MethodName := ⟨"TupleShelf$Relation", "insertAt", "(III)V"⟩
abbrev c_Sh_refuseIfFull : ByteArray := prog_1_method_16_code
def y_Sh_refuseIfFull : MethodName := ⟨"TupleShelf", "refuseIfFull", "(Z)V"⟩
abbrev c_Rel_countOf : ByteArray := prog_2_method_4_code
def y_Rel_countOf : MethodName := ⟨"TupleShelf$Relation", "countOf", "(I)I"⟩
abbrev c_La_count : ByteArray := method_5_code
def y_La_count : MethodName := ⟨"TupleShelfLaw", "count", "(LTupleShelf;II[J)I"⟩
abbrev c_Sh_count : ByteArray := prog_1_method_4_code
def y_Sh_count : MethodName := ⟨"TupleShelf", "count", "(II)I"⟩
abbrev c_La_at : ByteArray := method_6_code
def y_La_at : MethodName := ⟨"TupleShelfLaw", "at", "(LTupleShelf;II[J)I"⟩
abbrev c_Sh_at : ByteArray := prog_1_method_5_code
def y_Sh_at : MethodName := ⟨"TupleShelf", "at", "(II)I"⟩
abbrev c_La_join : ByteArray := method_7_code
def y_La_join : MethodName := ⟨"TupleShelfLaw", "join", "(LTupleShelf;IIII[J)I"⟩
abbrev c_Sh_join : ByteArray := prog_1_method_6_code
def y_Sh_join : MethodName := ⟨"TupleShelf", "join", "(IIII)I"⟩
abbrev c_Sh_joinOne : ByteArray := prog_1_method_19_code
def y_Sh_joinOne : MethodName := ⟨"TupleShelf", "joinOne", "(LTupleShelf$Relation;ILTupleShelf$Relation;I)Z"⟩
abbrev c_Sh_lastNumbers : ByteArray := prog_1_method_28_code
def y_Sh_lastNumbers : MethodName := ⟨"TupleShelf", "lastNumbers", "(III)I"⟩
abbrev c_Sh_keepSpareAs : ByteArray := prog_1_method_18_code
def y_Sh_keepSpareAs : MethodName := ⟨"TupleShelf", "keepSpareAs", "(I)I"⟩
abbrev c_La_narrow : ByteArray := method_8_code
def y_La_narrow : MethodName := ⟨"TupleShelfLaw", "narrow", "(LTupleShelf;III[J)I"⟩
abbrev c_Sh_narrow : ByteArray := prog_1_method_7_code
def y_Sh_narrow : MethodName := ⟨"TupleShelf", "narrow", "(III)I"⟩
abbrev c_Jint_bitCount : ByteArray := prog_8_method_49_code
def y_Jint_bitCount : MethodName := ⟨"java/lang/Integer", "bitCount", "(I)I"⟩
abbrev c_Sh_narrowed : ByteArray := prog_1_method_29_code
def y_Sh_narrowed : MethodName := ⟨"TupleShelf", "narrowed", "(II)I"⟩
abbrev c_Sh_numberAt : ByteArray := prog_1_method_26_code
def y_Sh_numberAt : MethodName := ⟨"TupleShelf", "numberAt", "(II)I"⟩
abbrev c_Sh_withNumber : ByteArray := prog_1_method_27_code
def y_Sh_withNumber : MethodName := ⟨"TupleShelf", "withNumber", "(II)I"⟩
abbrev c_La_pick : ByteArray := method_9_code
def y_La_pick : MethodName := ⟨"TupleShelfLaw", "pick", "(LTupleShelf;IIII[J)I"⟩
abbrev c_Sh_pick : ByteArray := prog_1_method_8_code
def y_Sh_pick : MethodName := ⟨"TupleShelf", "pick", "(IIII)I"⟩
abbrev c_La_alter : ByteArray := method_10_code
def y_La_alter : MethodName := ⟨"TupleShelfLaw", "alter", "(LTupleShelf;IIII[J)I"⟩
abbrev c_Sh_alter : ByteArray := prog_1_method_9_code
def y_Sh_alter : MethodName := ⟨"TupleShelf", "alter", "(IIII)I"⟩
abbrev c_Sh_altered : ByteArray := prog_1_method_23_code
def y_Sh_altered : MethodName := ⟨"TupleShelf", "altered", "(III)I"⟩
abbrev c_Jmath_min : ByteArray := prog_9_method_69_code
def y_Jmath_min : MethodName := ⟨"java/lang/Math", "min", "(II)I"⟩
abbrev c_La_reach : ByteArray := method_11_code
def y_La_reach : MethodName := ⟨"TupleShelfLaw", "reach", "(LTupleShelf;II[J)I"⟩
abbrev c_Sh_reach : ByteArray := prog_1_method_10_code
def y_Sh_reach : MethodName := ⟨"TupleShelf", "reach", "(II)I"⟩
abbrev c_Sh_takeSteps : ByteArray := prog_1_method_20_code
def y_Sh_takeSteps : MethodName := ⟨"TupleShelf", "takeSteps", "(LTupleShelf$Relation;)V"⟩
abbrev c_Sh_followSteps : ByteArray := prog_1_method_21_code
def y_Sh_followSteps : MethodName := ⟨"TupleShelf", "followSteps", "()V"⟩
abbrev c_Sh_isReached : ByteArray := prog_1_method_22_code
def y_Sh_isReached : MethodName := ⟨"TupleShelf", "isReached", "(II)Z"⟩
abbrev c_La_turn : ByteArray := method_12_code
def y_La_turn : MethodName := ⟨"TupleShelfLaw", "turn", "(LTupleShelf;II[J)I"⟩
abbrev c_Sh_turn : ByteArray := prog_1_method_11_code
def y_Sh_turn : MethodName := ⟨"TupleShelf", "turn", "(II)I"⟩
abbrev c_Sh_turned : ByteArray := prog_1_method_30_code
def y_Sh_turned : MethodName := ⟨"TupleShelf", "turned", "(II)I"⟩
abbrev c_La_about : ByteArray := method_13_code
def y_La_about : MethodName := ⟨"TupleShelfLaw", "about", "(LTupleShelf;II[J)I"⟩
abbrev c_Sh_about : ByteArray := prog_1_method_12_code
def y_Sh_about : MethodName := ⟨"TupleShelf", "about", "(II)J"⟩
abbrev c_Rel_firstNumbers : ByteArray := prog_2_method_6_code
def y_Rel_firstNumbers : MethodName := ⟨"TupleShelf$Relation", "firstNumbers", "()I"⟩
abbrev c_Rel_sum : ByteArray := prog_2_method_7_code
def y_Rel_sum : MethodName := ⟨"TupleShelf$Relation", "sum", "()J"⟩
abbrev c_Rel_greatest : ByteArray := prog_2_method_8_code
def y_Rel_greatest : MethodName := ⟨"TupleShelf$Relation", "greatest", "()I"⟩
abbrev c_Jmath_max : ByteArray := prog_9_method_65_code
def y_Jmath_max : MethodName := ⟨"java/lang/Math", "max", "(II)I"⟩
abbrev c_La_same : ByteArray := method_14_code
def y_La_same : MethodName := ⟨"TupleShelfLaw", "same", "(LTupleShelf;II[J)I"⟩
abbrev c_Sh_same : ByteArray := prog_1_method_13_code
def y_Sh_same : MethodName := ⟨"TupleShelf", "same", "(II)Z"⟩
abbrev c_Rel_holdsWhat : ByteArray := prog_2_method_9_code
def y_Rel_holdsWhat : MethodName := ⟨"TupleShelf$Relation", "holdsWhat", "(LTupleShelf$Relation;)Z"⟩
abbrev c_Mo_init : ByteArray := prog_4_method_1_code
def y_Mo_init : MethodName := ⟨"TupleShelfModel", "<init>", "()V"⟩
abbrev c_Mo_thrown : ByteArray := prog_4_method_2_code
def y_Mo_thrown : MethodName := ⟨"TupleShelfModel", "thrown", "()I"⟩
abbrev c_Mo_width : ByteArray := prog_4_method_11_code
def y_Mo_width : MethodName := ⟨"TupleShelfModel", "width", "(II)I"⟩
abbrev c_Mo_none : ByteArray := prog_4_method_4_code
def y_Mo_none : MethodName := ⟨"TupleShelfModel", "none", "(I)Z"⟩
abbrev c_Mo_refuse : ByteArray := prog_4_method_3_code
def y_Mo_refuse : MethodName := ⟨"TupleShelfModel", "refuse", "(IZ)Z"⟩
abbrev c_Mo_in : ByteArray := prog_4_method_6_code
def y_Mo_in : MethodName := ⟨"TupleShelfModel", "in", "(I)I"⟩
abbrev c_Mo_many : ByteArray := prog_4_method_5_code
def y_Mo_many : MethodName := ⟨"TupleShelfModel", "many", "([II)I"⟩
abbrev c_Mo_put : ByteArray := prog_4_method_12_code
def y_Mo_put : MethodName := ⟨"TupleShelfModel", "put", "(III)I"⟩
abbrev c_Mo_isTuple : ByteArray := prog_4_method_9_code
def y_Mo_isTuple : MethodName := ⟨"TupleShelfModel", "isTuple", "(II)Z"⟩
abbrev c_Mo_of : ByteArray := prog_4_method_7_code
def y_Mo_of : MethodName := ⟨"TupleShelfModel", "of", "(II)I"⟩
abbrev c_Mo_count : ByteArray := prog_4_method_13_code
def y_Mo_count : MethodName := ⟨"TupleShelfModel", "count", "(II)I"⟩
abbrev c_Mo_at : ByteArray := prog_4_method_14_code
def y_Mo_at : MethodName := ⟨"TupleShelfModel", "at", "(II)I"⟩
abbrev c_Mo_join : ByteArray := prog_4_method_17_code
def y_Mo_join : MethodName := ⟨"TupleShelfModel", "join", "(IIII)I"⟩
abbrev c_Mo_begin : ByteArray := prog_4_method_15_code
def y_Mo_begin : MethodName := ⟨"TupleShelfModel", "begin", "()V"⟩
abbrev c_Mo_number : ByteArray := prog_4_method_10_code
def y_Mo_number : MethodName := ⟨"TupleShelfModel", "number", "(II)I"⟩
abbrev c_Mo_keep : ByteArray := prog_4_method_16_code
def y_Mo_keep : MethodName := ⟨"TupleShelfModel", "keep", "(III)I"⟩
abbrev c_Mo_narrow : ByteArray := prog_4_method_18_code
def y_Mo_narrow : MethodName := ⟨"TupleShelfModel", "narrow", "(III)I"⟩
abbrev c_Mo_bits : ByteArray := prog_4_method_8_code
def y_Mo_bits : MethodName := ⟨"TupleShelfModel", "bits", "(I)I"⟩
abbrev c_Mo_pick : ByteArray := prog_4_method_19_code
def y_Mo_pick : MethodName := ⟨"TupleShelfModel", "pick", "(IIII)I"⟩
abbrev c_Mo_alter : ByteArray := prog_4_method_21_code
def y_Mo_alter : MethodName := ⟨"TupleShelfModel", "alter", "(IIII)I"⟩
abbrev c_Mo_altered : ByteArray := prog_4_method_20_code
def y_Mo_altered : MethodName := ⟨"TupleShelfModel", "altered", "(III)I"⟩
abbrev c_Mo_reach : ByteArray := prog_4_method_22_code
def y_Mo_reach : MethodName := ⟨"TupleShelfModel", "reach", "(II)I"⟩
abbrev c_Mo_turn : ByteArray := prog_4_method_23_code
def y_Mo_turn : MethodName := ⟨"TupleShelfModel", "turn", "(II)I"⟩
abbrev c_Mo_about : ByteArray := prog_4_method_24_code
def y_Mo_about : MethodName := ⟨"TupleShelfModel", "about", "(II)J"⟩
abbrev c_Mo_same : ByteArray := prog_4_method_25_code
def y_Mo_same : MethodName := ⟨"TupleShelfModel", "same", "(II)Z"⟩
theorem fl_Rel_9 : Cond.fieldLink "TupleShelf$Relation" 9 "TupleShelf$Relation" "tuples" "[I" ∈ zws := zin 28 (by decide +kernel) (by decide +kernel)
theorem fl_Sh_60 : Cond.fieldLink "TupleShelf" 60 "TupleShelf$Relation" "tuples" "[I" ∈ zws := zin 29 (by decide +kernel) (by decide +kernel)
theorem fl_Rel_15 : Cond.fieldLink "TupleShelf$Relation" 15 "TupleShelf$Relation" "counts" "[I" ∈ zws := zin 30 (by decide +kernel) (by decide +kernel)
theorem fl_Sh_82 : Cond.fieldLink "TupleShelf" 82 "TupleShelf$Relation" "counts" "[I" ∈ zws := zin 31 (by decide +kernel) (by decide +kernel)
theorem fl_Rel_18 : Cond.fieldLink "TupleShelf$Relation" 18 "TupleShelf$Relation" "width" "I" ∈ zws := zin 32 (by decide +kernel) (by decide +kernel)
theorem fl_Sh_40 : Cond.fieldLink "TupleShelf" 40 "TupleShelf$Relation" "width" "I" ∈ zws := zin 33 (by decide +kernel) (by decide +kernel)
theorem fl_Rel_22 : Cond.fieldLink "TupleShelf$Relation" 22 "TupleShelf$Relation" "size" "I" ∈ zws := zin 34 (by decide +kernel) (by decide +kernel)
theorem fl_Sh_32 : Cond.fieldLink "TupleShelf" 32 "TupleShelf$Relation" "size" "I" ∈ zws := zin 35 (by decide +kernel) (by decide +kernel)
theorem fl_Sh_11 : Cond.fieldLink "TupleShelf" 11 "TupleShelf" "relations" "[LTupleShelf$Relation;" ∈ zws := zin 46 (by decide +kernel) (by decide +kernel)
theorem fl_Sh_16 : Cond.fieldLink "TupleShelf" 16 "TupleShelf" "spare" "LTupleShelf$Relation;" ∈ zws := zin 47 (by decide +kernel) (by decide +kernel)
theorem fl_Sh_20 : Cond.fieldLink "TupleShelf" 20 "TupleShelf" "reached" "[I" ∈ zws := zin 48 (by decide +kernel) (by decide +kernel)
theorem fl_Mo_7 : Cond.fieldLink "TupleShelfModel" 7 "TupleShelfModel" "thrown" "I" ∈ zws := zin 366 (by decide +kernel) (by decide +kernel)
theorem fl_Mo_13 : Cond.fieldLink "TupleShelfModel" 13 "TupleShelfModel" "width" "[I" ∈ zws := zin 367 (by decide +kernel) (by decide +kernel)
theorem fl_Mo_18 : Cond.fieldLink "TupleShelfModel" 18 "TupleShelfModel" "counts" "[I" ∈ zws := zin 368 (by decide +kernel) (by decide +kernel)
theorem fl_Mo_21 : Cond.fieldLink "TupleShelfModel" 21 "TupleShelfModel" "made" "[I" ∈ zws := zin 369 (by decide +kernel) (by decide +kernel)
theorem fl_Mo_24 : Cond.fieldLink "TupleShelfModel" 24 "TupleShelfModel" "way" "[Z" ∈ zws := zin 370 (by decide +kernel) (by decide +kernel)
theorem lk_La_7 : zlV R_La 7 y_Sh_width c_Sh_width 5 (some .int) 2 := ⟨zin 64 (by decide +kernel) (by decide +kernel), zin 61 (by decide +kernel) (by decide +kernel), ⟨zin 62 (by decide +kernel) (by decide +kernel), zin 63 (by decide +kernel) (by decide +kernel)⟩, zin 1 (by decide +kernel) (by decide +kernel), by decide +kernel, by decide +kernel, by decide +kernel⟩
theorem lk_Sh_24 : zlV R_Sh 24 y_Sh_relationOf c_Sh_relationOf 2 (some (.object "TupleShelf$Relation")) 1 := ⟨zin 68 (by decide +kernel) (by decide +kernel), zin 65 (by decide +kernel) (by decide +kernel), ⟨zin 67 (by decide +kernel) (by decide +kernel), zinp 0 (by decide +kernel) (by decide +kernel)⟩, zin 1 (by decide +kernel) (by decide +kernel), by decide +kernel, by decide +kernel, by decide +kernel⟩
theorem lk_Sh_63 : zlS R_Sh 63 y_Sh_mustBeRelation c_Sh_mustBeRelation 1 none 1 := ⟨zin 71 (by decide +kernel) (by decide +kernel), zin 69 (by decide +kernel) (by decide +kernel), zin 70 (by decide +kernel) (by decide +kernel), zin 1 (by decide +kernel) (by decide +kernel), by decide +kernel, by decide +kernel, by decide +kernel⟩
theorem lk_Sh_28 : zlS R_Sh 28 y_Sh_refuseUnless c_Sh_refuseUnless 1 none 1 := ⟨zin 137 (by decide +kernel) (by decide +kernel), zin 135 (by decide +kernel) (by decide +kernel), zin 136 (by decide +kernel) (by decide +kernel), zin 1 (by decide +kernel) (by decide +kernel), by decide +kernel, by decide +kernel, by decide +kernel⟩
theorem lk_Sh_36 : zlV R_Sh 36 y_Rel_startAnew c_Rel_startAnew 2 none 1 := ⟨zin 156 (by decide +kernel) (by decide +kernel), zin 153 (by decide +kernel) (by decide +kernel), ⟨zin 154 (by decide +kernel) (by decide +kernel), zin 155 (by decide +kernel) (by decide +kernel)⟩, zin 2 (by decide +kernel) (by decide +kernel), by decide +kernel, by decide +kernel, by decide +kernel⟩
theorem lk_La_17 : zlV R_La 17 y_Sh_put c_Sh_put 5 (some .int) 3 := ⟨zin 164 (by decide +kernel) (by decide +kernel), zin 161 (by decide +kernel) (by decide +kernel), ⟨zin 162 (by decide +kernel) (by decide +kernel), zin 163 (by decide +kernel) (by decide +kernel)⟩, zin 1 (by decide +kernel) (by decide +kernel), by decide +kernel, by decide +kernel, by decide +kernel⟩
theorem lk_Sh_43 : zlS R_Sh 43 y_Sh_isTuple c_Sh_isTuple 2 (some .boolean) 2 := ⟨zin 167 (by decide +kernel) (by decide +kernel), zin 165 (by decide +kernel) (by decide +kernel), zin 166 (by decide +kernel) (by decide +kernel), zin 1 (by decide +kernel) (by decide +kernel), by decide +kernel, by decide +kernel, by decide +kernel⟩
theorem lk_Sh_132 : zlS R_Sh 132 y_Sh_bitsBehind c_Sh_bitsBehind 1 (some .int) 1 := ⟨zin 170 (by decide +kernel) (by decide +kernel), zin 168 (by decide +kernel) (by decide +kernel), zin 169 (by decide +kernel) (by decide +kernel), zin 1 (by decide +kernel) (by decide +kernel), by decide +kernel, by decide +kernel, by decide +kernel⟩
theorem lk_Sh_47 : zlV R_Sh 47 y_Rel_raise c_Rel_raise 4 (some .boolean) 2 := ⟨zin 174 (by decide +kernel) (by decide +kernel), zin 171 (by decide +kernel) (by decide +kernel), ⟨zin 172 (by decide +kernel) (by decide +kernel), zin 173 (by decide +kernel) (by decide +kernel)⟩, zin 2 (by decide +kernel) (by decide +kernel), by decide +kernel, by decide +kernel, by decide +kernel⟩
theorem lk_Rel_25 : zlV R_Rel 25 y_Rel_placeOf c_Rel_placeOf 4 (some .int) 1 := ⟨zin 178 (by decide +kernel) (by decide +kernel), zin 175 (by decide +kernel) (by decide +kernel), ⟨zin 176 (by decide +kernel) (by decide +kernel), zin 177 (by decide +kernel) (by decide +kernel)⟩, zin 2 (by decide +kernel) (by decide +kernel), by decide +kernel, by decide +kernel, by decide +kernel⟩
theorem lk_Rel_29 : zlV R_Rel 29 y_Rel_holdsAt c_Rel_holdsAt 3 (some .boolean) 2 := ⟨zin 182 (by decide +kernel) (by decide +kernel), zin 179 (by decide +kernel) (by decide +kernel), ⟨zin 181 (by decide +kernel) (by decide +kernel), zinp 2 (by decide +kernel) (by decide +kernel)⟩, zin 2 (by decide +kernel) (by decide +kernel), by decide +kernel, by decide +kernel, by decide +kernel⟩
theorem lk_Rel_33 : zlV R_Rel 33 y_Rel_raiseAt c_Rel_raiseAt 3 none 2 := ⟨zin 186 (by decide +kernel) (by decide +kernel), zin 183 (by decide +kernel) (by decide +kernel), ⟨zin 185 (by decide +kernel) (by decide +kernel), zinp 3 (by decide +kernel) (by decide +kernel)⟩, zin 2 (by decide +kernel) (by decide +kernel), by decide +kernel, by decide +kernel, by decide +kernel⟩
theorem lk_Rel_55 : zlV R_Rel 55 y_Rel_removeAt c_Rel_removeAt 2 none 1 := ⟨zin 190 (by decide +kernel) (by decide +kernel), zin 187 (by decide +kernel) (by decide +kernel), ⟨zin 189 (by decide +kernel) (by decide +kernel), zinp 4 (by decide +kernel) (by decide +kernel)⟩, zin 2 (by decide +kernel) (by decide +kernel), by decide +kernel, by decide +kernel, by decide +kernel⟩
theorem lk_Rel_37 : zlV R_Rel 37 y_Rel_insertAt c_Rel_insertAt 4 none 3 := ⟨zin 197 (by decide +kernel) (by decide +kernel), zin 194 (by decide +kernel) (by decide +kernel), ⟨zin 196 (by decide +kernel) (by decide +kernel), zinp 5 (by decide +kernel) (by decide +kernel)⟩, zin 2 (by decide +kernel) (by decide +kernel), by decide +kernel, by decide +kernel, by decide +kernel⟩
theorem lk_Sh_50 : zlS R_Sh 50 y_Sh_refuseIfFull c_Sh_refuseIfFull 1 none 1 := ⟨zin 200 (by decide +kernel) (by decide +kernel), zin 198 (by decide +kernel) (by decide +kernel), zin 199 (by decide +kernel) (by decide +kernel), zin 1 (by decide +kernel) (by decide +kernel), by decide +kernel, by decide +kernel, by decide +kernel⟩
theorem lk_Sh_53 : zlV R_Sh 53 y_Rel_countOf c_Rel_countOf 3 (some .int) 1 := ⟨zin 219 (by decide +kernel) (by decide +kernel), zin 216 (by decide +kernel) (by decide +kernel), ⟨zin 217 (by decide +kernel) (by decide +kernel), zin 218 (by decide +kernel) (by decide +kernel)⟩, zin 2 (by decide +kernel) (by decide +kernel), by decide +kernel, by decide +kernel, by decide +kernel⟩
theorem lk_La_23 : zlV R_La 23 y_Sh_count c_Sh_count 4 (some .int) 2 := ⟨zin 226 (by decide +kernel) (by decide +kernel), zin 223 (by decide +kernel) (by decide +kernel), ⟨zin 224 (by decide +kernel) (by decide +kernel), zin 225 (by decide +kernel) (by decide +kernel)⟩, zin 1 (by decide +kernel) (by decide +kernel), by decide +kernel, by decide +kernel, by decide +kernel⟩
theorem lk_La_26 : zlV R_La 26 y_Sh_at c_Sh_at 4 (some .int) 2 := ⟨zin 233 (by decide +kernel) (by decide +kernel), zin 230 (by decide +kernel) (by decide +kernel), ⟨zin 231 (by decide +kernel) (by decide +kernel), zin 232 (by decide +kernel) (by decide +kernel)⟩, zin 1 (by decide +kernel) (by decide +kernel), by decide +kernel, by decide +kernel, by decide +kernel⟩
theorem lk_La_29 : zlV R_La 29 y_Sh_join c_Sh_join 10 (some .int) 4 := ⟨zin 240 (by decide +kernel) (by decide +kernel), zin 237 (by decide +kernel) (by decide +kernel), ⟨zin 238 (by decide +kernel) (by decide +kernel), zin 239 (by decide +kernel) (by decide +kernel)⟩, zin 1 (by decide +kernel) (by decide +kernel), by decide +kernel, by decide +kernel, by decide +kernel⟩
theorem lk_Sh_66 : zlV R_Sh 66 y_Sh_joinOne c_Sh_joinOne 12 (some .boolean) 4 := ⟨zin 244 (by decide +kernel) (by decide +kernel), zin 241 (by decide +kernel) (by decide +kernel), ⟨zin 243 (by decide +kernel) (by decide +kernel), zinp 6 (by decide +kernel) (by decide +kernel)⟩, zin 1 (by decide +kernel) (by decide +kernel), by decide +kernel, by decide +kernel, by decide +kernel⟩
theorem lk_Sh_129 : zlS R_Sh 129 y_Sh_lastNumbers c_Sh_lastNumbers 3 (some .int) 3 := ⟨zin 247 (by decide +kernel) (by decide +kernel), zin 245 (by decide +kernel) (by decide +kernel), zin 246 (by decide +kernel) (by decide +kernel), zin 1 (by decide +kernel) (by decide +kernel), by decide +kernel, by decide +kernel, by decide +kernel⟩
theorem lk_Sh_135 : zlV R_Sh 135 y_Rel_placeOf c_Rel_placeOf 4 (some .int) 1 := ⟨zin 178 (by decide +kernel) (by decide +kernel), zin 248 (by decide +kernel) (by decide +kernel), ⟨zin 176 (by decide +kernel) (by decide +kernel), zin 177 (by decide +kernel) (by decide +kernel)⟩, zin 2 (by decide +kernel) (by decide +kernel), by decide +kernel, by decide +kernel, by decide +kernel⟩
theorem lk_Sh_70 : zlV R_Sh 70 y_Sh_keepSpareAs c_Sh_keepSpareAs 3 (some .int) 1 := ⟨zin 252 (by decide +kernel) (by decide +kernel), zin 249 (by decide +kernel) (by decide +kernel), ⟨zin 251 (by decide +kernel) (by decide +kernel), zinp 7 (by decide +kernel) (by decide +kernel)⟩, zin 1 (by decide +kernel) (by decide +kernel), by decide +kernel, by decide +kernel, by decide +kernel⟩
theorem lk_La_33 : zlV R_La 33 y_Sh_narrow c_Sh_narrow 6 (some .int) 3 := ⟨zin 259 (by decide +kernel) (by decide +kernel), zin 256 (by decide +kernel) (by decide +kernel), ⟨zin 257 (by decide +kernel) (by decide +kernel), zin 258 (by decide +kernel) (by decide +kernel)⟩, zin 1 (by decide +kernel) (by decide +kernel), by decide +kernel, by decide +kernel, by decide +kernel⟩
theorem lk_Sh_73 : zlS R_Sh 73 y_Jint_bitCount c_Jint_bitCount 1 (some .int) 1 := ⟨zin 262 (by decide +kernel) (by decide +kernel), zin 260 (by decide +kernel) (by decide +kernel), zin 261 (by decide +kernel) (by decide +kernel), zin 11 (by decide +kernel) (by decide +kernel), by decide +kernel, by decide +kernel, by decide +kernel⟩
theorem lk_Sh_78 : zlS R_Sh 78 y_Sh_narrowed c_Sh_narrowed 5 (some .int) 2 := ⟨zin 268 (by decide +kernel) (by decide +kernel), zin 266 (by decide +kernel) (by decide +kernel), zin 267 (by decide +kernel) (by decide +kernel), zin 1 (by decide +kernel) (by decide +kernel), by decide +kernel, by decide +kernel, by decide +kernel⟩
theorem lk_Sh_85 : zlS R_Sh 85 y_Sh_numberAt c_Sh_numberAt 2 (some .int) 2 := ⟨zin 271 (by decide +kernel) (by decide +kernel), zin 269 (by decide +kernel) (by decide +kernel), zin 270 (by decide +kernel) (by decide +kernel), zin 1 (by decide +kernel) (by decide +kernel), by decide +kernel, by decide +kernel, by decide +kernel⟩
theorem lk_Sh_102 : zlS R_Sh 102 y_Sh_withNumber c_Sh_withNumber 2 (some .int) 2 := ⟨zin 274 (by decide +kernel) (by decide +kernel), zin 272 (by decide +kernel) (by decide +kernel), zin 273 (by decide +kernel) (by decide +kernel), zin 1 (by decide +kernel) (by decide +kernel), by decide +kernel, by decide +kernel, by decide +kernel⟩
theorem lk_La_36 : zlV R_La 36 y_Sh_pick c_Sh_pick 7 (some .int) 4 := ⟨zin 281 (by decide +kernel) (by decide +kernel), zin 278 (by decide +kernel) (by decide +kernel), ⟨zin 279 (by decide +kernel) (by decide +kernel), zin 280 (by decide +kernel) (by decide +kernel)⟩, zin 1 (by decide +kernel) (by decide +kernel), by decide +kernel, by decide +kernel, by decide +kernel⟩
theorem lk_La_39 : zlV R_La 39 y_Sh_alter c_Sh_alter 10 (some .int) 4 := ⟨zin 288 (by decide +kernel) (by decide +kernel), zin 285 (by decide +kernel) (by decide +kernel), ⟨zin 286 (by decide +kernel) (by decide +kernel), zin 287 (by decide +kernel) (by decide +kernel)⟩, zin 1 (by decide +kernel) (by decide +kernel), by decide +kernel, by decide +kernel, by decide +kernel⟩
theorem lk_Sh_88 : zlS R_Sh 88 y_Sh_altered c_Sh_altered 3 (some .int) 3 := ⟨zin 291 (by decide +kernel) (by decide +kernel), zin 289 (by decide +kernel) (by decide +kernel), zin 290 (by decide +kernel) (by decide +kernel), zin 1 (by decide +kernel) (by decide +kernel), by decide +kernel, by decide +kernel, by decide +kernel⟩
theorem lk_Sh_138 : zlS R_Sh 138 y_Jmath_min c_Jmath_min 2 (some .int) 2 := ⟨zin 294 (by decide +kernel) (by decide +kernel), zin 292 (by decide +kernel) (by decide +kernel), zin 293 (by decide +kernel) (by decide +kernel), zin 12 (by decide +kernel) (by decide +kernel), by decide +kernel, by decide +kernel, by decide +kernel⟩
theorem lk_La_42 : zlV R_La 42 y_Sh_reach c_Sh_reach 6 (some .int) 2 := ⟨zin 301 (by decide +kernel) (by decide +kernel), zin 298 (by decide +kernel) (by decide +kernel), ⟨zin 299 (by decide +kernel) (by decide +kernel), zin 300 (by decide +kernel) (by decide +kernel)⟩, zin 1 (by decide +kernel) (by decide +kernel), by decide +kernel, by decide +kernel, by decide +kernel⟩
theorem lk_Sh_92 : zlV R_Sh 92 y_Sh_takeSteps c_Sh_takeSteps 4 none 1 := ⟨zin 305 (by decide +kernel) (by decide +kernel), zin 302 (by decide +kernel) (by decide +kernel), ⟨zin 304 (by decide +kernel) (by decide +kernel), zinp 8 (by decide +kernel) (by decide +kernel)⟩, zin 1 (by decide +kernel) (by decide +kernel), by decide +kernel, by decide +kernel, by decide +kernel⟩
theorem lk_Sh_96 : zlV R_Sh 96 y_Sh_followSteps c_Sh_followSteps 3 none 0 := ⟨zin 309 (by decide +kernel) (by decide +kernel), zin 306 (by decide +kernel) (by decide +kernel), ⟨zin 308 (by decide +kernel) (by decide +kernel), zinp 9 (by decide +kernel) (by decide +kernel)⟩, zin 1 (by decide +kernel) (by decide +kernel), by decide +kernel, by decide +kernel, by decide +kernel⟩
theorem lk_Sh_99 : zlV R_Sh 99 y_Sh_isReached c_Sh_isReached 3 (some .boolean) 2 := ⟨zin 313 (by decide +kernel) (by decide +kernel), zin 310 (by decide +kernel) (by decide +kernel), ⟨zin 312 (by decide +kernel) (by decide +kernel), zinp 10 (by decide +kernel) (by decide +kernel)⟩, zin 1 (by decide +kernel) (by decide +kernel), by decide +kernel, by decide +kernel, by decide +kernel⟩
theorem lk_La_45 : zlV R_La 45 y_Sh_turn c_Sh_turn 5 (some .int) 2 := ⟨zin 320 (by decide +kernel) (by decide +kernel), zin 317 (by decide +kernel) (by decide +kernel), ⟨zin 318 (by decide +kernel) (by decide +kernel), zin 319 (by decide +kernel) (by decide +kernel)⟩, zin 1 (by decide +kernel) (by decide +kernel), by decide +kernel, by decide +kernel, by decide +kernel⟩
theorem lk_Sh_105 : zlS R_Sh 105 y_Sh_turned c_Sh_turned 4 (some .int) 2 := ⟨zin 323 (by decide +kernel) (by decide +kernel), zin 321 (by decide +kernel) (by decide +kernel), zin 322 (by decide +kernel) (by decide +kernel), zin 1 (by decide +kernel) (by decide +kernel), by decide +kernel, by decide +kernel, by decide +kernel⟩
theorem lk_La_48 : zlV R_La 48 y_Sh_about c_Sh_about 4 (some .long) 2 := ⟨zin 330 (by decide +kernel) (by decide +kernel), zin 327 (by decide +kernel) (by decide +kernel), ⟨zin 328 (by decide +kernel) (by decide +kernel), zin 329 (by decide +kernel) (by decide +kernel)⟩, zin 1 (by decide +kernel) (by decide +kernel), by decide +kernel, by decide +kernel, by decide +kernel⟩
theorem lk_Sh_108 : zlV R_Sh 108 y_Rel_firstNumbers c_Rel_firstNumbers 3 (some .int) 0 := ⟨zin 334 (by decide +kernel) (by decide +kernel), zin 331 (by decide +kernel) (by decide +kernel), ⟨zin 332 (by decide +kernel) (by decide +kernel), zin 333 (by decide +kernel) (by decide +kernel)⟩, zin 2 (by decide +kernel) (by decide +kernel), by decide +kernel, by decide +kernel, by decide +kernel⟩
theorem lk_Rel_45 : zlS R_Rel 45 y_Jint_bitCount c_Jint_bitCount 1 (some .int) 1 := ⟨zin 262 (by decide +kernel) (by decide +kernel), zin 336 (by decide +kernel) (by decide +kernel), zin 261 (by decide +kernel) (by decide +kernel), zin 11 (by decide +kernel) (by decide +kernel), by decide +kernel, by decide +kernel, by decide +kernel⟩
theorem lk_Sh_112 : zlV R_Sh 112 y_Rel_sum c_Rel_sum 4 (some .long) 0 := ⟨zin 340 (by decide +kernel) (by decide +kernel), zin 337 (by decide +kernel) (by decide +kernel), ⟨zin 338 (by decide +kernel) (by decide +kernel), zin 339 (by decide +kernel) (by decide +kernel)⟩, zin 2 (by decide +kernel) (by decide +kernel), by decide +kernel, by decide +kernel, by decide +kernel⟩
theorem lk_Sh_116 : zlV R_Sh 116 y_Rel_greatest c_Rel_greatest 3 (some .int) 0 := ⟨zin 344 (by decide +kernel) (by decide +kernel), zin 341 (by decide +kernel) (by decide +kernel), ⟨zin 342 (by decide +kernel) (by decide +kernel), zin 343 (by decide +kernel) (by decide +kernel)⟩, zin 2 (by decide +kernel) (by decide +kernel), by decide +kernel, by decide +kernel, by decide +kernel⟩
theorem lk_Rel_50 : zlS R_Rel 50 y_Jmath_max c_Jmath_max 2 (some .int) 2 := ⟨zin 347 (by decide +kernel) (by decide +kernel), zin 345 (by decide +kernel) (by decide +kernel), zin 346 (by decide +kernel) (by decide +kernel), zin 12 (by decide +kernel) (by decide +kernel), by decide +kernel, by decide +kernel, by decide +kernel⟩
theorem lk_La_52 : zlV R_La 52 y_Sh_same c_Sh_same 5 (some .boolean) 2 := ⟨zin 354 (by decide +kernel) (by decide +kernel), zin 351 (by decide +kernel) (by decide +kernel), ⟨zin 352 (by decide +kernel) (by decide +kernel), zin 353 (by decide +kernel) (by decide +kernel)⟩, zin 1 (by decide +kernel) (by decide +kernel), by decide +kernel, by decide +kernel, by decide +kernel⟩
theorem lk_Sh_119 : zlV R_Sh 119 y_Rel_holdsWhat c_Rel_holdsWhat 3 (some .boolean) 1 := ⟨zin 358 (by decide +kernel) (by decide +kernel), zin 355 (by decide +kernel) (by decide +kernel), ⟨zin 356 (by decide +kernel) (by decide +kernel), zin 357 (by decide +kernel) (by decide +kernel)⟩, zin 2 (by decide +kernel) (by decide +kernel), by decide +kernel, by decide +kernel, by decide +kernel⟩
theorem lk_La_66 : zlV R_La 66 y_Mo_thrown c_Mo_thrown 1 (some .int) 0 := ⟨zin 386 (by decide +kernel) (by decide +kernel), zin 383 (by decide +kernel) (by decide +kernel), ⟨zin 384 (by decide +kernel) (by decide +kernel), zin 385 (by decide +kernel) (by decide +kernel)⟩, zin 3 (by decide +kernel) (by decide +kernel), by decide +kernel, by decide +kernel, by decide +kernel⟩
theorem lk_La_65 : zlV R_La 65 y_Mo_width c_Mo_width 5 (some .int) 2 := ⟨zin 390 (by decide +kernel) (by decide +kernel), zin 387 (by decide +kernel) (by decide +kernel), ⟨zin 388 (by decide +kernel) (by decide +kernel), zin 389 (by decide +kernel) (by decide +kernel)⟩, zin 3 (by decide +kernel) (by decide +kernel), by decide +kernel, by decide +kernel, by decide +kernel⟩
theorem lk_Mo_36 : zlV R_Mo 36 y_Mo_none c_Mo_none 2 (some .boolean) 1 := ⟨zin 394 (by decide +kernel) (by decide +kernel), zin 391 (by decide +kernel) (by decide +kernel), ⟨zin 393 (by decide +kernel) (by decide +kernel), zinp 11 (by decide +kernel) (by decide +kernel)⟩, zin 3 (by decide +kernel) (by decide +kernel), by decide +kernel, by decide +kernel, by decide +kernel⟩
theorem lk_Mo_28 : zlV R_Mo 28 y_Mo_refuse c_Mo_refuse 3 (some .boolean) 2 := ⟨zin 398 (by decide +kernel) (by decide +kernel), zin 395 (by decide +kernel) (by decide +kernel), ⟨zin 397 (by decide +kernel) (by decide +kernel), zinp 12 (by decide +kernel) (by decide +kernel)⟩, zin 3 (by decide +kernel) (by decide +kernel), by decide +kernel, by decide +kernel, by decide +kernel⟩
theorem lk_Mo_40 : zlV R_Mo 40 y_Mo_in c_Mo_in 2 (some .int) 1 := ⟨zin 402 (by decide +kernel) (by decide +kernel), zin 399 (by decide +kernel) (by decide +kernel), ⟨zin 401 (by decide +kernel) (by decide +kernel), zinp 13 (by decide +kernel) (by decide +kernel)⟩, zin 3 (by decide +kernel) (by decide +kernel), by decide +kernel, by decide +kernel, by decide +kernel⟩
theorem lk_Mo_32 : zlS R_Mo 32 y_Mo_many c_Mo_many 4 (some .int) 2 := ⟨zin 405 (by decide +kernel) (by decide +kernel), zin 403 (by decide +kernel) (by decide +kernel), zin 404 (by decide +kernel) (by decide +kernel), zin 3 (by decide +kernel) (by decide +kernel), by decide +kernel, by decide +kernel, by decide +kernel⟩
theorem lk_La_73 : zlV R_La 73 y_Mo_put c_Mo_put 5 (some .int) 3 := ⟨zin 409 (by decide +kernel) (by decide +kernel), zin 406 (by decide +kernel) (by decide +kernel), ⟨zin 407 (by decide +kernel) (by decide +kernel), zin 408 (by decide +kernel) (by decide +kernel)⟩, zin 3 (by decide +kernel) (by decide +kernel), by decide +kernel, by decide +kernel, by decide +kernel⟩
theorem lk_Mo_44 : zlS R_Mo 44 y_Mo_isTuple c_Mo_isTuple 2 (some .boolean) 2 := ⟨zin 412 (by decide +kernel) (by decide +kernel), zin 410 (by decide +kernel) (by decide +kernel), zin 411 (by decide +kernel) (by decide +kernel), zin 3 (by decide +kernel) (by decide +kernel), by decide +kernel, by decide +kernel, by decide +kernel⟩
theorem lk_Mo_48 : zlV R_Mo 48 y_Mo_of c_Mo_of 3 (some .int) 2 := ⟨zin 416 (by decide +kernel) (by decide +kernel), zin 413 (by decide +kernel) (by decide +kernel), ⟨zin 415 (by decide +kernel) (by decide +kernel), zinp 14 (by decide +kernel) (by decide +kernel)⟩, zin 3 (by decide +kernel) (by decide +kernel), by decide +kernel, by decide +kernel, by decide +kernel⟩
theorem lk_La_76 : zlV R_La 76 y_Mo_count c_Mo_count 3 (some .int) 2 := ⟨zin 420 (by decide +kernel) (by decide +kernel), zin 417 (by decide +kernel) (by decide +kernel), ⟨zin 418 (by decide +kernel) (by decide +kernel), zin 419 (by decide +kernel) (by decide +kernel)⟩, zin 3 (by decide +kernel) (by decide +kernel), by decide +kernel, by decide +kernel, by decide +kernel⟩
theorem lk_La_79 : zlV R_La 79 y_Mo_at c_Mo_at 5 (some .int) 2 := ⟨zin 424 (by decide +kernel) (by decide +kernel), zin 421 (by decide +kernel) (by decide +kernel), ⟨zin 422 (by decide +kernel) (by decide +kernel), zin 423 (by decide +kernel) (by decide +kernel)⟩, zin 3 (by decide +kernel) (by decide +kernel), by decide +kernel, by decide +kernel, by decide +kernel⟩
theorem lk_La_83 : zlV R_La 83 y_Mo_join c_Mo_join 10 (some .int) 4 := ⟨zin 428 (by decide +kernel) (by decide +kernel), zin 425 (by decide +kernel) (by decide +kernel), ⟨zin 426 (by decide +kernel) (by decide +kernel), zin 427 (by decide +kernel) (by decide +kernel)⟩, zin 3 (by decide +kernel) (by decide +kernel), by decide +kernel, by decide +kernel, by decide +kernel⟩
theorem lk_Mo_52 : zlV R_Mo 52 y_Mo_begin c_Mo_begin 2 none 0 := ⟨zin 432 (by decide +kernel) (by decide +kernel), zin 429 (by decide +kernel) (by decide +kernel), ⟨zin 431 (by decide +kernel) (by decide +kernel), zinp 15 (by decide +kernel) (by decide +kernel)⟩, zin 3 (by decide +kernel) (by decide +kernel), by decide +kernel, by decide +kernel, by decide +kernel⟩
theorem lk_Mo_55 : zlS R_Mo 55 y_Mo_number c_Mo_number 2 (some .int) 2 := ⟨zin 435 (by decide +kernel) (by decide +kernel), zin 433 (by decide +kernel) (by decide +kernel), zin 434 (by decide +kernel) (by decide +kernel), zin 3 (by decide +kernel) (by decide +kernel), by decide +kernel, by decide +kernel, by decide +kernel⟩
theorem lk_Mo_58 : zlV R_Mo 58 y_Mo_keep c_Mo_keep 6 (some .int) 3 := ⟨zin 439 (by decide +kernel) (by decide +kernel), zin 436 (by decide +kernel) (by decide +kernel), ⟨zin 438 (by decide +kernel) (by decide +kernel), zinp 16 (by decide +kernel) (by decide +kernel)⟩, zin 3 (by decide +kernel) (by decide +kernel), by decide +kernel, by decide +kernel, by decide +kernel⟩
theorem lk_La_86 : zlV R_La 86 y_Mo_narrow c_Mo_narrow 8 (some .int) 3 := ⟨zin 443 (by decide +kernel) (by decide +kernel), zin 440 (by decide +kernel) (by decide +kernel), ⟨zin 441 (by decide +kernel) (by decide +kernel), zin 442 (by decide +kernel) (by decide +kernel)⟩, zin 3 (by decide +kernel) (by decide +kernel), by decide +kernel, by decide +kernel, by decide +kernel⟩
theorem lk_Mo_62 : zlS R_Mo 62 y_Mo_bits c_Mo_bits 3 (some .int) 1 := ⟨zin 446 (by decide +kernel) (by decide +kernel), zin 444 (by decide +kernel) (by decide +kernel), zin 445 (by decide +kernel) (by decide +kernel), zin 3 (by decide +kernel) (by decide +kernel), by decide +kernel, by decide +kernel, by decide +kernel⟩
theorem lk_La_89 : zlV R_La 89 y_Mo_pick c_Mo_pick 6 (some .int) 4 := ⟨zin 450 (by decide +kernel) (by decide +kernel), zin 447 (by decide +kernel) (by decide +kernel), ⟨zin 448 (by decide +kernel) (by decide +kernel), zin 449 (by decide +kernel) (by decide +kernel)⟩, zin 3 (by decide +kernel) (by decide +kernel), by decide +kernel, by decide +kernel, by decide +kernel⟩
theorem lk_La_92 : zlV R_La 92 y_Mo_alter c_Mo_alter 6 (some .int) 4 := ⟨zin 454 (by decide +kernel) (by decide +kernel), zin 451 (by decide +kernel) (by decide +kernel), ⟨zin 452 (by decide +kernel) (by decide +kernel), zin 453 (by decide +kernel) (by decide +kernel)⟩, zin 3 (by decide +kernel) (by decide +kernel), by decide +kernel, by decide +kernel, by decide +kernel⟩
theorem lk_Mo_65 : zlS R_Mo 65 y_Mo_altered c_Mo_altered 3 (some .int) 3 := ⟨zin 457 (by decide +kernel) (by decide +kernel), zin 455 (by decide +kernel) (by decide +kernel), zin 456 (by decide +kernel) (by decide +kernel), zin 3 (by decide +kernel) (by decide +kernel), by decide +kernel, by decide +kernel, by decide +kernel⟩
theorem lk_La_95 : zlV R_La 95 y_Mo_reach c_Mo_reach 8 (some .int) 2 := ⟨zin 461 (by decide +kernel) (by decide +kernel), zin 458 (by decide +kernel) (by decide +kernel), ⟨zin 459 (by decide +kernel) (by decide +kernel), zin 460 (by decide +kernel) (by decide +kernel)⟩, zin 3 (by decide +kernel) (by decide +kernel), by decide +kernel, by decide +kernel, by decide +kernel⟩
theorem lk_La_98 : zlV R_La 98 y_Mo_turn c_Mo_turn 7 (some .int) 2 := ⟨zin 465 (by decide +kernel) (by decide +kernel), zin 462 (by decide +kernel) (by decide +kernel), ⟨zin 463 (by decide +kernel) (by decide +kernel), zin 464 (by decide +kernel) (by decide +kernel)⟩, zin 3 (by decide +kernel) (by decide +kernel), by decide +kernel, by decide +kernel, by decide +kernel⟩
theorem lk_La_101 : zlV R_La 101 y_Mo_about c_Mo_about 10 (some .long) 2 := ⟨zin 469 (by decide +kernel) (by decide +kernel), zin 466 (by decide +kernel) (by decide +kernel), ⟨zin 467 (by decide +kernel) (by decide +kernel), zin 468 (by decide +kernel) (by decide +kernel)⟩, zin 3 (by decide +kernel) (by decide +kernel), by decide +kernel, by decide +kernel, by decide +kernel⟩
theorem lk_La_104 : zlV R_La 104 y_Mo_same c_Mo_same 5 (some .boolean) 2 := ⟨zin 473 (by decide +kernel) (by decide +kernel), zin 470 (by decide +kernel) (by decide +kernel), ⟨zin 471 (by decide +kernel) (by decide +kernel), zin 472 (by decide +kernel) (by decide +kernel)⟩, zin 3 (by decide +kernel) (by decide +kernel), by decide +kernel, by decide +kernel, by decide +kernel⟩
