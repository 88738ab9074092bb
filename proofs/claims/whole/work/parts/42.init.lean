/-! THE CONSTRUCTORS -/
theorem wd_arrI : Cond.arrayClass .int ∈ zws := zin 45 (by decide +kernel) (by decide +kernel)
theorem wd_arrZ : Cond.arrayClass .boolean ∈ zws := zin 382 (by decide +kernel) (by decide +kernel)
theorem wd_arrJ : Cond.arrayClass .long ∈ zws := zin 474 (by decide +kernel) (by decide +kernel)
theorem wd_oR : Cond.methodLink R_Rel 3 objectInit ∈ zws := zin 27 (by decide +kernel) (by decide +kernel)
theorem wd_oS : Cond.methodLink R_Sh 3 objectInit ∈ zws := zin 18 (by decide +kernel) (by decide +kernel)
theorem wd_oM : Cond.methodLink R_Mo 1 objectInit ∈ zws := zin 364 (by decide +kernel) (by decide +kernel)
theorem wd_oi : Cond.instanceMethod objectInit ∈ zws := zin 19 (by decide +kernel) (by decide +kernel)
theorem wd_oc : Cond.code objectInit ⟨#[0xb1]⟩ 1 none ∈ zws := zin 20 (by decide +kernel) (by decide +kernel)
theorem wd_iR : Cond.instantiable R_Rel 4 ∈ zws := zin 23 (by decide +kernel) (by decide +kernel)
theorem wd_iS : Cond.instantiable R_Sh 3 ∈ zws := zin 14 (by decide +kernel) (by decide +kernel)
theorem wd_iM : Cond.instantiable R_Mo 5 ∈ zws := zin 360 (by decide +kernel) (by decide +kernel)
theorem wd_nR : Cond.initialized R_Rel ∈ zws := zin 2 (by decide +kernel) (by decide +kernel)
theorem wd_nS : Cond.initialized R_Sh ∈ zws := zin 1 (by decide +kernel) (by decide +kernel)
theorem wd_nM : Cond.initialized R_Mo ∈ zws := zin 3 (by decide +kernel) (by decide +kernel)
theorem wd_cR : Cond.classLink R_Sh 9 R_Rel ∈ zws := zin 21 (by decide +kernel) (by decide +kernel)
theorem wd_cS : Cond.classLink R_La 8 R_Sh ∈ zws := zin 13 (by decide +kernel) (by decide +kernel)
theorem wd_cM : Cond.classLink R_La 57 R_Mo ∈ zws := zin 359 (by decide +kernel) (by decide +kernel)
theorem wd_lR : Cond.methodLink R_Sh 15 y_Rel_init ∈ zws := zin 24 (by decide +kernel) (by decide +kernel)
theorem wd_lS : Cond.methodLink R_La 56 y_Sh_init ∈ zws := zin 15 (by decide +kernel) (by decide +kernel)
theorem wd_lM : Cond.methodLink R_La 59 y_Mo_init ∈ zws := zin 361 (by decide +kernel) (by decide +kernel)
theorem wd_mR : Cond.instanceMethod y_Rel_init ∈ zws := zin 25 (by decide +kernel) (by decide +kernel)
theorem wd_mS : Cond.instanceMethod y_Sh_init ∈ zws := zin 16 (by decide +kernel) (by decide +kernel)
theorem wd_mM : Cond.instanceMethod y_Mo_init ∈ zws := zin 362 (by decide +kernel) (by decide +kernel)
theorem wd_kR : Cond.code y_Rel_init c_Rel_init 1 none ∈ zws := zin 26 (by decide +kernel) (by decide +kernel)
theorem wd_kS : Cond.code y_Sh_init c_Sh_init 2 none ∈ zws := zin 17 (by decide +kernel) (by decide +kernel)
theorem wd_kM : Cond.code y_Mo_init c_Mo_init 2 none ∈ zws := zin 363 (by decide +kernel) (by decide +kernel)
theorem wd_17 : Cond.constant R_Mo 17 32768 ∈ zws := zin 365 (by decide +kernel) (by decide +kernel)
theorem ra_eq {U : State} {a b : ClassId} (h1 : va_RA U a .int) (h2 : va_RA U b .int) : a = b := Option.some.inj (h1.symm.trans h2)
set_option maxHeartbeats 4000000 in
set_option maxRecDepth 100000 in
theorem c_Rinit (l : Launch) (D : va_G) (cI : ClassId) (h0 sz : Nat) : Met l y_Rel_init w_Rel_init ({ frames := 1, cells := 2, slots := 600, locals := 20 }) (va_Pc [.ref h0] (fun U => U.heap.size = sz ∧ va_P D vwCl [(h0, .inr (0, [.null, .null, .int 0, .int 0]))] U.heap ∧ va_K D vwCl [(cI, .int)] U ∧ va_D (fun _ => True) [(h0, .inr (0, [.null, .null, .int 0, .int 0]))])) (va_Qv (fun _ : Nat × Nat => True) (fun u t => va_P D vwCl [(h0, .inr (0, [.ref u.1, .ref u.2, .int 1, .int 0])), (u.1, .inl (cI, 300, .inl (fun _ => 0))), (u.2, .inl (cI, 300, .inl (fun _ => 0)))] t.heap ∧ va_D (va_A [(h0, .inr (0, [.null, .null, .int 0, .int 0]))] sz) [(h0, .inr (0, [.ref u.1, .ref u.2, .int 1, .int 0])), (u.1, .inl (cI, 300, .inl (fun _ => 0))), (u.2, .inl (cI, 300, .inl (fun _ => 0)))]) (va_A [(h0, .inr (0, [.null, .null, .int 0, .int 0]))] sz)) 2 600 (va_A [(h0, .inr (0, [.null, .null, .int 0, .int 0]))] sz) := by
  refine Met.ofW (cc := c_Rel_init) (maxL := 1) (ret := none) (by decide +kernel) rfl ?_
  intro p e s m args below meth c s₁ B hml hv
  obtain ⟨rfl, hsz, hP, hK, hD0⟩ := hv
  have hx := B.exec
  have hb := B.bytes
  have hr := B.returns
  have hts := atoms_spec (ws := w_Rel_init) B.pre
  have hz : ∀ w ∈ zws, w.before #[Value.ref h0] s = true := fun w h => hts w (zwy_in h)
  have hown : s.vm.findClass R_Rel = some m.cls := findClass_of_methodNamed B.named
  have hlocks := B.notSynchronized
  have hin : meth.name = "<init>" := (name_of_methodNamed B.named B.method).1
  subst hsz
  have hD := hD0.self (sz := s.heap.size)
  generalize hAe : va_A [(h0, .inr (0, [.null, .null, .int 0, .int 0]))] s.heap.size = A at hD ⊢
  have hA : ∀ q : Nat, s.heap.size ≤ q → A q := fun q h => by rw [← hAe]; exact Or.inr h
  have hS : va_S A s.heap s.heap [] := va_S.rf
  have hl := lv_entry ([.ref h0]) (n := 1) (Nat.le_of_ble_eq_true rfl)
  rw [lg_entry_eq]
  generalize (lg_sl ([.ref h0]) ++ List.replicate (1 - (lg_sl ([.ref h0])).length) Slot.unset).toArray = ls at hl ⊢
  have hl : lv_has ls 1 [(0, .ref h0)] := hl
  refine lv_aload_n hx hb d_Rel_init_0 rfl (lv_at hl 0 rfl) ?_
  refine W.objInit hx hb hown (hz _ wd_oR) (hz _ wd_oi) (hz _ wd_oc) rfl (by rw [hml]; exact hl.1) rfl d_Rel_init_1 (Nat.le_of_ble_eq_true rfl) (Nat.le_of_ble_eq_true rfl) ?_
  refine W.eq (g2 := F0 m 4 ls []) rfl ?_
  refine lv_aload_n hx hb d_Rel_init_4 rfl (lv_at hl 0 rfl) ?_
  refine lv_sipush (v := 300) hx hb d_Rel_init_5 (by decide) ?_
  refine va_newa (atype := .int) (a0 := (300, .inl (fun _ => 0))) (ty := .int) (N' := 300) hx hb (hz _ wd_arrI) rfl hK hP hD hS hA (fun cA => rfl) (by decide) (by decide) (by decide) (by show 0 + 1 ≤ _; decide) (by show 0 + 300 ≤ _; decide) d_Rel_init_8 (fun q8 cA8 H hK9 hP hD hS => ?_)
  have e9 : cI = cA8 := Option.some.inj ((hK9.2 0 _ rfl).2.symm.trans (hK9.2 1 _ rfl).2)
  subst e9
  have hP : va_P D vwCl [(h0, .inr (0, [.null, .null, .int 0, .int 0])), (q8, .inl (cI, 300, .inl (fun _ => 0)))] H := hP
  have hD : va_D A [(h0, .inr (0, [.null, .null, .int 0, .int 0])), (q8, .inl (cI, 300, .inl (fun _ => 0)))] := hD
  refine W.widen (k := 1) (n := 300) (Nat.le_of_ble_eq_true rfl) (Nat.le_of_ble_eq_true rfl) ?_
  refine va_putF (D := D) (ci := 0) (v := .ref q8) (ty := .array .int) (C := R_Rel) (T := T_Rel) (N := 4) hx hb hz zu_Rel ty_Rel ty_Rel_ok nm_Rel hown hK hP hD hS 0 rfl rfl 0 (by decide) (hz _ fl_Rel_9) (fun _ h9 => h9) rfl hin rfl (by decide +kernel) rfl rfl (Nat.le_of_ble_eq_true rfl) d_Rel_init_10 (fun H locs hP hD hS => ?_)
  have hP : va_P D vwCl [(h0, .inr (0, [.ref q8, .null, .int 0, .int 0])), (q8, .inl (cI, 300, .inl (fun _ => 0)))] H := hP
  have hD : va_D A [(h0, .inr (0, [.ref q8, .null, .int 0, .int 0])), (q8, .inl (cI, 300, .inl (fun _ => 0)))] := hD
  refine lv_aload_n hx hb d_Rel_init_13 rfl (lv_at hl 0 rfl) ?_
  refine lv_sipush (v := 300) hx hb d_Rel_init_14 (by decide) ?_
  refine va_newa (atype := .int) (a0 := (300, .inl (fun _ => 0))) (ty := .int) (N' := 300) hx hb (hz _ wd_arrI) rfl hK hP hD hS hA (fun cA => rfl) (by decide) (by decide) (by decide) (by show 1 + 1 ≤ _; decide) (by show 300 + 300 ≤ _; decide) d_Rel_init_17 (fun q17 cA17 H hK9 hP hD hS => ?_)
  have e9 : cI = cA17 := Option.some.inj ((hK9.2 0 _ rfl).2.symm.trans (hK9.2 1 _ rfl).2)
  subst e9
  have hP : va_P D vwCl [(h0, .inr (0, [.ref q8, .null, .int 0, .int 0])), (q8, .inl (cI, 300, .inl (fun _ => 0))), (q17, .inl (cI, 300, .inl (fun _ => 0)))] H := hP
  have hD : va_D A [(h0, .inr (0, [.ref q8, .null, .int 0, .int 0])), (q8, .inl (cI, 300, .inl (fun _ => 0))), (q17, .inl (cI, 300, .inl (fun _ => 0)))] := hD
  refine W.widen (k := 2) (n := 600) (Nat.le_of_ble_eq_true rfl) (Nat.le_of_ble_eq_true rfl) ?_
  refine va_putF (D := D) (ci := 0) (v := .ref q17) (ty := .array .int) (C := R_Rel) (T := T_Rel) (N := 4) hx hb hz zu_Rel ty_Rel ty_Rel_ok nm_Rel hown hK hP hD hS 0 rfl rfl 1 (by decide) (hz _ fl_Rel_15) (fun _ h9 => h9) rfl hin rfl (by decide +kernel) rfl rfl (Nat.le_of_ble_eq_true rfl) d_Rel_init_19 (fun H locs hP hD hS => ?_)
  have hP : va_P D vwCl [(h0, .inr (0, [.ref q8, .ref q17, .int 0, .int 0])), (q8, .inl (cI, 300, .inl (fun _ => 0))), (q17, .inl (cI, 300, .inl (fun _ => 0)))] H := hP
  have hD : va_D A [(h0, .inr (0, [.ref q8, .ref q17, .int 0, .int 0])), (q8, .inl (cI, 300, .inl (fun _ => 0))), (q17, .inl (cI, 300, .inl (fun _ => 0)))] := hD
  refine lv_aload_n hx hb d_Rel_init_22 rfl (lv_at hl 0 rfl) ?_
  refine lv_iconst (v := 1) hx hb d_Rel_init_23 (by decide) ?_
  refine va_put (D := D) (ci := 0) (v := .int 1) (ty := .int) (C := R_Rel) (T := T_Rel) (N := 4) hx hb hz zu_Rel ty_Rel ty_Rel_ok nm_Rel hown hK hP hD hS 0 rfl rfl 2 (by decide) (hz _ fl_Rel_18) (fun _ h9 => h9) rfl (by decide +kernel) rfl rfl (Nat.le_of_ble_eq_true rfl) d_Rel_init_24 (fun H locs hP hD hS => ?_)
  have hP : va_P D vwCl [(h0, .inr (0, [.ref q8, .ref q17, .int 1, .int 0])), (q8, .inl (cI, 300, .inl (fun _ => 0))), (q17, .inl (cI, 300, .inl (fun _ => 0)))] H := hP
  have hD : va_D A [(h0, .inr (0, [.ref q8, .ref q17, .int 1, .int 0])), (q8, .inl (cI, 300, .inl (fun _ => 0))), (q17, .inl (cI, 300, .inl (fun _ => 0)))] := hD
  refine lv_aload_n hx hb d_Rel_init_27 rfl (lv_at hl 0 rfl) ?_
  refine lv_iconst (v := 0) hx hb d_Rel_init_28 (by decide) ?_
  refine va_put (D := D) (ci := 0) (v := .int 0) (ty := .int) (C := R_Rel) (T := T_Rel) (N := 4) hx hb hz zu_Rel ty_Rel ty_Rel_ok nm_Rel hown hK hP hD hS 0 rfl rfl 3 (by decide) (hz _ fl_Rel_22) (fun _ h9 => h9) rfl (by decide +kernel) rfl rfl (Nat.le_of_ble_eq_true rfl) d_Rel_init_29 (fun H locs hP hD hS => ?_)
  have hP : va_P D vwCl [(h0, .inr (0, [.ref q8, .ref q17, .int 1, .int 0])), (q8, .inl (cI, 300, .inl (fun _ => 0))), (q17, .inl (cI, 300, .inl (fun _ => 0)))] H := hP
  have hD : va_D A [(h0, .inr (0, [.ref q8, .ref q17, .int 1, .int 0])), (q8, .inl (cI, 300, .inl (fun _ => 0))), (q17, .inl (cI, 300, .inl (fun _ => 0)))] := hD
  exact W.vret hx hb hr (fun t ht hW => ⟨⟨(q8, q17), rfl, trivial, by rw [ht]; exact hP, hD⟩, hS.F ht⟩) hS.2.2 d_Rel_init_32
