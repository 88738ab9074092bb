/-! THE START: the world is made, then the loop runs in it -/
theorem tb (i : Nat) {w : Cond} (h : tables_1[i]? = some w) : w ∈ lw_tbl := List.mem_append_right _ (List.mem_of_getElem? h)
theorem arrV_cg {c : ClassId} {n : Nat} {z z' : Nat → Value} (h : ∀ j, j < n → z j = z' j) : arrV c n z = arrV c n z' := by
  have e : (fun j : Fin n => z j.val) = (fun j : Fin n => z' j.val) := funext fun j => h j.val j.isLt
  unfold arrV
  rw [e]
theorem ak_of {args : Array Value} {s : State} {ty : FieldType} (h : (Cond.arrayClass ty).before args s = true) (hr : ∀ c, s.vm.findClass ("[" ++ ty.toString) = some c → va_RA s c ty) : ∃ c : ClassId, ArrOfT s c ty ∧ va_RA s c ty := by
  obtain ⟨c, k, comp, h1, h2, h3⟩ := Cond.arrayClass_spec h
  exact ⟨c, fun n z => ⟨fun k h => (by cases h), k, h2, comp, h3⟩, hr c h1⟩
/-- the state of the rows at the start -/
def zs0 : zS := (fun q => if q = 0 then (fun _ => 26) else if q = 1 then (fun j => nI (2 + 3 * j)) else if q < 29 ∧ q % 3 = 2 then (fun j => if j = 0 then 1 else 0) else if q = 31 then zw8 else fun _ => 0, fun _ => 0)
theorem zs0_1 {r : Nat} (hr : r < 8) : zN (zs0.1 1 r) = 2 + 3 * r := nI_clamp (by omega)
theorem zs0_rel {q : Nat} (h : zrl q) : zs0.1 q = (fun j => if j = 0 then 1 else 0) := by
  unfold zrl at h
  show (if q = 0 then (fun _ => 26) else if q = 1 then (fun j => nI (2 + 3 * j)) else if q < 29 ∧ q % 3 = 2 then (fun j => if j = 0 then 1 else 0) else if q = 31 then zw8 else fun _ => 0) = _
  rw [if_neg (by omega), if_neg (by omega), if_pos ⟨h.2.1, h.2.2⟩]
theorem zs0_wf : zwf zs0 (fun _ _ => 0) (fun _ => 1) := by
  have z0 : zN (zs0.1 0 0) = 26 := rfl
  refine ⟨⟨by rw [z0]; unfold zrl; omega, fun r hr => ?_⟩, fun a b ha hb e => ?_, fun r hr => ?_⟩
  · rw [zs0_1 hr, z0]
    unfold zrl
    omega
  · rw [zs0_1 ha, zs0_1 hb] at e
    omega
  · rw [zs0_1 hr]
    have hq : zrl (2 + 3 * r) := by unfold zrl; omega
    refine ⟨by rw [zs0_rel hq]; rfl, Nat.le_refl 1, (by show 1 ≤ 3; decide), ⟨0, hq, by rw [zs0_rel hq]; rfl, zp_nil _ _⟩, fun t h => absurd rfl h⟩
theorem zs0_mw : zmw zs0 (fun _ _ => 0) (fun _ => 1) := by
  refine ⟨fun r hr => ?_, fun r t _ _ => rfl⟩
  rcases (show r = 0 ∨ r = 1 ∨ r = 2 ∨ r = 3 ∨ r = 4 ∨ r = 5 ∨ r = 6 ∨ r = 7 by omega) with rfl | rfl | rfl | rfl | rfl | rfl | rfl | rfl <;> rfl
set_option maxHeartbeats 4000000 in
set_option maxRecDepth 100000 in
theorem whole_start {p : Program} {e : Env} {s : State} {m : MethodId} {below : List Frame} {meth : Method} {c : Code} (l : Launch) (htr : l.stackTraces = false) {b L : Nat} {xs : Nat → Int32} (hL : L ≤ 2560) (C0 : lw_At p s m meth c b L xs) : W p l e room_1 s m #[Value.ref b] below meth c s.heap [] 0 0 (lw_Z below #[Value.ref b] s) (entryFrame m ([Value.ref b] : List Value).toArray 8) := by
  obtain ⟨hx, hb, hr, hml, hown, htb, hX, hbl, hlocks, hgv⟩ := C0
  have hz : ∀ w ∈ zws, w.before #[Value.ref b] s = true := fun w h => htb w (List.mem_filter.mp h).1
  have hfl := flat_of_before _ hgv
  obtain ⟨c0, i0, hk0⟩ := u_known hz zu_Rel (hz _ wd_iR)
  obtain ⟨c1, i1, hk1⟩ := u_known hz zu_Sh (hz _ wd_iS)
  obtain ⟨c2, i2, hk2⟩ := u_known hz zu_Mo (hz _ wd_iM)
  obtain ⟨D, hDe⟩ : ∃ D : va_G, D = (fun k => match k with | 0 => c0 | 1 => c1 | _ => c2, fun k => match k with | 0 => i0 | 1 => i1 | _ => i2) := ⟨_, rfl⟩
  obtain ⟨cI, hI1, hI2⟩ := ak_of (hz _ wd_arrI) (fun c h => h)
  obtain ⟨cJ, hJ1, hJ2⟩ := ak_of (hz _ wd_arrJ) (fun c h => h)
  obtain ⟨cZ, hZ1, hZ2⟩ := ak_of (hz _ wd_arrZ) (fun c h => h)
  have hKs : va_K D vwCl [(cI, .int), (cJ, .long), (cZ, .boolean)] s := by
    refine ⟨fun k q hq => ?_, fun k q hq => ?_⟩
    · rw [hDe]
      rcases k with _ | _ | _ | k
      · cases hq; exact hk0
      · cases hq; exact hk1
      · cases hq; exact hk2
      · cases hq
    · rcases k with _ | _ | _ | k
      · cases hq; exact ⟨hI1, hI2⟩
      · cases hq; exact ⟨hJ1, hJ2⟩
      · cases hq; exact ⟨hZ1, hZ2⟩
      · cases hq
  obtain ⟨A, hAe⟩ : ∃ A : Nat → Prop, A = fun q => s.heap.size ≤ q := ⟨_, rfl⟩
  have hA : ∀ q : Nat, s.heap.size ≤ q → A q := fun q h => by rw [hAe]; exact h
  have hS : va_S A s.heap s.heap [] := va_S.rf
  have hP : va_P D vwCl [] s.heap := fun k q hk => by cases hk
  have hD : va_D A [] := ⟨fun i j p q hp => (by cases hp), fun k q hk => (by cases hk)⟩
  have hl := lv_entry ([.ref b]) (n := 8) (Nat.le_of_ble_eq_true rfl)
  rw [lg_entry_eq]
  generalize (lg_sl ([.ref b]) ++ List.replicate (8 - (lg_sl ([.ref b])).length) Slot.unset).toArray = ls at hl ⊢
  have hl : lv_has ls 8 [(0, .ref b)] := hl
  have hown : s.vm.findClass R_La = some m.cls := hown
  refine va_new (ci := 1) (fs := [.null, .null, .null]) (C := R_Sh) (T := T_Sh) (N := 3) hx hb hz zu_Sh ty_Sh ty_Sh_ok hown (hz _ wd_cS) (hz _ wd_iS) (hz _ wd_nS) hKs hP hD hS hA rfl (fun j hj => by rcases (show j = 0 ∨ j = 1 ∨ j = 2 by omega) with rfl | rfl | rfl <;> rfl) (by show 0 + 1 ≤ 601024; decide) (by show 0 + 3 ≤ 7293034; decide) d_law_0 (fun q0 H hP hD hS => ?_)
  have hP : va_P D vwCl [(q0, .inr (1, [.null, .null, .null]))] H := hP
  have hD : va_D A [(q0, .inr (1, [.null, .null, .null]))] := hD
  refine W.widen (k := 1) (n := 3) (Nat.le_of_ble_eq_true rfl) (Nat.le_of_ble_eq_true rfl) ?_
  refine lv_dup hx hb d_law_3 rfl ?_
  have hFc := va_free (wc := [(q0, .inr (1, [.null, .null, .null]))]) hD hS hA [0] rfl
  have hKc := hKs.sub (tys' := [(cI, .int)]) [0] rfl
  have hAO : va_AO R_Rel s := va_AO.of (htb _ (tb 22 (by decide +kernel)))
  refine va_callv (va_runI (As := []) (rest := [.ref q0]) ⟨hx, hb, hml, hown, hz⟩ (c_Sinit l D cI q0 H.size) (cwI 0 hz (goodT (fun w h => h) wd_kS) rfl rfl rfl (hz _ wd_nS) (hz _ wd_lS) (hz _ wd_mS) rfl (by decide +kernel) ⟨(Nat.le_of_ble_eq_true rfl), (Nat.le_of_ble_eq_true rfl)⟩) ⟨fun a U g mk q => by obtain ⟨q0, q1, qP, qK, qO, qD⟩ := q; exact ⟨q0, q1, qP, va_K.moved (u := U) (U := U.calling g mk a) (Vm.Alike.refl U.vm) qK, va_AO.moved (u := U) (U := U.calling g mk a) (Vm.Alike.refl U.vm) qO, qD⟩, fun U hU hW => ⟨rfl, by rw [hU], by rw [hU]; exact hP, va_K.moved hW.alike hKc, va_AO.moved hW.alike hAO, hD.weaken (fun _ _ _ _ => trivial)⟩⟩ rfl rfl hl.1 rfl (lv_room (Nat.le_of_ble_eq_true rfl)) d_law_4 ⟨by show 1 + 29 ≤ 601024; decide, by show 3 + 5460 ≤ 7293034; decide⟩) hS (fun q _ h => hFc q h) hFc (fun u t H1 locs ht hvm _ hB hz1 hk1 hS => ?_)
  obtain ⟨ad, cR⟩ := u
  obtain ⟨hP1, hK1, hD1⟩ := hB
  rw [ht] at hP1
  have hK1 := va_K.moved hvm.symm hK1
  obtain ⟨hP, hD⟩ := va_join (wr := []) (w1 := zW0 cI cR (fun k => if k = 0 then q0 else ad k)) hP hD [0] [] rfl rfl (by decide) (by decide) hk1 hFc hP1 hD1
  generalize H1 = H at hP hS ⊢
  have hP : va_P D vwCl (zW0 cI cR (fun k => if k = 0 then q0 else ad k)) H := hP
  have hD : va_D A (zW0 cI cR (fun k => if k = 0 then q0 else ad k)) := hD
  have hK : va_K D vwCl [(cI, .int), (cJ, .long), (cZ, .boolean), (cR, .object R_Rel)] s := hKs.app (hK1.sub (tys' := [(cR, .object R_Rel)]) [1] rfl)
  refine W.widen (k := 30) (n := 5463) (Nat.le_of_ble_eq_true rfl) (Nat.le_of_ble_eq_true rfl) ?_
  refine lv_astore_n (lv' := [(1, .ref q0), (0, .ref b)]) hx hb d_law_7 rfl hl (by decide) rfl (fun ls hl => ?_)
  refine va_new (ci := 2) (fs := [.int 0, .null, .null, .null, .null]) (C := R_Mo) (T := T_Mo) (N := 5) hx hb hz zu_Mo ty_Mo ty_Mo_ok hown (hz _ wd_cM) (hz _ wd_iM) (hz _ wd_nM) hK hP hD hS hA rfl (fun j hj => by rcases (show j = 0 ∨ j = 1 ∨ j = 2 ∨ j = 3 ∨ j = 4 by omega) with rfl | rfl | rfl | rfl | rfl <;> rfl) (by show 30 + 1 ≤ 601024; decide) (by show 5463 + 5 ≤ 7293034; decide) d_law_8 (fun q8 H hP hD hS => ?_)
  refine W.widen (k := 31) (n := 5468) (Nat.le_of_ble_eq_true rfl) (Nat.le_of_ble_eq_true rfl) ?_
  refine lv_dup hx hb d_law_11 rfl ?_
  have hPc := hP.sub (ws' := [(q8, .inr (2, [.int 0, .null, .null, .null, .null]))]) [30] rfl
  have hDc := hD.sub (ws' := [(q8, .inr (2, [.int 0, .null, .null, .null, .null]))]) [30] (by decide) rfl
  have hFc := va_free (wc := [(q8, .inr (2, [.int 0, .null, .null, .null, .null]))]) hD hS hA [30] rfl
  have hKc := hK.sub (tys' := [(cI, .int), (cZ, .boolean)]) [0, 2] rfl
  refine va_callv (va_runI (As := []) (rest := [.ref q8]) ⟨hx, hb, hml, hown, hz⟩ (c_Minit l D cI cZ q8 H.size) (cwI 0 hz (goodT (fun w h => h) wd_kM) rfl rfl rfl (hz _ wd_nM) (hz _ wd_lM) (hz _ wd_mM) rfl (by decide +kernel) ⟨(Nat.le_of_ble_eq_true rfl), (Nat.le_of_ble_eq_true rfl)⟩) ⟨fun a U g mk q => by obtain ⟨q0, q1, qP, qK, qD⟩ := q; exact ⟨q0, q1, qP, va_K.moved (u := U) (U := U.calling g mk a) (Vm.Alike.refl U.vm) qK, qD⟩, fun U hU hW => ⟨rfl, by rw [hU], by rw [hU]; exact hPc, va_K.moved hW.alike hKc, hDc.weaken (fun _ _ _ _ => trivial)⟩⟩ rfl rfl hl.1 rfl (lv_room (Nat.le_of_ble_eq_true rfl)) d_law_12 ⟨by show 31 + 4 ≤ 601024; decide, by show 5468 + 37128 ≤ 7293034; decide⟩) hS (fun q _ h => hFc q h) hFc (fun u t H1 locs ht hvm _ hB hz1 hk1 hS => ?_)
  obtain ⟨a1, a2, a3, a4⟩ := u
  obtain ⟨hP1, hD1⟩ := hB
  rw [ht] at hP1
  obtain ⟨hP, hD⟩ := va_join (wr := zW0 cI cR (fun k => if k = 0 then q0 else ad k)) (w1 := [(q8, .inr (2, [.int 0, .ref a1, .ref a2, .ref a3, .ref a4])), (a1, .inl (cI, 8, .inl zw8)), (a2, .inl (cI, 32768, .inl (fun _ => 0))), (a3, .inl (cI, 4096, .inl (fun _ => 0))), (a4, .inl (cZ, 256, .inl (fun _ => 0)))]) hP hD [30] [0, 1, 2, 3, 4, 5, 6, 7, 8, 9, 10, 11, 12, 13, 14, 15, 16, 17, 18, 19, 20, 21, 22, 23, 24, 25, 26, 27, 28, 29] rfl rfl (by decide) (by decide) hk1 hFc hP1 hD1
  generalize H1 = H at hP hS ⊢
  refine W.widen (k := 35) (n := 42596) (Nat.le_of_ble_eq_true rfl) (Nat.le_of_ble_eq_true rfl) ?_
  refine lv_astore_n (lv' := [(2, .ref q8), (1, .ref q0), (0, .ref b)]) hx hb d_law_15 rfl hl (by decide) rfl (fun ls hl => ?_)
  refine lv_iconst (v := 1) hx hb d_law_16 (by decide) ?_
  refine va_newa (atype := .long) (a0 := (1, .inr (.inl (fun _ => 0)))) (ty := .long) (N' := 1) hx hb (hz _ wd_arrJ) rfl hK hP hD hS hA (fun cA => rfl) (by decide) (by decide) (by decide) (by show 35 + 1 ≤ 601024; decide) (by show 42596 + 1 ≤ 7293034; decide) d_law_17 (fun q17 cA H hK9 hP hD hS => ?_)
  have e9 : cJ = cA := Option.some.inj ((hK9.2 1 _ rfl).2.symm.trans (hK9.2 4 _ rfl).2)
  subst e9
  refine W.widen (k := 36) (n := 42597) (Nat.le_of_ble_eq_true rfl) (Nat.le_of_ble_eq_true rfl) ?_
  refine lv_astore_n (lv' := [(3, .ref q17), (2, .ref q8), (1, .ref q0), (0, .ref b)]) hx hb d_law_19 rfl hl (by decide) rfl (fun ls hl => ?_)
  refine lv_iconst (v := 0) hx hb d_law_20 (by decide) ?_
  refine lv_istore (lv' := [(4, .int 0), (3, .ref q17), (2, .ref q8), (1, .ref q0), (0, .ref b)]) hx hb d_law_21 hl (by decide) rfl (fun ls hl => ?_)
  obtain ⟨G, hG⟩ : ∃ G : zG, G = (D, fun k => if k = 0 then q0 else if k < 30 then ad k else if k = 30 then q8 else if k = 31 then a1 else if k = 32 then a2 else if k = 33 then a3 else if k = 34 then a4 else q17, s.heap, cI, cJ, cZ, cR) := ⟨_, rfl⟩
  have hAG : A = zA G := by rw [hAe, hG]; rfl
  have hHG : zH G = s.heap := by rw [hG]; rfl
  have hDG : zD G = D := by rw [hG]; rfl
  have hKG : va_K (zD G) vwCl (zT G) s := by rw [hG]; exact hK
  have eW : zW G zs0 = (((zW0 cI cR (fun k => if k = 0 then q0 else ad k) ++ ([(q8, .inr (2, [.int 0, .ref a1, .ref a2, .ref a3, .ref a4])), (a1, .inl (cI, 8, .inl zw8)), (a2, .inl (cI, 32768, .inl (fun _ => 0))), (a3, .inl (cI, 4096, .inl (fun _ => 0))), (a4, .inl (cZ, 256, .inl (fun _ => 0)))] : va_W)) ++ ([(q17, .inl (cJ, 1, .inr (.inl (fun _ => 0))))] : va_W)) : va_W).set 1 (ad 1, .inl (cR, 8, .inr (.inr (.inr (.inr (fun j => some (zad G (nI (2 + 3 * j)).toNatClampNeg))))))) := by subst hG; rfl
  have hw1 : (((zW0 cI cR (fun k => if k = 0 then q0 else ad k) ++ ([(q8, .inr (2, [.int 0, .ref a1, .ref a2, .ref a3, .ref a4])), (a1, .inl (cI, 8, .inl zw8)), (a2, .inl (cI, 32768, .inl (fun _ => 0))), (a3, .inl (cI, 4096, .inl (fun _ => 0))), (a4, .inl (cZ, 256, .inl (fun _ => 0)))] : va_W)) ++ ([(q17, .inl (cJ, 1, .inr (.inl (fun _ => 0))))] : va_W)) : va_W)[1]? = some (ad 1, .inl (cR, 8, .inr (.inr (.inr (.inr (va_up (va_up (va_up (va_up (va_up (va_up (va_up (va_up (fun _ => none) 0 (some (ad 2))) 1 (some (ad 5))) 2 (some (ad 8))) 3 (some (ad 11))) 4 (some (ad 14))) 5 (some (ad 17))) 6 (some (ad 20))) 7 (some (ad 23)))))))) := rfl
  have hP9 : va_P (zD G) vwCl (zW G zs0) H := by
    rw [eW, hDG]
    intro k q hk
    by_cases h1 : k = 1
    · subst h1
      rw [List.getElem?_set_self (Nat.le_of_ble_eq_true rfl)] at hk
      cases hk
      have h2 := hP 1 _ hw1
      show H[ad 1]? = some (vp_cell cR (8, .inr (.inr (.inr (.inr (fun j => some (zad G (nI (2 + 3 * j)).toNatClampNeg)))))))
      rw [show H[ad 1]? = _ from h2, vp_cell_q, vp_cell_q]
      refine congrArg some (arrV_cg (fun j hj => ?_))
      rcases (show j = 0 ∨ j = 1 ∨ j = 2 ∨ j = 3 ∨ j = 4 ∨ j = 5 ∨ j = 6 ∨ j = 7 by omega) with rfl | rfl | rfl | rfl | rfl | rfl | rfl | rfl <;> (subst hG; rfl)
    · rw [List.getElem?_set_ne (Ne.symm h1)] at hk
      exact hP k q hk
  have hD9 : va_D (zA G) (zW G zs0) := by
    rw [eW, ← hAG]
    exact hD.set hw1
  have hS9 : va_S (zA G) (zH G) H locs := by rw [← hAG, hHG]; exact hS
  have hnA : ∀ a : Nat, a < s.heap.size → ¬ zA G a := fun a h q => by rw [← hAG, hAe] at q; exact absurd h (Nat.not_lt.mpr q)
  have hst : zSt G s := by
    refine ⟨⟨?_, ?_⟩, ⟨?_, ?_, ?_⟩, ⟨?_, ?_, ?_⟩, ⟨?_, ?_, ?_⟩, ?_⟩
    · rw [hHG]; exact vx_Zqof (htb _ (tb 99 (by decide +kernel))) (htb _ (tb 4 (by decide +kernel))) (hfl _ (by decide +kernel)) hnA
    · rw [hHG]; exact vx_Zqof (htb _ (tb 101 (by decide +kernel))) (htb _ (tb 4 (by decide +kernel))) (hfl _ (by decide +kernel)) hnA
    · exact va_Nw.of rfl (htb _ (tb 75 (by decide +kernel)))
    · exact va_Nw.of rfl (htb _ (tb 77 (by decide +kernel)))
    · exact va_Nw.of rfl (htb _ (tb 79 (by decide +kernel)))
    · exact va_Nw.of rfl (htb _ (tb 74 (by decide +kernel)))
    · exact va_Nw.of rfl (htb _ (tb 140 (by decide +kernel)))
    · exact va_Nw.of rfl (htb _ (tb 203 (by decide +kernel)))
    · exact va_Nc.of (hfl _ (by decide +kernel))
    · exact va_Nc.of (hfl _ (by decide +kernel))
    · exact va_Nc.of (hfl _ (by decide +kernel))
    · exact va_Nw.of rfl (htb _ (tb 335 (by decide +kernel)))
  have hadr : zad G 0 = q0 ∧ zad G 30 = q8 ∧ zad G 35 = q17 := by subst hG; exact ⟨rfl, rfl, rfl⟩
  have hl9 : lv_has ls 8 [(4, .int (nI (5 * 0))), (0, .ref b), (1, .ref (zad G 0)), (2, .ref (zad G 30)), (3, .ref (zad G 35))] := by
    rw [hadr.1, hadr.2.1, hadr.2.2]
    exact lv_sub hl [0, 4, 3, 2, 1] rfl
  have k := lp_law l G (xs := xs) (xt := c.exceptionTable.toList) (b := b) htr hL 513 0 36 42597 zs0 (by omega) (by omega) (by omega) (by omega) ⟨_, _, zs0_wf, zs0_mw⟩ p e s m #[Value.ref b] below meth c ⟨hx, hb, hml, hr, hlocks, hz, fun w h => h, hown, hKG, hst, rfl, by rw [hHG]; exact va_S.rf⟩ H locs ls hl9 hP9 hD9 hS9
  intro T hT X
  obtain ⟨t, b1, b2⟩ := k T hT X
  exact ⟨t, b1, b2 ⟨by rw [hHG]; exact hX, by rw [hHG]; exact hbl, hnA b hbl, rfl, by rw [hHG]; exact Nat.le_refl _⟩⟩
