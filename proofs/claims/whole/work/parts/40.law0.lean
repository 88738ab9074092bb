/-! THE LAW'S OWN BODY: the script, which lies outside the world, and the end. Fin speaks only of starts at which the script lies where it must -/
def zPx (G : zG) (b L : Nat) (xs : Nat → Int32) (args : Array Value) (s : State) : Prop := va_X b L xs s (zH G) ∧ b < (zH G).size ∧ ¬ zA G b ∧ args = #[Value.ref b] ∧ s.heap.size ≤ (zH G).size
def zLF (G : zG) (b L : Nat) (xs : Nat → Int32) : List Frame → Array Value → State → State → Prop := fun below args s t => zPx G b L xs args s → lw_Z below args s t
abbrev zLB (l : Launch) (G : zG) (b L : Nat) (xs : Nat → Int32) (xt : List ExceptionTableEntry) (cs sl pc : Nat) (lv : List (Nat × Value)) (st : List Value) (σ : zS) : Prop := zB l G zws R_La code 8 ret xt room_1 (zLF G b L xs) cs sl pc lv st σ
section ZLAW
variable {l : Launch} {G : zG} {b L : Nat} {xs : Nat → Int32} {xt : List ExceptionTableEntry} {cs sl pc : Nat} {lv : List (Nat × Value)} {st : List Value} {σ : zS}
theorem zb_sld {j : Nat} (d : decode code pc = .ok (.iaload, 1)) (hj : j < L) (hL : L ≤ 2560) (k : zLB l G b L xs xt cs sl (pc + 1) lv (.int (xs j) :: st) σ) : zLB l G b L xs xt cs sl pc lv (.int (nI j) :: .ref b :: st) σ := by
  intro p e s m args below meth c C H locs ls hl hP hD hS
  by_cases hp : zPx G b L xs args s
  · refine va_sld C.ex C.bt hp.1 hp.2.1 hp.2.2.1 hS (vp_in_nI hj (by omega)) d ?_
    rw [nI_clamp (by omega)]
    exact k p e s m args below meth c C H locs ls hl hP hD hS
  · exact fun T hT X => ⟨_, Steps.refl _, fun h => absurd h hp⟩
theorem zb_slen (d : decode code pc = .ok (.arraylength, 1)) (k : zLB l G b L xs xt cs sl (pc + 1) lv (.int (nI L) :: st) σ) : zLB l G b L xs xt cs sl pc lv (.ref b :: st) σ := by
  intro p e s m args below meth c C H locs ls hl hP hD hS
  by_cases hp : zPx G b L xs args s
  · refine va_slen C.ex C.bt hp.1 hp.2.1 hp.2.2.1 hS d ?_
    exact k p e s m args below meth c C H locs ls hl hP hD hS
  · exact fun T hT X => ⟨_, Steps.refl _, fun h => absurd h hp⟩
theorem zb_laldN (d : decode code pc = .ok (.laload, 1)) (k : zLB l G b L xs xt cs sl (pc + 1) lv (.long (σ.2 0) :: st) σ) : zLB l G b L xs xt cs sl pc lv (.int (nI 0) :: .ref (zad G 35) :: st) σ :=
  zb_lald d (vp_in_nI (show 0 < 1 by decide) (by decide)) (by rw [nI_clamp (by decide)]; exact k)
theorem zb_end (d : decode code pc = .ok (.ireturn, 1)) (hc : cs ≤ 601024) (hs : sl ≤ 7293034) : zLB l G b L xs xt cs sl pc lv [.int 1] σ := by
  intro p e s m args below meth c C H locs ls hl hP hD hS
  by_cases hp : zPx G b L xs args s
  · obtain ⟨-, -, -, rfl, hz⟩ := hp
    have k : W p l e room_1 s m #[Value.ref b] below meth c H locs cs sl (lw_Z below #[Value.ref b] s) (F0 m pc ls [.int 1]) :=
      va_forget (fun q hq => Nat.le_trans hz (hS.2.2 q hq)) (W.widen hc hs (lw_ret C.ex C.bt C.re C.lk d))
    intro T hT X
    obtain ⟨t, a1, b1⟩ := k T hT X
    exact ⟨t, a1, fun _ => b1⟩
  · exact fun T hT X => ⟨_, Steps.refl _, fun h => absurd h hp⟩
end ZLAW
theorem lg_self (x : Int64) : lg_cmp x x = 0 := by
  unfold lg_cmp
  rw [if_neg (fun z => Int64.lt_irrefl z), if_pos rfl]
theorem law_cmp {L i : Nat} (hL : L < 2 ^ 30) (hi : i < 2 ^ 30) : (nI L - 5 < nI i) ↔ L < i + 5 := by
  rw [Int32.lt_iff_toInt_lt, show (nI L - 5 : Int32) = nI L - nI 5 from rfl, pk_sub_toInt hL (by decide), nI_toInt (by omega)]
  omega
theorem and15 (x : Int32) : ∃ k : Nat, k < 16 ∧ x &&& 15 = nI k := by
  refine ⟨(x &&& 15).toBitVec.toNat, ?_, ?_⟩
  · show (x.toBitVec &&& 15#32).toNat < 16
    rw [BitVec.toNat_and]
    exact Nat.lt_of_le_of_lt Nat.and_le_right (by decide)
  · apply Int32.toBitVec_inj.mp
    show _ = BitVec.ofNat 32 _
    simp
theorem hv_width (M : Nat → Nat → Int32) (w : Nat → Nat) (x y : Int32) (σ : zS) : ∀ v σ', P_width M w x y σ v σ' → ∃ n : Int32, v = some (.int n) := fun _ _ ⟨_, _, _, _, _, _, _, _, hv, _⟩ => ⟨_, hv⟩
theorem hE_width (M : Nat → Nat → Int32) (w : Nat → Nat) (x y : Int32) (σ : zS) : ∀ E σ', X_width M w x y σ E σ' → E = zNS ∨ E = zIA := by
  rintro E σ' ⟨⟨e, _⟩ | ⟨e, _⟩, _⟩
  · exact Or.inl e
  · exact Or.inr e
theorem hv_put (M : Nat → Nat → Int32) (w : Nat → Nat) (x y z : Int32) (σ : zS) : ∀ v σ', P_put M w x y z σ v σ' → ∃ n : Int32, v = some (.int n) := fun _ _ ⟨_, _, _, _, _, _, _, _, _, hv, _⟩ => ⟨_, hv⟩
theorem hE_put (M : Nat → Nat → Int32) (w : Nat → Nat) (x y z : Int32) (σ : zS) : ∀ E σ', X_put M w x y z σ E σ' → E = zNS ∨ E = zIA ∨ E = zIS := by
  rintro E σ' ⟨⟨e, _⟩ | ⟨e, _⟩ | ⟨e, _⟩, _⟩
  · exact Or.inl e
  · exact Or.inr (Or.inl e)
  · exact Or.inr (Or.inr e)
theorem hv_count (M : Nat → Nat → Int32) (w : Nat → Nat) (x y : Int32) (σ : zS) : ∀ v σ', P_count M w x y σ v σ' → ∃ n : Int32, v = some (.int n) := fun _ _ ⟨_, _, _, _, _, _, hv, _⟩ => ⟨_, hv⟩
theorem hE_count (M : Nat → Nat → Int32) (w : Nat → Nat) (x y : Int32) (σ : zS) : ∀ E σ', X_count M w x y σ E σ' → E = zNS ∨ E = zIA := by
  rintro E σ' ⟨⟨e, _⟩ | ⟨e, _⟩, _⟩
  · exact Or.inl e
  · exact Or.inr e
theorem hv_at (M : Nat → Nat → Int32) (w : Nat → Nat) (x y : Int32) (σ : zS) : ∀ v σ', P_at M w x y σ v σ' → ∃ n : Int32, v = some (.int n) := fun _ _ ⟨_, _, _, _, _, _, _, _, hv, _⟩ => ⟨_, hv⟩
theorem hE_at (M : Nat → Nat → Int32) (w : Nat → Nat) (x y : Int32) (σ : zS) : ∀ E σ', X_at M w x y σ E σ' → E = zNS := by
  rintro E σ' ⟨⟨e, _⟩ | ⟨e, _⟩, _⟩
  · exact e
  · exact e
theorem hv_join (M : Nat → Nat → Int32) (w : Nat → Nat) (x y z o : Int32) (σ : zS) : ∀ v σ', P_join M w x y z o σ v σ' → ∃ n : Int32, v = some (.int n) := fun _ _ ⟨_, _, _, _, _, _, _, _, _, _, _, _, _, hv, _⟩ => ⟨_, hv⟩
theorem hE_join (M : Nat → Nat → Int32) (w : Nat → Nat) (x y z o : Int32) (σ : zS) : ∀ E σ', X_join M w x y z o σ E σ' → E = zNS ∨ E = zIA ∨ E = zIS := by
  rintro E σ' ⟨⟨e, _⟩ | ⟨e, _⟩ | ⟨e, _⟩, _⟩
  · exact Or.inl e
  · exact Or.inr (Or.inl e)
  · exact Or.inr (Or.inr e)
theorem hv_narrow (M : Nat → Nat → Int32) (w : Nat → Nat) (x y z : Int32) (σ : zS) : ∀ v σ', P_narrow M w x y z σ v σ' → ∃ n : Int32, v = some (.int n) := fun _ _ ⟨_, _, _, _, _, _, _, _, _, hv, _⟩ => ⟨_, hv⟩
theorem hE_narrow (M : Nat → Nat → Int32) (w : Nat → Nat) (x y z : Int32) (σ : zS) : ∀ E σ', X_narrow M w x y z σ E σ' → E = zNS ∨ E = zIA := by
  rintro E σ' ⟨⟨e, _⟩ | ⟨e, _⟩, _⟩
  · exact Or.inl e
  · exact Or.inr e
theorem hv_pick (M : Nat → Nat → Int32) (w : Nat → Nat) (x y z b : Int32) (σ : zS) : ∀ v σ', P_pick M w x y z b σ v σ' → ∃ n : Int32, v = some (.int n) := fun _ _ ⟨_, _, _, _, _, _, _, _, _, _, _, _, hv, _⟩ => ⟨_, hv⟩
theorem hE_pick (M : Nat → Nat → Int32) (w : Nat → Nat) (x y z b : Int32) (σ : zS) : ∀ E σ', X_pick M w x y z b σ E σ' → E = zNS ∨ E = zIA := by
  rintro E σ' ⟨⟨e, _⟩ | ⟨e, _⟩, _⟩
  · exact Or.inl e
  · exact Or.inr e
theorem hv_alter (M : Nat → Nat → Int32) (w : Nat → Nat) (x o y z : Int32) (σ : zS) : ∀ v σ', P_alter M w x o y z σ v σ' → ∃ n : Int32, v = some (.int n) := fun _ _ ⟨_, _, _, _, _, _, _, _, _, _, _, _, _, _, hv, _⟩ => ⟨_, hv⟩
theorem hE_alter (M : Nat → Nat → Int32) (w : Nat → Nat) (x o y z : Int32) (σ : zS) : ∀ E σ', X_alter M w x o y z σ E σ' → E = zNS ∨ E = zIA ∨ E = zIS := by
  rintro E σ' ⟨⟨e, _⟩ | ⟨e, _⟩ | ⟨e, _⟩, _⟩
  · exact Or.inl e
  · exact Or.inr (Or.inl e)
  · exact Or.inr (Or.inr e)
theorem hv_reach (M : Nat → Nat → Int32) (w : Nat → Nat) (x y : Int32) (σ : zS) : ∀ v σ', P_reach M w x y σ v σ' → ∃ n : Int32, v = some (.int n) := fun _ _ ⟨_, _, _, _, _, _, _, _, _, hv, _⟩ => ⟨_, hv⟩
theorem hE_reach (M : Nat → Nat → Int32) (w : Nat → Nat) (x y : Int32) (σ : zS) : ∀ E σ', X_reach M w x y σ E σ' → E = zNS ∨ E = zIA := by
  rintro E σ' ⟨⟨e, _⟩ | ⟨e, _⟩, _⟩
  · exact Or.inl e
  · exact Or.inr e
theorem hv_turn (M : Nat → Nat → Int32) (w : Nat → Nat) (x y : Int32) (σ : zS) : ∀ v σ', P_turn M w x y σ v σ' → ∃ n : Int32, v = some (.int n) := fun _ _ ⟨_, _, _, _, _, _, hv, _⟩ => ⟨_, hv⟩
theorem hE_turn (M : Nat → Nat → Int32) (w : Nat → Nat) (x y : Int32) (σ : zS) : ∀ E σ', X_turn M w x y σ E σ' → E = zNS := by
  rintro E σ' ⟨⟨e, _⟩ | f, _⟩
  · exact e
  · exact absurd f id
theorem hv_about (M : Nat → Nat → Int32) (w : Nat → Nat) (x y : Int32) (σ : zS) : ∀ v σ', P_about M w x y σ v σ' → ∃ n : Int64, v = some (.long n) := fun _ _ ⟨_, _, _, _, _, _, hv, _⟩ => ⟨_, hv⟩
theorem hE_about (M : Nat → Nat → Int32) (w : Nat → Nat) (x y : Int32) (σ : zS) : ∀ E σ', X_about M w x y σ E σ' → E = zNS ∨ E = zIA := by
  rintro E σ' ⟨⟨e, _⟩ | ⟨e, _⟩, _⟩
  · exact Or.inl e
  · exact Or.inr e
theorem hv_same (M : Nat → Nat → Int32) (w : Nat → Nat) (x y : Int32) (σ : zS) : ∀ v σ', P_same M w x y σ v σ' → v = some (.int 1) ∨ v = some (.int 0) := by
  rintro v σ' ⟨_, _, _, _, _, _, ⟨_, e⟩ | ⟨_, e⟩, _⟩
  · exact Or.inl e
  · exact Or.inr e
theorem hE_same (M : Nat → Nat → Int32) (w : Nat → Nat) (x y : Int32) (σ : zS) : ∀ E σ', X_same M w x y σ E σ' → E = zNS := by
  rintro E σ' ⟨e, _⟩
  exact e
