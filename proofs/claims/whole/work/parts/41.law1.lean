set_option maxHeartbeats 4000000 in
set_option maxRecDepth 100000 in
/-- the arm of width -/
theorem arm_width (l : Launch) (G : zG) {b L : Nat} {xs : Nat → Int32} {xt : List ExceptionTableEntry} (hl : l.stackTraces = false) (hL : L ≤ 2560) {σ : zS} {M : Nat → Nat → Int32} {w : Nat → Nat} {j cs sl : Nat} (hj : 5 * j + 5 ≤ L) (hcs : cs ≤ 100 + 6 * j) (hsl : sl ≤ 50000 + 36 * j) (hw : zwf σ M w) (hm : zmw σ M w) (K : ∀ (cs' sl' : Nat) (σ' : zS), cs' ≤ 100 + 6 * (j + 1) → sl' ≤ 50000 + 36 * (j + 1) → zJM σ' → zLB l G b L xs xt cs' sl' 1018 [(4, .int (nI (5 * j))), (0, .ref b), (1, .ref (zad G 0)), (2, .ref (zad G 30)), (3, .ref (zad G 35))] [] σ') : zLB l G b L xs xt cs sl 100 [(4, .int (nI (5 * j))), (0, .ref b), (1, .ref (zad G 0)), (2, .ref (zad G 30)), (3, .ref (zad G 35))] [] σ := by
  refine zb_aload_n d_law_100 rfl rfl ?_
  refine zb_aload_n d_law_101 rfl rfl ?_
  refine zb_iload d_law_102 rfl ?_
  refine zb_iconst (v := 1) d_law_104 rfl ?_
  refine zb_iadd d_law_105 ?_
  refine zb_top (y := nI (5 * j + 1)) (nI_add _ _) ?_
  refine zb_sld (j := (5 * j + 1)) d_law_106 (by omega) hL ?_
  refine zb_aload_n d_law_107 rfl rfl ?_
  refine zb_iload d_law_108 rfl ?_
  refine zb_iconst (v := 2) d_law_110 rfl ?_
  refine zb_iadd d_law_111 ?_
  refine zb_top (y := nI (5 * j + 2)) (nI_add _ _) ?_
  refine zb_sld (j := (5 * j + 2)) d_law_112 (by omega) hL ?_
  refine zb_aload_n d_law_113 rfl rfl ?_
  refine zb_callSW (rest := []) (cw_width l G (c_width l G hl hw) (hv_width M w (xs (5 * j + 1)) (xs (5 * j + 2)) σ) (hE_width M w (xs (5 * j + 1)) (xs (5 * j + 2)) σ)) (lkw_width.cw (fun w h => h) rfl rfl ⟨(Nat.le_of_ble_eq_true rfl), (Nat.le_of_ble_eq_true rfl)⟩) rfl rfl (Nat.le_of_ble_eq_true rfl) d_law_114 ⟨by show cs + 2 ≤ 601024; omega, by show sl + 12 ≤ 7293034; omega⟩ ?_
  rintro v9 σ9 h9
  obtain ⟨k, rfl, hC⟩ := pr_width (l := l) (G := G) hw hm h9
  refine zb_st (st' := [.int k]) rfl ?_
  refine zb_istore (lv' := [(5, .int k), (4, .int (nI (5 * j))), (0, .ref b), (1, .ref (zad G 0)), (2, .ref (zad G 30)), (3, .ref (zad G 35))]) d_law_117 (by decide) rfl ?_
  refine zb_aload_n d_law_119 rfl rfl ?_
  refine zb_aload_n d_law_120 rfl rfl ?_
  refine zb_iload d_law_121 rfl ?_
  refine zb_iconst (v := 1) d_law_123 rfl ?_
  refine zb_iadd d_law_124 ?_
  refine zb_top (y := nI (5 * j + 1)) (nI_add _ _) ?_
  refine zb_sld (j := (5 * j + 1)) d_law_125 (by omega) hL ?_
  refine zb_aload_n d_law_126 rfl rfl ?_
  refine zb_iload d_law_127 rfl ?_
  refine zb_iconst (v := 2) d_law_129 rfl ?_
  refine zb_iadd d_law_130 ?_
  refine zb_top (y := nI (5 * j + 2)) (nI_add _ _) ?_
  refine zb_sld (j := (5 * j + 2)) d_law_131 (by omega) hL ?_
  refine zb_callV (rest := []) hC (lk_La_65.cwT (fun w h => h) rfl rfl ⟨(Nat.le_of_ble_eq_true rfl), (Nat.le_of_ble_eq_true rfl)⟩) zgM rfl rfl rfl rfl (Nat.le_of_ble_eq_true rfl) d_law_132 ⟨by show cs + 2 + 0 ≤ 601024; omega, by show sl + 12 + 0 ≤ 7293034; omega⟩ ?_
  rintro v8 σ8 ⟨n, rfl, h1, h2, h3⟩
  refine zb_st (st' := [.int n]) rfl ?_
  refine zb_istore (lv' := [(6, .int n), (5, .int k), (4, .int (nI (5 * j))), (0, .ref b), (1, .ref (zad G 0)), (2, .ref (zad G 30)), (3, .ref (zad G 35))]) d_law_135 (by decide) rfl ?_
  refine zb_aload_n d_law_137 rfl rfl ?_
  refine zb_callV (rest := []) (c_mthrown l G) (lk_La_66.cwT (fun w h => h) rfl rfl ⟨(Nat.le_of_ble_eq_true rfl), (Nat.le_of_ble_eq_true rfl)⟩) zgM rfl rfl rfl rfl (Nat.le_of_ble_eq_true rfl) d_law_138 ⟨by show cs + 2 + 0 + 0 ≤ 601024; omega, by show sl + 12 + 0 + 0 ≤ 7293034; omega⟩ ?_
  rintro _ _ ⟨rfl, rfl⟩
  refine zb_st (st' := [.int k]) (by rw [← h1]; rfl) ?_
  refine zb_iload d_law_141 rfl ?_
  refine zb_icmp_eq (tgt := 148) d_law_143 rfl (fun h143 => ?_) (fun h143 => absurd rfl h143)
  refine zb_iload d_law_148 rfl ?_
  refine zb_if_ne (tgt := 165) d_law_150 rfl (fun hk => ?_) (fun hk => ?_)
  · refine zb_goto (tgt := 1018) d_law_165 rfl ?_
    refine zb_sub [2, 3, 4, 5, 6] rfl ?_
    exact K _ _ σ8 (by omega) (by omega) h2
  · refine zb_aload_n d_law_153 rfl rfl ?_
    refine zb_iconst (v := 0) d_law_154 rfl ?_
    refine zb_laldN d_law_155 ?_
    refine zb_iload d_law_156 rfl ?_
    refine zb_i2l (v := n.toInt64) d_law_158 rfl ?_
    refine zb_lcmp d_law_159 ?_
    refine zb_if_eq (tgt := 165) d_law_160 rfl (fun h160 => ?_) (fun h160 => absurd (by rw [h3 hk]; exact lg_self _) h160)
    refine zb_goto (tgt := 1018) d_law_165 rfl ?_
    refine zb_sub [2, 3, 4, 5, 6] rfl ?_
    exact K _ _ σ8 (by omega) (by omega) h2
set_option maxHeartbeats 4000000 in
set_option maxRecDepth 100000 in
/-- the arm of put -/
theorem arm_put (l : Launch) (G : zG) {b L : Nat} {xs : Nat → Int32} {xt : List ExceptionTableEntry} (hl : l.stackTraces = false) (hL : L ≤ 2560) {σ : zS} {M : Nat → Nat → Int32} {w : Nat → Nat} {j cs sl : Nat} (hj : 5 * j + 5 ≤ L) (hcs : cs ≤ 100 + 6 * j) (hsl : sl ≤ 50000 + 36 * j) (hw : zwf σ M w) (hm : zmw σ M w) (K : ∀ (cs' sl' : Nat) (σ' : zS), cs' ≤ 100 + 6 * (j + 1) → sl' ≤ 50000 + 36 * (j + 1) → zJM σ' → zLB l G b L xs xt cs' sl' 1018 [(4, .int (nI (5 * j))), (0, .ref b), (1, .ref (zad G 0)), (2, .ref (zad G 30)), (3, .ref (zad G 35))] [] σ') : zLB l G b L xs xt cs sl 168 [(4, .int (nI (5 * j))), (0, .ref b), (1, .ref (zad G 0)), (2, .ref (zad G 30)), (3, .ref (zad G 35))] [] σ := by
  refine zb_aload_n d_law_168 rfl rfl ?_
  refine zb_aload_n d_law_169 rfl rfl ?_
  refine zb_iload d_law_170 rfl ?_
  refine zb_iconst (v := 1) d_law_172 rfl ?_
  refine zb_iadd d_law_173 ?_
  refine zb_top (y := nI (5 * j + 1)) (nI_add _ _) ?_
  refine zb_sld (j := (5 * j + 1)) d_law_174 (by omega) hL ?_
  refine zb_aload_n d_law_175 rfl rfl ?_
  refine zb_iload d_law_176 rfl ?_
  refine zb_iconst (v := 2) d_law_178 rfl ?_
  refine zb_iadd d_law_179 ?_
  refine zb_top (y := nI (5 * j + 2)) (nI_add _ _) ?_
  refine zb_sld (j := (5 * j + 2)) d_law_180 (by omega) hL ?_
  refine zb_aload_n d_law_181 rfl rfl ?_
  refine zb_iload d_law_182 rfl ?_
  refine zb_iconst (v := 3) d_law_184 rfl ?_
  refine zb_iadd d_law_185 ?_
  refine zb_top (y := nI (5 * j + 3)) (nI_add _ _) ?_
  refine zb_sld (j := (5 * j + 3)) d_law_186 (by omega) hL ?_
  refine zb_aload_n d_law_187 rfl rfl ?_
  refine zb_callSW (rest := []) (cw_put l G (c_put l G hl hw) (hv_put M w (xs (5 * j + 1)) (xs (5 * j + 2)) (xs (5 * j + 3)) σ) (hE_put M w (xs (5 * j + 1)) (xs (5 * j + 2)) (xs (5 * j + 3)) σ)) (lkw_put.cw (fun w h => h) rfl rfl ⟨(Nat.le_of_ble_eq_true rfl), (Nat.le_of_ble_eq_true rfl)⟩) rfl rfl (Nat.le_of_ble_eq_true rfl) d_law_188 ⟨by show cs + 3 ≤ 601024; omega, by show sl + 18 ≤ 7293034; omega⟩ ?_
  rintro v9 σ9 h9
  obtain ⟨k, rfl, hC⟩ := pr_put (l := l) (G := G) hw hm h9
  refine zb_st (st' := [.int k]) rfl ?_
  refine zb_istore (lv' := [(5, .int k), (4, .int (nI (5 * j))), (0, .ref b), (1, .ref (zad G 0)), (2, .ref (zad G 30)), (3, .ref (zad G 35))]) d_law_191 (by decide) rfl ?_
  refine zb_aload_n d_law_193 rfl rfl ?_
  refine zb_aload_n d_law_194 rfl rfl ?_
  refine zb_iload d_law_195 rfl ?_
  refine zb_iconst (v := 1) d_law_197 rfl ?_
  refine zb_iadd d_law_198 ?_
  refine zb_top (y := nI (5 * j + 1)) (nI_add _ _) ?_
  refine zb_sld (j := (5 * j + 1)) d_law_199 (by omega) hL ?_
  refine zb_aload_n d_law_200 rfl rfl ?_
  refine zb_iload d_law_201 rfl ?_
  refine zb_iconst (v := 2) d_law_203 rfl ?_
  refine zb_iadd d_law_204 ?_
  refine zb_top (y := nI (5 * j + 2)) (nI_add _ _) ?_
  refine zb_sld (j := (5 * j + 2)) d_law_205 (by omega) hL ?_
  refine zb_aload_n d_law_206 rfl rfl ?_
  refine zb_iload d_law_207 rfl ?_
  refine zb_iconst (v := 3) d_law_209 rfl ?_
  refine zb_iadd d_law_210 ?_
  refine zb_top (y := nI (5 * j + 3)) (nI_add _ _) ?_
  refine zb_sld (j := (5 * j + 3)) d_law_211 (by omega) hL ?_
  refine zb_callV (rest := []) hC (lk_La_73.cwT (fun w h => h) rfl rfl ⟨(Nat.le_of_ble_eq_true rfl), (Nat.le_of_ble_eq_true rfl)⟩) zgM rfl rfl rfl rfl (Nat.le_of_ble_eq_true rfl) d_law_212 ⟨by show cs + 3 + 0 ≤ 601024; omega, by show sl + 18 + 0 ≤ 7293034; omega⟩ ?_
  rintro v8 σ8 ⟨n, rfl, h1, h2, h3⟩
  refine zb_st (st' := [.int n]) rfl ?_
  refine zb_istore (lv' := [(6, .int n), (5, .int k), (4, .int (nI (5 * j))), (0, .ref b), (1, .ref (zad G 0)), (2, .ref (zad G 30)), (3, .ref (zad G 35))]) d_law_215 (by decide) rfl ?_
  refine zb_aload_n d_law_217 rfl rfl ?_
  refine zb_callV (rest := []) (c_mthrown l G) (lk_La_66.cwT (fun w h => h) rfl rfl ⟨(Nat.le_of_ble_eq_true rfl), (Nat.le_of_ble_eq_true rfl)⟩) zgM rfl rfl rfl rfl (Nat.le_of_ble_eq_true rfl) d_law_218 ⟨by show cs + 3 + 0 + 0 ≤ 601024; omega, by show sl + 18 + 0 + 0 ≤ 7293034; omega⟩ ?_
  rintro _ _ ⟨rfl, rfl⟩
  refine zb_st (st' := [.int k]) (by rw [← h1]; rfl) ?_
  refine zb_iload d_law_221 rfl ?_
  refine zb_icmp_eq (tgt := 228) d_law_223 rfl (fun h223 => ?_) (fun h223 => absurd rfl h223)
  refine zb_iload d_law_228 rfl ?_
  refine zb_if_ne (tgt := 245) d_law_230 rfl (fun hk => ?_) (fun hk => ?_)
  · refine zb_goto (tgt := 1018) d_law_245 rfl ?_
    refine zb_sub [2, 3, 4, 5, 6] rfl ?_
    exact K _ _ σ8 (by omega) (by omega) h2
  · refine zb_aload_n d_law_233 rfl rfl ?_
    refine zb_iconst (v := 0) d_law_234 rfl ?_
    refine zb_laldN d_law_235 ?_
    refine zb_iload d_law_236 rfl ?_
    refine zb_i2l (v := n.toInt64) d_law_238 rfl ?_
    refine zb_lcmp d_law_239 ?_
    refine zb_if_eq (tgt := 245) d_law_240 rfl (fun h240 => ?_) (fun h240 => absurd (by rw [h3 hk]; exact lg_self _) h240)
    refine zb_goto (tgt := 1018) d_law_245 rfl ?_
    refine zb_sub [2, 3, 4, 5, 6] rfl ?_
    exact K _ _ σ8 (by omega) (by omega) h2
set_option maxHeartbeats 4000000 in
set_option maxRecDepth 100000 in
/-- the arm of count -/
theorem arm_count (l : Launch) (G : zG) {b L : Nat} {xs : Nat → Int32} {xt : List ExceptionTableEntry} (hl : l.stackTraces = false) (hL : L ≤ 2560) {σ : zS} {M : Nat → Nat → Int32} {w : Nat → Nat} {j cs sl : Nat} (hj : 5 * j + 5 ≤ L) (hcs : cs ≤ 100 + 6 * j) (hsl : sl ≤ 50000 + 36 * j) (hw : zwf σ M w) (hm : zmw σ M w) (K : ∀ (cs' sl' : Nat) (σ' : zS), cs' ≤ 100 + 6 * (j + 1) → sl' ≤ 50000 + 36 * (j + 1) → zJM σ' → zLB l G b L xs xt cs' sl' 1018 [(4, .int (nI (5 * j))), (0, .ref b), (1, .ref (zad G 0)), (2, .ref (zad G 30)), (3, .ref (zad G 35))] [] σ') : zLB l G b L xs xt cs sl 248 [(4, .int (nI (5 * j))), (0, .ref b), (1, .ref (zad G 0)), (2, .ref (zad G 30)), (3, .ref (zad G 35))] [] σ := by
  refine zb_aload_n d_law_248 rfl rfl ?_
  refine zb_aload_n d_law_249 rfl rfl ?_
  refine zb_iload d_law_250 rfl ?_
  refine zb_iconst (v := 1) d_law_252 rfl ?_
  refine zb_iadd d_law_253 ?_
  refine zb_top (y := nI (5 * j + 1)) (nI_add _ _) ?_
  refine zb_sld (j := (5 * j + 1)) d_law_254 (by omega) hL ?_
  refine zb_aload_n d_law_255 rfl rfl ?_
  refine zb_iload d_law_256 rfl ?_
  refine zb_iconst (v := 2) d_law_258 rfl ?_
  refine zb_iadd d_law_259 ?_
  refine zb_top (y := nI (5 * j + 2)) (nI_add _ _) ?_
  refine zb_sld (j := (5 * j + 2)) d_law_260 (by omega) hL ?_
  refine zb_aload_n d_law_261 rfl rfl ?_
  refine zb_callSW (rest := []) (cw_count l G (c_count l G hl hw) (hv_count M w (xs (5 * j + 1)) (xs (5 * j + 2)) σ) (hE_count M w (xs (5 * j + 1)) (xs (5 * j + 2)) σ)) (lkw_count.cw (fun w h => h) rfl rfl ⟨(Nat.le_of_ble_eq_true rfl), (Nat.le_of_ble_eq_true rfl)⟩) rfl rfl (Nat.le_of_ble_eq_true rfl) d_law_262 ⟨by show cs + 2 ≤ 601024; omega, by show sl + 12 ≤ 7293034; omega⟩ ?_
  rintro v9 σ9 h9
  obtain ⟨k, rfl, hC⟩ := pr_count (l := l) (G := G) hw hm h9
  refine zb_st (st' := [.int k]) rfl ?_
  refine zb_istore (lv' := [(5, .int k), (4, .int (nI (5 * j))), (0, .ref b), (1, .ref (zad G 0)), (2, .ref (zad G 30)), (3, .ref (zad G 35))]) d_law_265 (by decide) rfl ?_
  refine zb_aload_n d_law_267 rfl rfl ?_
  refine zb_aload_n d_law_268 rfl rfl ?_
  refine zb_iload d_law_269 rfl ?_
  refine zb_iconst (v := 1) d_law_271 rfl ?_
  refine zb_iadd d_law_272 ?_
  refine zb_top (y := nI (5 * j + 1)) (nI_add _ _) ?_
  refine zb_sld (j := (5 * j + 1)) d_law_273 (by omega) hL ?_
  refine zb_aload_n d_law_274 rfl rfl ?_
  refine zb_iload d_law_275 rfl ?_
  refine zb_iconst (v := 2) d_law_277 rfl ?_
  refine zb_iadd d_law_278 ?_
  refine zb_top (y := nI (5 * j + 2)) (nI_add _ _) ?_
  refine zb_sld (j := (5 * j + 2)) d_law_279 (by omega) hL ?_
  refine zb_callV (rest := []) hC (lk_La_76.cwT (fun w h => h) rfl rfl ⟨(Nat.le_of_ble_eq_true rfl), (Nat.le_of_ble_eq_true rfl)⟩) zgM rfl rfl rfl rfl (Nat.le_of_ble_eq_true rfl) d_law_280 ⟨by show cs + 2 + 0 ≤ 601024; omega, by show sl + 12 + 0 ≤ 7293034; omega⟩ ?_
  rintro v8 σ8 ⟨n, rfl, h1, h2, h3⟩
  refine zb_st (st' := [.int n]) rfl ?_
  refine zb_istore (lv' := [(6, .int n), (5, .int k), (4, .int (nI (5 * j))), (0, .ref b), (1, .ref (zad G 0)), (2, .ref (zad G 30)), (3, .ref (zad G 35))]) d_law_283 (by decide) rfl ?_
  refine zb_aload_n d_law_285 rfl rfl ?_
  refine zb_callV (rest := []) (c_mthrown l G) (lk_La_66.cwT (fun w h => h) rfl rfl ⟨(Nat.le_of_ble_eq_true rfl), (Nat.le_of_ble_eq_true rfl)⟩) zgM rfl rfl rfl rfl (Nat.le_of_ble_eq_true rfl) d_law_286 ⟨by show cs + 2 + 0 + 0 ≤ 601024; omega, by show sl + 12 + 0 + 0 ≤ 7293034; omega⟩ ?_
  rintro _ _ ⟨rfl, rfl⟩
  refine zb_st (st' := [.int k]) (by rw [← h1]; rfl) ?_
  refine zb_iload d_law_289 rfl ?_
  refine zb_icmp_eq (tgt := 296) d_law_291 rfl (fun h291 => ?_) (fun h291 => absurd rfl h291)
  refine zb_iload d_law_296 rfl ?_
  refine zb_if_ne (tgt := 313) d_law_298 rfl (fun hk => ?_) (fun hk => ?_)
  · refine zb_goto (tgt := 1018) d_law_313 rfl ?_
    refine zb_sub [2, 3, 4, 5, 6] rfl ?_
    exact K _ _ σ8 (by omega) (by omega) h2
  · refine zb_aload_n d_law_301 rfl rfl ?_
    refine zb_iconst (v := 0) d_law_302 rfl ?_
    refine zb_laldN d_law_303 ?_
    refine zb_iload d_law_304 rfl ?_
    refine zb_i2l (v := n.toInt64) d_law_306 rfl ?_
    refine zb_lcmp d_law_307 ?_
    refine zb_if_eq (tgt := 313) d_law_308 rfl (fun h308 => ?_) (fun h308 => absurd (by rw [h3 hk]; exact lg_self _) h308)
    refine zb_goto (tgt := 1018) d_law_313 rfl ?_
    refine zb_sub [2, 3, 4, 5, 6] rfl ?_
    exact K _ _ σ8 (by omega) (by omega) h2
set_option maxHeartbeats 4000000 in
set_option maxRecDepth 100000 in
/-- the arm of at -/
theorem arm_at (l : Launch) (G : zG) {b L : Nat} {xs : Nat → Int32} {xt : List ExceptionTableEntry} (hl : l.stackTraces = false) (hL : L ≤ 2560) {σ : zS} {M : Nat → Nat → Int32} {w : Nat → Nat} {j cs sl : Nat} (hj : 5 * j + 5 ≤ L) (hcs : cs ≤ 100 + 6 * j) (hsl : sl ≤ 50000 + 36 * j) (hw : zwf σ M w) (hm : zmw σ M w) (K : ∀ (cs' sl' : Nat) (σ' : zS), cs' ≤ 100 + 6 * (j + 1) → sl' ≤ 50000 + 36 * (j + 1) → zJM σ' → zLB l G b L xs xt cs' sl' 1018 [(4, .int (nI (5 * j))), (0, .ref b), (1, .ref (zad G 0)), (2, .ref (zad G 30)), (3, .ref (zad G 35))] [] σ') : zLB l G b L xs xt cs sl 316 [(4, .int (nI (5 * j))), (0, .ref b), (1, .ref (zad G 0)), (2, .ref (zad G 30)), (3, .ref (zad G 35))] [] σ := by
  refine zb_aload_n d_law_316 rfl rfl ?_
  refine zb_aload_n d_law_317 rfl rfl ?_
  refine zb_iload d_law_318 rfl ?_
  refine zb_iconst (v := 1) d_law_320 rfl ?_
  refine zb_iadd d_law_321 ?_
  refine zb_top (y := nI (5 * j + 1)) (nI_add _ _) ?_
  refine zb_sld (j := (5 * j + 1)) d_law_322 (by omega) hL ?_
  refine zb_aload_n d_law_323 rfl rfl ?_
  refine zb_iload d_law_324 rfl ?_
  refine zb_iconst (v := 2) d_law_326 rfl ?_
  refine zb_iadd d_law_327 ?_
  refine zb_top (y := nI (5 * j + 2)) (nI_add _ _) ?_
  refine zb_sld (j := (5 * j + 2)) d_law_328 (by omega) hL ?_
  refine zb_aload_n d_law_329 rfl rfl ?_
  refine zb_callSW (rest := []) (cw_at l G (c_at l G hl hw) (hv_at M w (xs (5 * j + 1)) (xs (5 * j + 2)) σ) (hE_at M w (xs (5 * j + 1)) (xs (5 * j + 2)) σ)) (lkw_at.cw (fun w h => h) rfl rfl ⟨(Nat.le_of_ble_eq_true rfl), (Nat.le_of_ble_eq_true rfl)⟩) rfl rfl (Nat.le_of_ble_eq_true rfl) d_law_330 ⟨by show cs + 2 ≤ 601024; omega, by show sl + 12 ≤ 7293034; omega⟩ ?_
  rintro v9 σ9 h9
  obtain ⟨k, rfl, hC⟩ := pr_at (l := l) (G := G) hw hm h9
  refine zb_st (st' := [.int k]) rfl ?_
  refine zb_istore (lv' := [(5, .int k), (4, .int (nI (5 * j))), (0, .ref b), (1, .ref (zad G 0)), (2, .ref (zad G 30)), (3, .ref (zad G 35))]) d_law_333 (by decide) rfl ?_
  refine zb_aload_n d_law_335 rfl rfl ?_
  refine zb_aload_n d_law_336 rfl rfl ?_
  refine zb_iload d_law_337 rfl ?_
  refine zb_iconst (v := 1) d_law_339 rfl ?_
  refine zb_iadd d_law_340 ?_
  refine zb_top (y := nI (5 * j + 1)) (nI_add _ _) ?_
  refine zb_sld (j := (5 * j + 1)) d_law_341 (by omega) hL ?_
  refine zb_aload_n d_law_342 rfl rfl ?_
  refine zb_iload d_law_343 rfl ?_
  refine zb_iconst (v := 2) d_law_345 rfl ?_
  refine zb_iadd d_law_346 ?_
  refine zb_top (y := nI (5 * j + 2)) (nI_add _ _) ?_
  refine zb_sld (j := (5 * j + 2)) d_law_347 (by omega) hL ?_
  refine zb_callV (rest := []) hC (lk_La_79.cwT (fun w h => h) rfl rfl ⟨(Nat.le_of_ble_eq_true rfl), (Nat.le_of_ble_eq_true rfl)⟩) zgM rfl rfl rfl rfl (Nat.le_of_ble_eq_true rfl) d_law_348 ⟨by show cs + 2 + 0 ≤ 601024; omega, by show sl + 12 + 0 ≤ 7293034; omega⟩ ?_
  rintro v8 σ8 ⟨n, rfl, h1, h2, h3⟩
  refine zb_st (st' := [.int n]) rfl ?_
  refine zb_istore (lv' := [(6, .int n), (5, .int k), (4, .int (nI (5 * j))), (0, .ref b), (1, .ref (zad G 0)), (2, .ref (zad G 30)), (3, .ref (zad G 35))]) d_law_351 (by decide) rfl ?_
  refine zb_aload_n d_law_353 rfl rfl ?_
  refine zb_callV (rest := []) (c_mthrown l G) (lk_La_66.cwT (fun w h => h) rfl rfl ⟨(Nat.le_of_ble_eq_true rfl), (Nat.le_of_ble_eq_true rfl)⟩) zgM rfl rfl rfl rfl (Nat.le_of_ble_eq_true rfl) d_law_354 ⟨by show cs + 2 + 0 + 0 ≤ 601024; omega, by show sl + 12 + 0 + 0 ≤ 7293034; omega⟩ ?_
  rintro _ _ ⟨rfl, rfl⟩
  refine zb_st (st' := [.int k]) (by rw [← h1]; rfl) ?_
  refine zb_iload d_law_357 rfl ?_
  refine zb_icmp_eq (tgt := 364) d_law_359 rfl (fun h359 => ?_) (fun h359 => absurd rfl h359)
  refine zb_iload d_law_364 rfl ?_
  refine zb_if_ne (tgt := 381) d_law_366 rfl (fun hk => ?_) (fun hk => ?_)
  · refine zb_goto (tgt := 1018) d_law_381 rfl ?_
    refine zb_sub [2, 3, 4, 5, 6] rfl ?_
    exact K _ _ σ8 (by omega) (by omega) h2
  · refine zb_aload_n d_law_369 rfl rfl ?_
    refine zb_iconst (v := 0) d_law_370 rfl ?_
    refine zb_laldN d_law_371 ?_
    refine zb_iload d_law_372 rfl ?_
    refine zb_i2l (v := n.toInt64) d_law_374 rfl ?_
    refine zb_lcmp d_law_375 ?_
    refine zb_if_eq (tgt := 381) d_law_376 rfl (fun h376 => ?_) (fun h376 => absurd (by rw [h3 hk]; exact lg_self _) h376)
    refine zb_goto (tgt := 1018) d_law_381 rfl ?_
    refine zb_sub [2, 3, 4, 5, 6] rfl ?_
    exact K _ _ σ8 (by omega) (by omega) h2
set_option maxHeartbeats 4000000 in
set_option maxRecDepth 100000 in
/-- the arm of join -/
theorem arm_join (l : Launch) (G : zG) {b L : Nat} {xs : Nat → Int32} {xt : List ExceptionTableEntry} (hl : l.stackTraces = false) (hL : L ≤ 2560) {σ : zS} {M : Nat → Nat → Int32} {w : Nat → Nat} {j cs sl : Nat} (hj : 5 * j + 5 ≤ L) (hcs : cs ≤ 100 + 6 * j) (hsl : sl ≤ 50000 + 36 * j) (hw : zwf σ M w) (hm : zmw σ M w) (K : ∀ (cs' sl' : Nat) (σ' : zS), cs' ≤ 100 + 6 * (j + 1) → sl' ≤ 50000 + 36 * (j + 1) → zJM σ' → zLB l G b L xs xt cs' sl' 1018 [(4, .int (nI (5 * j))), (0, .ref b), (1, .ref (zad G 0)), (2, .ref (zad G 30)), (3, .ref (zad G 35))] [] σ') : zLB l G b L xs xt cs sl 384 [(4, .int (nI (5 * j))), (0, .ref b), (1, .ref (zad G 0)), (2, .ref (zad G 30)), (3, .ref (zad G 35))] [] σ := by
  refine zb_aload_n d_law_384 rfl rfl ?_
  refine zb_aload_n d_law_385 rfl rfl ?_
  refine zb_iload d_law_386 rfl ?_
  refine zb_iconst (v := 1) d_law_388 rfl ?_
  refine zb_iadd d_law_389 ?_
  refine zb_top (y := nI (5 * j + 1)) (nI_add _ _) ?_
  refine zb_sld (j := (5 * j + 1)) d_law_390 (by omega) hL ?_
  refine zb_aload_n d_law_391 rfl rfl ?_
  refine zb_iload d_law_392 rfl ?_
  refine zb_iconst (v := 2) d_law_394 rfl ?_
  refine zb_iadd d_law_395 ?_
  refine zb_top (y := nI (5 * j + 2)) (nI_add _ _) ?_
  refine zb_sld (j := (5 * j + 2)) d_law_396 (by omega) hL ?_
  refine zb_aload_n d_law_397 rfl rfl ?_
  refine zb_iload d_law_398 rfl ?_
  refine zb_iconst (v := 3) d_law_400 rfl ?_
  refine zb_iadd d_law_401 ?_
  refine zb_top (y := nI (5 * j + 3)) (nI_add _ _) ?_
  refine zb_sld (j := (5 * j + 3)) d_law_402 (by omega) hL ?_
  refine zb_aload_n d_law_403 rfl rfl ?_
  refine zb_iload d_law_404 rfl ?_
  refine zb_iconst (v := 4) d_law_406 rfl ?_
  refine zb_iadd d_law_407 ?_
  refine zb_top (y := nI (5 * j + 4)) (nI_add _ _) ?_
  refine zb_sld (j := (5 * j + 4)) d_law_408 (by omega) hL ?_
  refine zb_aload_n d_law_409 rfl rfl ?_
  refine zb_callSW (rest := []) (cw_join l G (c_join l G hl hw) (hv_join M w (xs (5 * j + 1)) (xs (5 * j + 2)) (xs (5 * j + 3)) (xs (5 * j + 4)) σ) (hE_join M w (xs (5 * j + 1)) (xs (5 * j + 2)) (xs (5 * j + 3)) (xs (5 * j + 4)) σ)) (lkw_join.cw (fun w h => h) rfl rfl ⟨(Nat.le_of_ble_eq_true rfl), (Nat.le_of_ble_eq_true rfl)⟩) rfl rfl (Nat.le_of_ble_eq_true rfl) d_law_410 ⟨by show cs + 6 ≤ 601024; omega, by show sl + 36 ≤ 7293034; omega⟩ ?_
  rintro v9 σ9 h9
  obtain ⟨k, rfl, hC⟩ := pr_join (l := l) (G := G) hw hm h9
  refine zb_st (st' := [.int k]) rfl ?_
  refine zb_istore (lv' := [(5, .int k), (4, .int (nI (5 * j))), (0, .ref b), (1, .ref (zad G 0)), (2, .ref (zad G 30)), (3, .ref (zad G 35))]) d_law_413 (by decide) rfl ?_
  refine zb_aload_n d_law_415 rfl rfl ?_
  refine zb_aload_n d_law_416 rfl rfl ?_
  refine zb_iload d_law_417 rfl ?_
  refine zb_iconst (v := 1) d_law_419 rfl ?_
  refine zb_iadd d_law_420 ?_
  refine zb_top (y := nI (5 * j + 1)) (nI_add _ _) ?_
  refine zb_sld (j := (5 * j + 1)) d_law_421 (by omega) hL ?_
  refine zb_aload_n d_law_422 rfl rfl ?_
  refine zb_iload d_law_423 rfl ?_
  refine zb_iconst (v := 2) d_law_425 rfl ?_
  refine zb_iadd d_law_426 ?_
  refine zb_top (y := nI (5 * j + 2)) (nI_add _ _) ?_
  refine zb_sld (j := (5 * j + 2)) d_law_427 (by omega) hL ?_
  refine zb_aload_n d_law_428 rfl rfl ?_
  refine zb_iload d_law_429 rfl ?_
  refine zb_iconst (v := 3) d_law_431 rfl ?_
  refine zb_iadd d_law_432 ?_
  refine zb_top (y := nI (5 * j + 3)) (nI_add _ _) ?_
  refine zb_sld (j := (5 * j + 3)) d_law_433 (by omega) hL ?_
  refine zb_aload_n d_law_434 rfl rfl ?_
  refine zb_iload d_law_435 rfl ?_
  refine zb_iconst (v := 4) d_law_437 rfl ?_
  refine zb_iadd d_law_438 ?_
  refine zb_top (y := nI (5 * j + 4)) (nI_add _ _) ?_
  refine zb_sld (j := (5 * j + 4)) d_law_439 (by omega) hL ?_
  refine zb_callV (rest := []) hC (lk_La_83.cwT (fun w h => h) rfl rfl ⟨(Nat.le_of_ble_eq_true rfl), (Nat.le_of_ble_eq_true rfl)⟩) zgM rfl rfl rfl rfl (Nat.le_of_ble_eq_true rfl) d_law_440 ⟨by show cs + 6 + 0 ≤ 601024; omega, by show sl + 36 + 0 ≤ 7293034; omega⟩ ?_
  rintro v8 σ8 ⟨n, rfl, h1, h2, h3⟩
  refine zb_st (st' := [.int n]) rfl ?_
  refine zb_istore (lv' := [(6, .int n), (5, .int k), (4, .int (nI (5 * j))), (0, .ref b), (1, .ref (zad G 0)), (2, .ref (zad G 30)), (3, .ref (zad G 35))]) d_law_443 (by decide) rfl ?_
  refine zb_aload_n d_law_445 rfl rfl ?_
  refine zb_callV (rest := []) (c_mthrown l G) (lk_La_66.cwT (fun w h => h) rfl rfl ⟨(Nat.le_of_ble_eq_true rfl), (Nat.le_of_ble_eq_true rfl)⟩) zgM rfl rfl rfl rfl (Nat.le_of_ble_eq_true rfl) d_law_446 ⟨by show cs + 6 + 0 + 0 ≤ 601024; omega, by show sl + 36 + 0 + 0 ≤ 7293034; omega⟩ ?_
  rintro _ _ ⟨rfl, rfl⟩
  refine zb_st (st' := [.int k]) (by rw [← h1]; rfl) ?_
  refine zb_iload d_law_449 rfl ?_
  refine zb_icmp_eq (tgt := 456) d_law_451 rfl (fun h451 => ?_) (fun h451 => absurd rfl h451)
  refine zb_iload d_law_456 rfl ?_
  refine zb_if_ne (tgt := 473) d_law_458 rfl (fun hk => ?_) (fun hk => ?_)
  · refine zb_goto (tgt := 1018) d_law_473 rfl ?_
    refine zb_sub [2, 3, 4, 5, 6] rfl ?_
    exact K _ _ σ8 (by omega) (by omega) h2
  · refine zb_aload_n d_law_461 rfl rfl ?_
    refine zb_iconst (v := 0) d_law_462 rfl ?_
    refine zb_laldN d_law_463 ?_
    refine zb_iload d_law_464 rfl ?_
    refine zb_i2l (v := n.toInt64) d_law_466 rfl ?_
    refine zb_lcmp d_law_467 ?_
    refine zb_if_eq (tgt := 473) d_law_468 rfl (fun h468 => ?_) (fun h468 => absurd (by rw [h3 hk]; exact lg_self _) h468)
    refine zb_goto (tgt := 1018) d_law_473 rfl ?_
    refine zb_sub [2, 3, 4, 5, 6] rfl ?_
    exact K _ _ σ8 (by omega) (by omega) h2
set_option maxHeartbeats 4000000 in
set_option maxRecDepth 100000 in
/-- the arm of narrow -/
theorem arm_narrow (l : Launch) (G : zG) {b L : Nat} {xs : Nat → Int32} {xt : List ExceptionTableEntry} (hl : l.stackTraces = false) (hL : L ≤ 2560) {σ : zS} {M : Nat → Nat → Int32} {w : Nat → Nat} {j cs sl : Nat} (hj : 5 * j + 5 ≤ L) (hcs : cs ≤ 100 + 6 * j) (hsl : sl ≤ 50000 + 36 * j) (hw : zwf σ M w) (hm : zmw σ M w) (K : ∀ (cs' sl' : Nat) (σ' : zS), cs' ≤ 100 + 6 * (j + 1) → sl' ≤ 50000 + 36 * (j + 1) → zJM σ' → zLB l G b L xs xt cs' sl' 1018 [(4, .int (nI (5 * j))), (0, .ref b), (1, .ref (zad G 0)), (2, .ref (zad G 30)), (3, .ref (zad G 35))] [] σ') : zLB l G b L xs xt cs sl 476 [(4, .int (nI (5 * j))), (0, .ref b), (1, .ref (zad G 0)), (2, .ref (zad G 30)), (3, .ref (zad G 35))] [] σ := by
  refine zb_aload_n d_law_476 rfl rfl ?_
  refine zb_aload_n d_law_477 rfl rfl ?_
  refine zb_iload d_law_478 rfl ?_
  refine zb_iconst (v := 1) d_law_480 rfl ?_
  refine zb_iadd d_law_481 ?_
  refine zb_top (y := nI (5 * j + 1)) (nI_add _ _) ?_
  refine zb_sld (j := (5 * j + 1)) d_law_482 (by omega) hL ?_
  refine zb_aload_n d_law_483 rfl rfl ?_
  refine zb_iload d_law_484 rfl ?_
  refine zb_iconst (v := 2) d_law_486 rfl ?_
  refine zb_iadd d_law_487 ?_
  refine zb_top (y := nI (5 * j + 2)) (nI_add _ _) ?_
  refine zb_sld (j := (5 * j + 2)) d_law_488 (by omega) hL ?_
  refine zb_aload_n d_law_489 rfl rfl ?_
  refine zb_iload d_law_490 rfl ?_
  refine zb_iconst (v := 3) d_law_492 rfl ?_
  refine zb_iadd d_law_493 ?_
  refine zb_top (y := nI (5 * j + 3)) (nI_add _ _) ?_
  refine zb_sld (j := (5 * j + 3)) d_law_494 (by omega) hL ?_
  refine zb_aload_n d_law_495 rfl rfl ?_
  refine zb_callSW (rest := []) (cw_narrow l G (c_narrow l G hl hw) (hv_narrow M w (xs (5 * j + 1)) (xs (5 * j + 2)) (xs (5 * j + 3)) σ) (hE_narrow M w (xs (5 * j + 1)) (xs (5 * j + 2)) (xs (5 * j + 3)) σ)) (lkw_narrow.cw (fun w h => h) rfl rfl ⟨(Nat.le_of_ble_eq_true rfl), (Nat.le_of_ble_eq_true rfl)⟩) rfl rfl (Nat.le_of_ble_eq_true rfl) d_law_496 ⟨by show cs + 3 ≤ 601024; omega, by show sl + 18 ≤ 7293034; omega⟩ ?_
  rintro v9 σ9 h9
  obtain ⟨k, rfl, hC⟩ := pr_narrow (l := l) (G := G) hw hm h9
  refine zb_st (st' := [.int k]) rfl ?_
  refine zb_istore (lv' := [(5, .int k), (4, .int (nI (5 * j))), (0, .ref b), (1, .ref (zad G 0)), (2, .ref (zad G 30)), (3, .ref (zad G 35))]) d_law_499 (by decide) rfl ?_
  refine zb_aload_n d_law_501 rfl rfl ?_
  refine zb_aload_n d_law_502 rfl rfl ?_
  refine zb_iload d_law_503 rfl ?_
  refine zb_iconst (v := 1) d_law_505 rfl ?_
  refine zb_iadd d_law_506 ?_
  refine zb_top (y := nI (5 * j + 1)) (nI_add _ _) ?_
  refine zb_sld (j := (5 * j + 1)) d_law_507 (by omega) hL ?_
  refine zb_aload_n d_law_508 rfl rfl ?_
  refine zb_iload d_law_509 rfl ?_
  refine zb_iconst (v := 2) d_law_511 rfl ?_
  refine zb_iadd d_law_512 ?_
  refine zb_top (y := nI (5 * j + 2)) (nI_add _ _) ?_
  refine zb_sld (j := (5 * j + 2)) d_law_513 (by omega) hL ?_
  refine zb_aload_n d_law_514 rfl rfl ?_
  refine zb_iload d_law_515 rfl ?_
  refine zb_iconst (v := 3) d_law_517 rfl ?_
  refine zb_iadd d_law_518 ?_
  refine zb_top (y := nI (5 * j + 3)) (nI_add _ _) ?_
  refine zb_sld (j := (5 * j + 3)) d_law_519 (by omega) hL ?_
  refine zb_callV (rest := []) hC (lk_La_86.cwT (fun w h => h) rfl rfl ⟨(Nat.le_of_ble_eq_true rfl), (Nat.le_of_ble_eq_true rfl)⟩) zgM rfl rfl rfl rfl (Nat.le_of_ble_eq_true rfl) d_law_520 ⟨by show cs + 3 + 0 ≤ 601024; omega, by show sl + 18 + 0 ≤ 7293034; omega⟩ ?_
  rintro v8 σ8 ⟨n, rfl, h1, h2, h3⟩
  refine zb_st (st' := [.int n]) rfl ?_
  refine zb_istore (lv' := [(6, .int n), (5, .int k), (4, .int (nI (5 * j))), (0, .ref b), (1, .ref (zad G 0)), (2, .ref (zad G 30)), (3, .ref (zad G 35))]) d_law_523 (by decide) rfl ?_
  refine zb_aload_n d_law_525 rfl rfl ?_
  refine zb_callV (rest := []) (c_mthrown l G) (lk_La_66.cwT (fun w h => h) rfl rfl ⟨(Nat.le_of_ble_eq_true rfl), (Nat.le_of_ble_eq_true rfl)⟩) zgM rfl rfl rfl rfl (Nat.le_of_ble_eq_true rfl) d_law_526 ⟨by show cs + 3 + 0 + 0 ≤ 601024; omega, by show sl + 18 + 0 + 0 ≤ 7293034; omega⟩ ?_
  rintro _ _ ⟨rfl, rfl⟩
  refine zb_st (st' := [.int k]) (by rw [← h1]; rfl) ?_
  refine zb_iload d_law_529 rfl ?_
  refine zb_icmp_eq (tgt := 536) d_law_531 rfl (fun h531 => ?_) (fun h531 => absurd rfl h531)
  refine zb_iload d_law_536 rfl ?_
  refine zb_if_ne (tgt := 553) d_law_538 rfl (fun hk => ?_) (fun hk => ?_)
  · refine zb_goto (tgt := 1018) d_law_553 rfl ?_
    refine zb_sub [2, 3, 4, 5, 6] rfl ?_
    exact K _ _ σ8 (by omega) (by omega) h2
  · refine zb_aload_n d_law_541 rfl rfl ?_
    refine zb_iconst (v := 0) d_law_542 rfl ?_
    refine zb_laldN d_law_543 ?_
    refine zb_iload d_law_544 rfl ?_
    refine zb_i2l (v := n.toInt64) d_law_546 rfl ?_
    refine zb_lcmp d_law_547 ?_
    refine zb_if_eq (tgt := 553) d_law_548 rfl (fun h548 => ?_) (fun h548 => absurd (by rw [h3 hk]; exact lg_self _) h548)
    refine zb_goto (tgt := 1018) d_law_553 rfl ?_
    refine zb_sub [2, 3, 4, 5, 6] rfl ?_
    exact K _ _ σ8 (by omega) (by omega) h2
set_option maxHeartbeats 4000000 in
set_option maxRecDepth 100000 in
/-- the arm of pick -/
theorem arm_pick (l : Launch) (G : zG) {b L : Nat} {xs : Nat → Int32} {xt : List ExceptionTableEntry} (hl : l.stackTraces = false) (hL : L ≤ 2560) {σ : zS} {M : Nat → Nat → Int32} {w : Nat → Nat} {j cs sl : Nat} (hj : 5 * j + 5 ≤ L) (hcs : cs ≤ 100 + 6 * j) (hsl : sl ≤ 50000 + 36 * j) (hw : zwf σ M w) (hm : zmw σ M w) (K : ∀ (cs' sl' : Nat) (σ' : zS), cs' ≤ 100 + 6 * (j + 1) → sl' ≤ 50000 + 36 * (j + 1) → zJM σ' → zLB l G b L xs xt cs' sl' 1018 [(4, .int (nI (5 * j))), (0, .ref b), (1, .ref (zad G 0)), (2, .ref (zad G 30)), (3, .ref (zad G 35))] [] σ') : zLB l G b L xs xt cs sl 556 [(4, .int (nI (5 * j))), (0, .ref b), (1, .ref (zad G 0)), (2, .ref (zad G 30)), (3, .ref (zad G 35))] [] σ := by
  refine zb_aload_n d_law_556 rfl rfl ?_
  refine zb_aload_n d_law_557 rfl rfl ?_
  refine zb_iload d_law_558 rfl ?_
  refine zb_iconst (v := 1) d_law_560 rfl ?_
  refine zb_iadd d_law_561 ?_
  refine zb_top (y := nI (5 * j + 1)) (nI_add _ _) ?_
  refine zb_sld (j := (5 * j + 1)) d_law_562 (by omega) hL ?_
  refine zb_aload_n d_law_563 rfl rfl ?_
  refine zb_iload d_law_564 rfl ?_
  refine zb_iconst (v := 2) d_law_566 rfl ?_
  refine zb_iadd d_law_567 ?_
  refine zb_top (y := nI (5 * j + 2)) (nI_add _ _) ?_
  refine zb_sld (j := (5 * j + 2)) d_law_568 (by omega) hL ?_
  refine zb_aload_n d_law_569 rfl rfl ?_
  refine zb_iload d_law_570 rfl ?_
  refine zb_iconst (v := 3) d_law_572 rfl ?_
  refine zb_iadd d_law_573 ?_
  refine zb_top (y := nI (5 * j + 3)) (nI_add _ _) ?_
  refine zb_sld (j := (5 * j + 3)) d_law_574 (by omega) hL ?_
  refine zb_aload_n d_law_575 rfl rfl ?_
  refine zb_iload d_law_576 rfl ?_
  refine zb_iconst (v := 4) d_law_578 rfl ?_
  refine zb_iadd d_law_579 ?_
  refine zb_top (y := nI (5 * j + 4)) (nI_add _ _) ?_
  refine zb_sld (j := (5 * j + 4)) d_law_580 (by omega) hL ?_
  refine zb_aload_n d_law_581 rfl rfl ?_
  refine zb_callSW (rest := []) (cw_pick l G (c_pick l G hl hw) (hv_pick M w (xs (5 * j + 1)) (xs (5 * j + 2)) (xs (5 * j + 3)) (xs (5 * j + 4)) σ) (hE_pick M w (xs (5 * j + 1)) (xs (5 * j + 2)) (xs (5 * j + 3)) (xs (5 * j + 4)) σ)) (lkw_pick.cw (fun w h => h) rfl rfl ⟨(Nat.le_of_ble_eq_true rfl), (Nat.le_of_ble_eq_true rfl)⟩) rfl rfl (Nat.le_of_ble_eq_true rfl) d_law_582 ⟨by show cs + 4 ≤ 601024; omega, by show sl + 24 ≤ 7293034; omega⟩ ?_
  rintro v9 σ9 h9
  obtain ⟨k, rfl, hC⟩ := pr_pick (l := l) (G := G) hw hm h9
  refine zb_st (st' := [.int k]) rfl ?_
  refine zb_istore (lv' := [(5, .int k), (4, .int (nI (5 * j))), (0, .ref b), (1, .ref (zad G 0)), (2, .ref (zad G 30)), (3, .ref (zad G 35))]) d_law_585 (by decide) rfl ?_
  refine zb_aload_n d_law_587 rfl rfl ?_
  refine zb_aload_n d_law_588 rfl rfl ?_
  refine zb_iload d_law_589 rfl ?_
  refine zb_iconst (v := 1) d_law_591 rfl ?_
  refine zb_iadd d_law_592 ?_
  refine zb_top (y := nI (5 * j + 1)) (nI_add _ _) ?_
  refine zb_sld (j := (5 * j + 1)) d_law_593 (by omega) hL ?_
  refine zb_aload_n d_law_594 rfl rfl ?_
  refine zb_iload d_law_595 rfl ?_
  refine zb_iconst (v := 2) d_law_597 rfl ?_
  refine zb_iadd d_law_598 ?_
  refine zb_top (y := nI (5 * j + 2)) (nI_add _ _) ?_
  refine zb_sld (j := (5 * j + 2)) d_law_599 (by omega) hL ?_
  refine zb_aload_n d_law_600 rfl rfl ?_
  refine zb_iload d_law_601 rfl ?_
  refine zb_iconst (v := 3) d_law_603 rfl ?_
  refine zb_iadd d_law_604 ?_
  refine zb_top (y := nI (5 * j + 3)) (nI_add _ _) ?_
  refine zb_sld (j := (5 * j + 3)) d_law_605 (by omega) hL ?_
  refine zb_aload_n d_law_606 rfl rfl ?_
  refine zb_iload d_law_607 rfl ?_
  refine zb_iconst (v := 4) d_law_609 rfl ?_
  refine zb_iadd d_law_610 ?_
  refine zb_top (y := nI (5 * j + 4)) (nI_add _ _) ?_
  refine zb_sld (j := (5 * j + 4)) d_law_611 (by omega) hL ?_
  refine zb_callV (rest := []) hC (lk_La_89.cwT (fun w h => h) rfl rfl ⟨(Nat.le_of_ble_eq_true rfl), (Nat.le_of_ble_eq_true rfl)⟩) zgM rfl rfl rfl rfl (Nat.le_of_ble_eq_true rfl) d_law_612 ⟨by show cs + 4 + 0 ≤ 601024; omega, by show sl + 24 + 0 ≤ 7293034; omega⟩ ?_
  rintro v8 σ8 ⟨n, rfl, h1, h2, h3⟩
  refine zb_st (st' := [.int n]) rfl ?_
  refine zb_istore (lv' := [(6, .int n), (5, .int k), (4, .int (nI (5 * j))), (0, .ref b), (1, .ref (zad G 0)), (2, .ref (zad G 30)), (3, .ref (zad G 35))]) d_law_615 (by decide) rfl ?_
  refine zb_aload_n d_law_617 rfl rfl ?_
  refine zb_callV (rest := []) (c_mthrown l G) (lk_La_66.cwT (fun w h => h) rfl rfl ⟨(Nat.le_of_ble_eq_true rfl), (Nat.le_of_ble_eq_true rfl)⟩) zgM rfl rfl rfl rfl (Nat.le_of_ble_eq_true rfl) d_law_618 ⟨by show cs + 4 + 0 + 0 ≤ 601024; omega, by show sl + 24 + 0 + 0 ≤ 7293034; omega⟩ ?_
  rintro _ _ ⟨rfl, rfl⟩
  refine zb_st (st' := [.int k]) (by rw [← h1]; rfl) ?_
  refine zb_iload d_law_621 rfl ?_
  refine zb_icmp_eq (tgt := 628) d_law_623 rfl (fun h623 => ?_) (fun h623 => absurd rfl h623)
  refine zb_iload d_law_628 rfl ?_
  refine zb_if_ne (tgt := 645) d_law_630 rfl (fun hk => ?_) (fun hk => ?_)
  · refine zb_goto (tgt := 1018) d_law_645 rfl ?_
    refine zb_sub [2, 3, 4, 5, 6] rfl ?_
    exact K _ _ σ8 (by omega) (by omega) h2
  · refine zb_aload_n d_law_633 rfl rfl ?_
    refine zb_iconst (v := 0) d_law_634 rfl ?_
    refine zb_laldN d_law_635 ?_
    refine zb_iload d_law_636 rfl ?_
    refine zb_i2l (v := n.toInt64) d_law_638 rfl ?_
    refine zb_lcmp d_law_639 ?_
    refine zb_if_eq (tgt := 645) d_law_640 rfl (fun h640 => ?_) (fun h640 => absurd (by rw [h3 hk]; exact lg_self _) h640)
    refine zb_goto (tgt := 1018) d_law_645 rfl ?_
    refine zb_sub [2, 3, 4, 5, 6] rfl ?_
    exact K _ _ σ8 (by omega) (by omega) h2
set_option maxHeartbeats 4000000 in
set_option maxRecDepth 100000 in
/-- the arm of alter -/
theorem arm_alter (l : Launch) (G : zG) {b L : Nat} {xs : Nat → Int32} {xt : List ExceptionTableEntry} (hl : l.stackTraces = false) (hL : L ≤ 2560) {σ : zS} {M : Nat → Nat → Int32} {w : Nat → Nat} {j cs sl : Nat} (hj : 5 * j + 5 ≤ L) (hcs : cs ≤ 100 + 6 * j) (hsl : sl ≤ 50000 + 36 * j) (hw : zwf σ M w) (hm : zmw σ M w) (K : ∀ (cs' sl' : Nat) (σ' : zS), cs' ≤ 100 + 6 * (j + 1) → sl' ≤ 50000 + 36 * (j + 1) → zJM σ' → zLB l G b L xs xt cs' sl' 1018 [(4, .int (nI (5 * j))), (0, .ref b), (1, .ref (zad G 0)), (2, .ref (zad G 30)), (3, .ref (zad G 35))] [] σ') : zLB l G b L xs xt cs sl 648 [(4, .int (nI (5 * j))), (0, .ref b), (1, .ref (zad G 0)), (2, .ref (zad G 30)), (3, .ref (zad G 35))] [] σ := by
  refine zb_aload_n d_law_648 rfl rfl ?_
  refine zb_aload_n d_law_649 rfl rfl ?_
  refine zb_iload d_law_650 rfl ?_
  refine zb_iconst (v := 1) d_law_652 rfl ?_
  refine zb_iadd d_law_653 ?_
  refine zb_top (y := nI (5 * j + 1)) (nI_add _ _) ?_
  refine zb_sld (j := (5 * j + 1)) d_law_654 (by omega) hL ?_
  refine zb_aload_n d_law_655 rfl rfl ?_
  refine zb_iload d_law_656 rfl ?_
  refine zb_iconst (v := 2) d_law_658 rfl ?_
  refine zb_iadd d_law_659 ?_
  refine zb_top (y := nI (5 * j + 2)) (nI_add _ _) ?_
  refine zb_sld (j := (5 * j + 2)) d_law_660 (by omega) hL ?_
  refine zb_aload_n d_law_661 rfl rfl ?_
  refine zb_iload d_law_662 rfl ?_
  refine zb_iconst (v := 3) d_law_664 rfl ?_
  refine zb_iadd d_law_665 ?_
  refine zb_top (y := nI (5 * j + 3)) (nI_add _ _) ?_
  refine zb_sld (j := (5 * j + 3)) d_law_666 (by omega) hL ?_
  refine zb_aload_n d_law_667 rfl rfl ?_
  refine zb_iload d_law_668 rfl ?_
  refine zb_iconst (v := 4) d_law_670 rfl ?_
  refine zb_iadd d_law_671 ?_
  refine zb_top (y := nI (5 * j + 4)) (nI_add _ _) ?_
  refine zb_sld (j := (5 * j + 4)) d_law_672 (by omega) hL ?_
  refine zb_aload_n d_law_673 rfl rfl ?_
  refine zb_callSW (rest := []) (cw_alter l G (c_alter l G hl hw) (hv_alter M w (xs (5 * j + 1)) (xs (5 * j + 2)) (xs (5 * j + 3)) (xs (5 * j + 4)) σ) (hE_alter M w (xs (5 * j + 1)) (xs (5 * j + 2)) (xs (5 * j + 3)) (xs (5 * j + 4)) σ)) (lkw_alter.cw (fun w h => h) rfl rfl ⟨(Nat.le_of_ble_eq_true rfl), (Nat.le_of_ble_eq_true rfl)⟩) rfl rfl (Nat.le_of_ble_eq_true rfl) d_law_674 ⟨by show cs + 6 ≤ 601024; omega, by show sl + 36 ≤ 7293034; omega⟩ ?_
  rintro v9 σ9 h9
  obtain ⟨k, rfl, hC⟩ := pr_alter (l := l) (G := G) hw hm h9
  refine zb_st (st' := [.int k]) rfl ?_
  refine zb_istore (lv' := [(5, .int k), (4, .int (nI (5 * j))), (0, .ref b), (1, .ref (zad G 0)), (2, .ref (zad G 30)), (3, .ref (zad G 35))]) d_law_677 (by decide) rfl ?_
  refine zb_aload_n d_law_679 rfl rfl ?_
  refine zb_aload_n d_law_680 rfl rfl ?_
  refine zb_iload d_law_681 rfl ?_
  refine zb_iconst (v := 1) d_law_683 rfl ?_
  refine zb_iadd d_law_684 ?_
  refine zb_top (y := nI (5 * j + 1)) (nI_add _ _) ?_
  refine zb_sld (j := (5 * j + 1)) d_law_685 (by omega) hL ?_
  refine zb_aload_n d_law_686 rfl rfl ?_
  refine zb_iload d_law_687 rfl ?_
  refine zb_iconst (v := 2) d_law_689 rfl ?_
  refine zb_iadd d_law_690 ?_
  refine zb_top (y := nI (5 * j + 2)) (nI_add _ _) ?_
  refine zb_sld (j := (5 * j + 2)) d_law_691 (by omega) hL ?_
  refine zb_aload_n d_law_692 rfl rfl ?_
  refine zb_iload d_law_693 rfl ?_
  refine zb_iconst (v := 3) d_law_695 rfl ?_
  refine zb_iadd d_law_696 ?_
  refine zb_top (y := nI (5 * j + 3)) (nI_add _ _) ?_
  refine zb_sld (j := (5 * j + 3)) d_law_697 (by omega) hL ?_
  refine zb_aload_n d_law_698 rfl rfl ?_
  refine zb_iload d_law_699 rfl ?_
  refine zb_iconst (v := 4) d_law_701 rfl ?_
  refine zb_iadd d_law_702 ?_
  refine zb_top (y := nI (5 * j + 4)) (nI_add _ _) ?_
  refine zb_sld (j := (5 * j + 4)) d_law_703 (by omega) hL ?_
  refine zb_callV (rest := []) hC (lk_La_92.cwT (fun w h => h) rfl rfl ⟨(Nat.le_of_ble_eq_true rfl), (Nat.le_of_ble_eq_true rfl)⟩) zgM rfl rfl rfl rfl (Nat.le_of_ble_eq_true rfl) d_law_704 ⟨by show cs + 6 + 0 ≤ 601024; omega, by show sl + 36 + 0 ≤ 7293034; omega⟩ ?_
  rintro v8 σ8 ⟨n, rfl, h1, h2, h3⟩
  refine zb_st (st' := [.int n]) rfl ?_
  refine zb_istore (lv' := [(6, .int n), (5, .int k), (4, .int (nI (5 * j))), (0, .ref b), (1, .ref (zad G 0)), (2, .ref (zad G 30)), (3, .ref (zad G 35))]) d_law_707 (by decide) rfl ?_
  refine zb_aload_n d_law_709 rfl rfl ?_
  refine zb_callV (rest := []) (c_mthrown l G) (lk_La_66.cwT (fun w h => h) rfl rfl ⟨(Nat.le_of_ble_eq_true rfl), (Nat.le_of_ble_eq_true rfl)⟩) zgM rfl rfl rfl rfl (Nat.le_of_ble_eq_true rfl) d_law_710 ⟨by show cs + 6 + 0 + 0 ≤ 601024; omega, by show sl + 36 + 0 + 0 ≤ 7293034; omega⟩ ?_
  rintro _ _ ⟨rfl, rfl⟩
  refine zb_st (st' := [.int k]) (by rw [← h1]; rfl) ?_
  refine zb_iload d_law_713 rfl ?_
  refine zb_icmp_eq (tgt := 720) d_law_715 rfl (fun h715 => ?_) (fun h715 => absurd rfl h715)
  refine zb_iload d_law_720 rfl ?_
  refine zb_if_ne (tgt := 737) d_law_722 rfl (fun hk => ?_) (fun hk => ?_)
  · refine zb_goto (tgt := 1018) d_law_737 rfl ?_
    refine zb_sub [2, 3, 4, 5, 6] rfl ?_
    exact K _ _ σ8 (by omega) (by omega) h2
  · refine zb_aload_n d_law_725 rfl rfl ?_
    refine zb_iconst (v := 0) d_law_726 rfl ?_
    refine zb_laldN d_law_727 ?_
    refine zb_iload d_law_728 rfl ?_
    refine zb_i2l (v := n.toInt64) d_law_730 rfl ?_
    refine zb_lcmp d_law_731 ?_
    refine zb_if_eq (tgt := 737) d_law_732 rfl (fun h732 => ?_) (fun h732 => absurd (by rw [h3 hk]; exact lg_self _) h732)
    refine zb_goto (tgt := 1018) d_law_737 rfl ?_
    refine zb_sub [2, 3, 4, 5, 6] rfl ?_
    exact K _ _ σ8 (by omega) (by omega) h2
set_option maxHeartbeats 4000000 in
set_option maxRecDepth 100000 in
/-- the arm of reach -/
theorem arm_reach (l : Launch) (G : zG) {b L : Nat} {xs : Nat → Int32} {xt : List ExceptionTableEntry} (hl : l.stackTraces = false) (hL : L ≤ 2560) {σ : zS} {M : Nat → Nat → Int32} {w : Nat → Nat} {j cs sl : Nat} (hj : 5 * j + 5 ≤ L) (hcs : cs ≤ 100 + 6 * j) (hsl : sl ≤ 50000 + 36 * j) (hw : zwf σ M w) (hm : zmw σ M w) (K : ∀ (cs' sl' : Nat) (σ' : zS), cs' ≤ 100 + 6 * (j + 1) → sl' ≤ 50000 + 36 * (j + 1) → zJM σ' → zLB l G b L xs xt cs' sl' 1018 [(4, .int (nI (5 * j))), (0, .ref b), (1, .ref (zad G 0)), (2, .ref (zad G 30)), (3, .ref (zad G 35))] [] σ') : zLB l G b L xs xt cs sl 740 [(4, .int (nI (5 * j))), (0, .ref b), (1, .ref (zad G 0)), (2, .ref (zad G 30)), (3, .ref (zad G 35))] [] σ := by
  refine zb_aload_n d_law_740 rfl rfl ?_
  refine zb_aload_n d_law_741 rfl rfl ?_
  refine zb_iload d_law_742 rfl ?_
  refine zb_iconst (v := 1) d_law_744 rfl ?_
  refine zb_iadd d_law_745 ?_
  refine zb_top (y := nI (5 * j + 1)) (nI_add _ _) ?_
  refine zb_sld (j := (5 * j + 1)) d_law_746 (by omega) hL ?_
  refine zb_aload_n d_law_747 rfl rfl ?_
  refine zb_iload d_law_748 rfl ?_
  refine zb_iconst (v := 2) d_law_750 rfl ?_
  refine zb_iadd d_law_751 ?_
  refine zb_top (y := nI (5 * j + 2)) (nI_add _ _) ?_
  refine zb_sld (j := (5 * j + 2)) d_law_752 (by omega) hL ?_
  refine zb_aload_n d_law_753 rfl rfl ?_
  refine zb_callSW (rest := []) (cw_reach l G (c_reach l G hl hw) (hv_reach M w (xs (5 * j + 1)) (xs (5 * j + 2)) σ) (hE_reach M w (xs (5 * j + 1)) (xs (5 * j + 2)) σ)) (lkw_reach.cw (fun w h => h) rfl rfl ⟨(Nat.le_of_ble_eq_true rfl), (Nat.le_of_ble_eq_true rfl)⟩) rfl rfl (Nat.le_of_ble_eq_true rfl) d_law_754 ⟨by show cs + 3 ≤ 601024; omega, by show sl + 18 ≤ 7293034; omega⟩ ?_
  rintro v9 σ9 h9
  obtain ⟨k, rfl, hC⟩ := pr_reach (l := l) (G := G) hw hm h9
  refine zb_st (st' := [.int k]) rfl ?_
  refine zb_istore (lv' := [(5, .int k), (4, .int (nI (5 * j))), (0, .ref b), (1, .ref (zad G 0)), (2, .ref (zad G 30)), (3, .ref (zad G 35))]) d_law_757 (by decide) rfl ?_
  refine zb_aload_n d_law_759 rfl rfl ?_
  refine zb_aload_n d_law_760 rfl rfl ?_
  refine zb_iload d_law_761 rfl ?_
  refine zb_iconst (v := 1) d_law_763 rfl ?_
  refine zb_iadd d_law_764 ?_
  refine zb_top (y := nI (5 * j + 1)) (nI_add _ _) ?_
  refine zb_sld (j := (5 * j + 1)) d_law_765 (by omega) hL ?_
  refine zb_aload_n d_law_766 rfl rfl ?_
  refine zb_iload d_law_767 rfl ?_
  refine zb_iconst (v := 2) d_law_769 rfl ?_
  refine zb_iadd d_law_770 ?_
  refine zb_top (y := nI (5 * j + 2)) (nI_add _ _) ?_
  refine zb_sld (j := (5 * j + 2)) d_law_771 (by omega) hL ?_
  refine zb_callV (rest := []) hC (lk_La_95.cwT (fun w h => h) rfl rfl ⟨(Nat.le_of_ble_eq_true rfl), (Nat.le_of_ble_eq_true rfl)⟩) zgM rfl rfl rfl rfl (Nat.le_of_ble_eq_true rfl) d_law_772 ⟨by show cs + 3 + 0 ≤ 601024; omega, by show sl + 18 + 0 ≤ 7293034; omega⟩ ?_
  rintro v8 σ8 ⟨n, rfl, h1, h2, h3⟩
  refine zb_st (st' := [.int n]) rfl ?_
  refine zb_istore (lv' := [(6, .int n), (5, .int k), (4, .int (nI (5 * j))), (0, .ref b), (1, .ref (zad G 0)), (2, .ref (zad G 30)), (3, .ref (zad G 35))]) d_law_775 (by decide) rfl ?_
  refine zb_aload_n d_law_777 rfl rfl ?_
  refine zb_callV (rest := []) (c_mthrown l G) (lk_La_66.cwT (fun w h => h) rfl rfl ⟨(Nat.le_of_ble_eq_true rfl), (Nat.le_of_ble_eq_true rfl)⟩) zgM rfl rfl rfl rfl (Nat.le_of_ble_eq_true rfl) d_law_778 ⟨by show cs + 3 + 0 + 0 ≤ 601024; omega, by show sl + 18 + 0 + 0 ≤ 7293034; omega⟩ ?_
  rintro _ _ ⟨rfl, rfl⟩
  refine zb_st (st' := [.int k]) (by rw [← h1]; rfl) ?_
  refine zb_iload d_law_781 rfl ?_
  refine zb_icmp_eq (tgt := 788) d_law_783 rfl (fun h783 => ?_) (fun h783 => absurd rfl h783)
  refine zb_iload d_law_788 rfl ?_
  refine zb_if_ne (tgt := 805) d_law_790 rfl (fun hk => ?_) (fun hk => ?_)
  · refine zb_goto (tgt := 1018) d_law_805 rfl ?_
    refine zb_sub [2, 3, 4, 5, 6] rfl ?_
    exact K _ _ σ8 (by omega) (by omega) h2
  · refine zb_aload_n d_law_793 rfl rfl ?_
    refine zb_iconst (v := 0) d_law_794 rfl ?_
    refine zb_laldN d_law_795 ?_
    refine zb_iload d_law_796 rfl ?_
    refine zb_i2l (v := n.toInt64) d_law_798 rfl ?_
    refine zb_lcmp d_law_799 ?_
    refine zb_if_eq (tgt := 805) d_law_800 rfl (fun h800 => ?_) (fun h800 => absurd (by rw [h3 hk]; exact lg_self _) h800)
    refine zb_goto (tgt := 1018) d_law_805 rfl ?_
    refine zb_sub [2, 3, 4, 5, 6] rfl ?_
    exact K _ _ σ8 (by omega) (by omega) h2
set_option maxHeartbeats 4000000 in
set_option maxRecDepth 100000 in
/-- the arm of turn -/
theorem arm_turn (l : Launch) (G : zG) {b L : Nat} {xs : Nat → Int32} {xt : List ExceptionTableEntry} (hl : l.stackTraces = false) (hL : L ≤ 2560) {σ : zS} {M : Nat → Nat → Int32} {w : Nat → Nat} {j cs sl : Nat} (hj : 5 * j + 5 ≤ L) (hcs : cs ≤ 100 + 6 * j) (hsl : sl ≤ 50000 + 36 * j) (hw : zwf σ M w) (hm : zmw σ M w) (K : ∀ (cs' sl' : Nat) (σ' : zS), cs' ≤ 100 + 6 * (j + 1) → sl' ≤ 50000 + 36 * (j + 1) → zJM σ' → zLB l G b L xs xt cs' sl' 1018 [(4, .int (nI (5 * j))), (0, .ref b), (1, .ref (zad G 0)), (2, .ref (zad G 30)), (3, .ref (zad G 35))] [] σ') : zLB l G b L xs xt cs sl 808 [(4, .int (nI (5 * j))), (0, .ref b), (1, .ref (zad G 0)), (2, .ref (zad G 30)), (3, .ref (zad G 35))] [] σ := by
  refine zb_aload_n d_law_808 rfl rfl ?_
  refine zb_aload_n d_law_809 rfl rfl ?_
  refine zb_iload d_law_810 rfl ?_
  refine zb_iconst (v := 1) d_law_812 rfl ?_
  refine zb_iadd d_law_813 ?_
  refine zb_top (y := nI (5 * j + 1)) (nI_add _ _) ?_
  refine zb_sld (j := (5 * j + 1)) d_law_814 (by omega) hL ?_
  refine zb_aload_n d_law_815 rfl rfl ?_
  refine zb_iload d_law_816 rfl ?_
  refine zb_iconst (v := 2) d_law_818 rfl ?_
  refine zb_iadd d_law_819 ?_
  refine zb_top (y := nI (5 * j + 2)) (nI_add _ _) ?_
  refine zb_sld (j := (5 * j + 2)) d_law_820 (by omega) hL ?_
  refine zb_aload_n d_law_821 rfl rfl ?_
  refine zb_callSW (rest := []) (cw_turn l G (c_turn l G hl hw) (hv_turn M w (xs (5 * j + 1)) (xs (5 * j + 2)) σ) (hE_turn M w (xs (5 * j + 1)) (xs (5 * j + 2)) σ)) (lkw_turn.cw (fun w h => h) rfl rfl ⟨(Nat.le_of_ble_eq_true rfl), (Nat.le_of_ble_eq_true rfl)⟩) rfl rfl (Nat.le_of_ble_eq_true rfl) d_law_822 ⟨by show cs + 2 ≤ 601024; omega, by show sl + 12 ≤ 7293034; omega⟩ ?_
  rintro v9 σ9 h9
  obtain ⟨k, rfl, hC⟩ := pr_turn (l := l) (G := G) hw hm h9
  refine zb_st (st' := [.int k]) rfl ?_
  refine zb_istore (lv' := [(5, .int k), (4, .int (nI (5 * j))), (0, .ref b), (1, .ref (zad G 0)), (2, .ref (zad G 30)), (3, .ref (zad G 35))]) d_law_825 (by decide) rfl ?_
  refine zb_aload_n d_law_827 rfl rfl ?_
  refine zb_aload_n d_law_828 rfl rfl ?_
  refine zb_iload d_law_829 rfl ?_
  refine zb_iconst (v := 1) d_law_831 rfl ?_
  refine zb_iadd d_law_832 ?_
  refine zb_top (y := nI (5 * j + 1)) (nI_add _ _) ?_
  refine zb_sld (j := (5 * j + 1)) d_law_833 (by omega) hL ?_
  refine zb_aload_n d_law_834 rfl rfl ?_
  refine zb_iload d_law_835 rfl ?_
  refine zb_iconst (v := 2) d_law_837 rfl ?_
  refine zb_iadd d_law_838 ?_
  refine zb_top (y := nI (5 * j + 2)) (nI_add _ _) ?_
  refine zb_sld (j := (5 * j + 2)) d_law_839 (by omega) hL ?_
  refine zb_callV (rest := []) hC (lk_La_98.cwT (fun w h => h) rfl rfl ⟨(Nat.le_of_ble_eq_true rfl), (Nat.le_of_ble_eq_true rfl)⟩) zgM rfl rfl rfl rfl (Nat.le_of_ble_eq_true rfl) d_law_840 ⟨by show cs + 2 + 0 ≤ 601024; omega, by show sl + 12 + 0 ≤ 7293034; omega⟩ ?_
  rintro v8 σ8 ⟨n, rfl, h1, h2, h3⟩
  refine zb_st (st' := [.int n]) rfl ?_
  refine zb_istore (lv' := [(6, .int n), (5, .int k), (4, .int (nI (5 * j))), (0, .ref b), (1, .ref (zad G 0)), (2, .ref (zad G 30)), (3, .ref (zad G 35))]) d_law_843 (by decide) rfl ?_
  refine zb_aload_n d_law_845 rfl rfl ?_
  refine zb_callV (rest := []) (c_mthrown l G) (lk_La_66.cwT (fun w h => h) rfl rfl ⟨(Nat.le_of_ble_eq_true rfl), (Nat.le_of_ble_eq_true rfl)⟩) zgM rfl rfl rfl rfl (Nat.le_of_ble_eq_true rfl) d_law_846 ⟨by show cs + 2 + 0 + 0 ≤ 601024; omega, by show sl + 12 + 0 + 0 ≤ 7293034; omega⟩ ?_
  rintro _ _ ⟨rfl, rfl⟩
  refine zb_st (st' := [.int k]) (by rw [← h1]; rfl) ?_
  refine zb_iload d_law_849 rfl ?_
  refine zb_icmp_eq (tgt := 856) d_law_851 rfl (fun h851 => ?_) (fun h851 => absurd rfl h851)
  refine zb_iload d_law_856 rfl ?_
  refine zb_if_ne (tgt := 873) d_law_858 rfl (fun hk => ?_) (fun hk => ?_)
  · refine zb_goto (tgt := 1018) d_law_873 rfl ?_
    refine zb_sub [2, 3, 4, 5, 6] rfl ?_
    exact K _ _ σ8 (by omega) (by omega) h2
  · refine zb_aload_n d_law_861 rfl rfl ?_
    refine zb_iconst (v := 0) d_law_862 rfl ?_
    refine zb_laldN d_law_863 ?_
    refine zb_iload d_law_864 rfl ?_
    refine zb_i2l (v := n.toInt64) d_law_866 rfl ?_
    refine zb_lcmp d_law_867 ?_
    refine zb_if_eq (tgt := 873) d_law_868 rfl (fun h868 => ?_) (fun h868 => absurd (by rw [h3 hk]; exact lg_self _) h868)
    refine zb_goto (tgt := 1018) d_law_873 rfl ?_
    refine zb_sub [2, 3, 4, 5, 6] rfl ?_
    exact K _ _ σ8 (by omega) (by omega) h2
set_option maxHeartbeats 4000000 in
set_option maxRecDepth 100000 in
/-- the arm of about -/
theorem arm_about (l : Launch) (G : zG) {b L : Nat} {xs : Nat → Int32} {xt : List ExceptionTableEntry} (hl : l.stackTraces = false) (hL : L ≤ 2560) {σ : zS} {M : Nat → Nat → Int32} {w : Nat → Nat} {j cs sl : Nat} (hj : 5 * j + 5 ≤ L) (hcs : cs ≤ 100 + 6 * j) (hsl : sl ≤ 50000 + 36 * j) (hw : zwf σ M w) (hm : zmw σ M w) (K : ∀ (cs' sl' : Nat) (σ' : zS), cs' ≤ 100 + 6 * (j + 1) → sl' ≤ 50000 + 36 * (j + 1) → zJM σ' → zLB l G b L xs xt cs' sl' 1018 [(4, .int (nI (5 * j))), (0, .ref b), (1, .ref (zad G 0)), (2, .ref (zad G 30)), (3, .ref (zad G 35))] [] σ') : zLB l G b L xs xt cs sl 876 [(4, .int (nI (5 * j))), (0, .ref b), (1, .ref (zad G 0)), (2, .ref (zad G 30)), (3, .ref (zad G 35))] [] σ := by
  refine zb_aload_n d_law_876 rfl rfl ?_
  refine zb_aload_n d_law_877 rfl rfl ?_
  refine zb_iload d_law_878 rfl ?_
  refine zb_iconst (v := 1) d_law_880 rfl ?_
  refine zb_iadd d_law_881 ?_
  refine zb_top (y := nI (5 * j + 1)) (nI_add _ _) ?_
  refine zb_sld (j := (5 * j + 1)) d_law_882 (by omega) hL ?_
  refine zb_aload_n d_law_883 rfl rfl ?_
  refine zb_iload d_law_884 rfl ?_
  refine zb_iconst (v := 2) d_law_886 rfl ?_
  refine zb_iadd d_law_887 ?_
  refine zb_top (y := nI (5 * j + 2)) (nI_add _ _) ?_
  refine zb_sld (j := (5 * j + 2)) d_law_888 (by omega) hL ?_
  refine zb_aload_n d_law_889 rfl rfl ?_
  refine zb_callSW (rest := []) (cw_about l G (c_about l G hl hw) (hv_about M w (xs (5 * j + 1)) (xs (5 * j + 2)) σ) (hE_about M w (xs (5 * j + 1)) (xs (5 * j + 2)) σ)) (lkw_about.cw (fun w h => h) rfl rfl ⟨(Nat.le_of_ble_eq_true rfl), (Nat.le_of_ble_eq_true rfl)⟩) rfl rfl (Nat.le_of_ble_eq_true rfl) d_law_890 ⟨by show cs + 2 ≤ 601024; omega, by show sl + 12 ≤ 7293034; omega⟩ ?_
  rintro v9 σ9 h9
  obtain ⟨k, rfl, hC⟩ := pr_about (l := l) (G := G) hw hm h9
  refine zb_st (st' := [.int k]) rfl ?_
  refine zb_istore (lv' := [(5, .int k), (4, .int (nI (5 * j))), (0, .ref b), (1, .ref (zad G 0)), (2, .ref (zad G 30)), (3, .ref (zad G 35))]) d_law_893 (by decide) rfl ?_
  refine zb_aload_n d_law_895 rfl rfl ?_
  refine zb_aload_n d_law_896 rfl rfl ?_
  refine zb_iload d_law_897 rfl ?_
  refine zb_iconst (v := 1) d_law_899 rfl ?_
  refine zb_iadd d_law_900 ?_
  refine zb_top (y := nI (5 * j + 1)) (nI_add _ _) ?_
  refine zb_sld (j := (5 * j + 1)) d_law_901 (by omega) hL ?_
  refine zb_aload_n d_law_902 rfl rfl ?_
  refine zb_iload d_law_903 rfl ?_
  refine zb_iconst (v := 2) d_law_905 rfl ?_
  refine zb_iadd d_law_906 ?_
  refine zb_top (y := nI (5 * j + 2)) (nI_add _ _) ?_
  refine zb_sld (j := (5 * j + 2)) d_law_907 (by omega) hL ?_
  refine zb_callV (rest := []) hC (lk_La_101.cwT (fun w h => h) rfl rfl ⟨(Nat.le_of_ble_eq_true rfl), (Nat.le_of_ble_eq_true rfl)⟩) zgM rfl rfl rfl rfl (Nat.le_of_ble_eq_true rfl) d_law_908 ⟨by show cs + 2 + 0 ≤ 601024; omega, by show sl + 12 + 0 ≤ 7293034; omega⟩ ?_
  rintro v8 σ8 ⟨n, rfl, h1, h2, h3⟩
  refine zb_st (st' := [.long n]) rfl ?_
  refine zb_lstore (lv' := [(6, .long n), (5, .int k), (4, .int (nI (5 * j))), (0, .ref b), (1, .ref (zad G 0)), (2, .ref (zad G 30)), (3, .ref (zad G 35))]) d_law_911 (by decide) rfl ?_
  refine zb_aload_n d_law_913 rfl rfl ?_
  refine zb_callV (rest := []) (c_mthrown l G) (lk_La_66.cwT (fun w h => h) rfl rfl ⟨(Nat.le_of_ble_eq_true rfl), (Nat.le_of_ble_eq_true rfl)⟩) zgM rfl rfl rfl rfl (Nat.le_of_ble_eq_true rfl) d_law_914 ⟨by show cs + 2 + 0 + 0 ≤ 601024; omega, by show sl + 12 + 0 + 0 ≤ 7293034; omega⟩ ?_
  rintro _ _ ⟨rfl, rfl⟩
  refine zb_st (st' := [.int k]) (by rw [← h1]; rfl) ?_
  refine zb_iload d_law_917 rfl ?_
  refine zb_icmp_eq (tgt := 924) d_law_919 rfl (fun h919 => ?_) (fun h919 => absurd rfl h919)
  refine zb_iload d_law_924 rfl ?_
  refine zb_if_ne (tgt := 940) d_law_926 rfl (fun hk => ?_) (fun hk => ?_)
  · refine zb_goto (tgt := 1018) d_law_940 rfl ?_
    refine zb_sub [2, 3, 4, 5, 6] rfl ?_
    exact K _ _ σ8 (by omega) (by omega) h2
  · refine zb_aload_n d_law_929 rfl rfl ?_
    refine zb_iconst (v := 0) d_law_930 rfl ?_
    refine zb_laldN d_law_931 ?_
    refine zb_lload d_law_932 rfl ?_
    refine zb_lcmp d_law_934 ?_
    refine zb_if_eq (tgt := 940) d_law_935 rfl (fun h935 => ?_) (fun h935 => absurd (by rw [h3 hk]; exact lg_self _) h935)
    refine zb_goto (tgt := 1018) d_law_940 rfl ?_
    refine zb_sub [2, 3, 4, 5, 6] rfl ?_
    exact K _ _ σ8 (by omega) (by omega) h2
set_option maxHeartbeats 4000000 in
set_option maxRecDepth 100000 in
/-- the arm of same -/
theorem arm_same (l : Launch) (G : zG) {b L : Nat} {xs : Nat → Int32} {xt : List ExceptionTableEntry} (hl : l.stackTraces = false) (hL : L ≤ 2560) {σ : zS} {M : Nat → Nat → Int32} {w : Nat → Nat} {j cs sl : Nat} (hj : 5 * j + 5 ≤ L) (hcs : cs ≤ 100 + 6 * j) (hsl : sl ≤ 50000 + 36 * j) (hw : zwf σ M w) (hm : zmw σ M w) (K : ∀ (cs' sl' : Nat) (σ' : zS), cs' ≤ 100 + 6 * (j + 1) → sl' ≤ 50000 + 36 * (j + 1) → zJM σ' → zLB l G b L xs xt cs' sl' 1018 [(4, .int (nI (5 * j))), (0, .ref b), (1, .ref (zad G 0)), (2, .ref (zad G 30)), (3, .ref (zad G 35))] [] σ') : zLB l G b L xs xt cs sl 943 [(4, .int (nI (5 * j))), (0, .ref b), (1, .ref (zad G 0)), (2, .ref (zad G 30)), (3, .ref (zad G 35))] [] σ := by
  refine zb_aload_n d_law_943 rfl rfl ?_
  refine zb_aload_n d_law_944 rfl rfl ?_
  refine zb_iload d_law_945 rfl ?_
  refine zb_iconst (v := 1) d_law_947 rfl ?_
  refine zb_iadd d_law_948 ?_
  refine zb_top (y := nI (5 * j + 1)) (nI_add _ _) ?_
  refine zb_sld (j := (5 * j + 1)) d_law_949 (by omega) hL ?_
  refine zb_aload_n d_law_950 rfl rfl ?_
  refine zb_iload d_law_951 rfl ?_
  refine zb_iconst (v := 2) d_law_953 rfl ?_
  refine zb_iadd d_law_954 ?_
  refine zb_top (y := nI (5 * j + 2)) (nI_add _ _) ?_
  refine zb_sld (j := (5 * j + 2)) d_law_955 (by omega) hL ?_
  refine zb_aload_n d_law_956 rfl rfl ?_
  refine zb_callSW (rest := []) (cw_same l G (c_same l G hl hw) (hv_same M w (xs (5 * j + 1)) (xs (5 * j + 2)) σ) (hE_same M w (xs (5 * j + 1)) (xs (5 * j + 2)) σ)) (lkw_same.cw (fun w h => h) rfl rfl ⟨(Nat.le_of_ble_eq_true rfl), (Nat.le_of_ble_eq_true rfl)⟩) rfl rfl (Nat.le_of_ble_eq_true rfl) d_law_957 ⟨by show cs + 2 ≤ 601024; omega, by show sl + 12 ≤ 7293034; omega⟩ ?_
  rintro v9 σ9 h9
  obtain ⟨k, rfl, hC⟩ := pr_same (l := l) (G := G) hw hm h9
  refine zb_st (st' := [.int k]) rfl ?_
  refine zb_istore (lv' := [(5, .int k), (4, .int (nI (5 * j))), (0, .ref b), (1, .ref (zad G 0)), (2, .ref (zad G 30)), (3, .ref (zad G 35))]) d_law_960 (by decide) rfl ?_
  refine zb_aload_n d_law_962 rfl rfl ?_
  refine zb_aload_n d_law_963 rfl rfl ?_
  refine zb_iload d_law_964 rfl ?_
  refine zb_iconst (v := 1) d_law_966 rfl ?_
  refine zb_iadd d_law_967 ?_
  refine zb_top (y := nI (5 * j + 1)) (nI_add _ _) ?_
  refine zb_sld (j := (5 * j + 1)) d_law_968 (by omega) hL ?_
  refine zb_aload_n d_law_969 rfl rfl ?_
  refine zb_iload d_law_970 rfl ?_
  refine zb_iconst (v := 2) d_law_972 rfl ?_
  refine zb_iadd d_law_973 ?_
  refine zb_top (y := nI (5 * j + 2)) (nI_add _ _) ?_
  refine zb_sld (j := (5 * j + 2)) d_law_974 (by omega) hL ?_
  refine zb_callV (rest := []) hC (lk_La_104.cwT (fun w h => h) rfl rfl ⟨(Nat.le_of_ble_eq_true rfl), (Nat.le_of_ble_eq_true rfl)⟩) zgM rfl rfl rfl rfl (Nat.le_of_ble_eq_true rfl) d_law_975 ⟨by show cs + 2 + 0 ≤ 601024; omega, by show sl + 12 + 0 ≤ 7293034; omega⟩ ?_
  rintro v8 σ8 ⟨n, rfl, h1, h2, h3⟩
  refine zb_st (st' := [.int n]) rfl ?_
  refine zb_istore (lv' := [(6, .int n), (5, .int k), (4, .int (nI (5 * j))), (0, .ref b), (1, .ref (zad G 0)), (2, .ref (zad G 30)), (3, .ref (zad G 35))]) d_law_978 (by decide) rfl ?_
  refine zb_aload_n d_law_980 rfl rfl ?_
  refine zb_callV (rest := []) (c_mthrown l G) (lk_La_66.cwT (fun w h => h) rfl rfl ⟨(Nat.le_of_ble_eq_true rfl), (Nat.le_of_ble_eq_true rfl)⟩) zgM rfl rfl rfl rfl (Nat.le_of_ble_eq_true rfl) d_law_981 ⟨by show cs + 2 + 0 + 0 ≤ 601024; omega, by show sl + 12 + 0 + 0 ≤ 7293034; omega⟩ ?_
  rintro _ _ ⟨rfl, rfl⟩
  refine zb_st (st' := [.int k]) (by rw [← h1]; rfl) ?_
  refine zb_iload d_law_984 rfl ?_
  refine zb_icmp_eq (tgt := 991) d_law_986 rfl (fun h986 => ?_) (fun h986 => absurd rfl h986)
  refine zb_iload d_law_991 rfl ?_
  refine zb_if_ne (tgt := 1015) d_law_993 rfl (fun hk => ?_) (fun hk => ?_)
  · refine zb_goto (tgt := 1018) d_law_1015 rfl ?_
    refine zb_sub [2, 3, 4, 5, 6] rfl ?_
    exact K _ _ σ8 (by omega) (by omega) h2
  · refine zb_aload_n d_law_996 rfl rfl ?_
    refine zb_iconst (v := 0) d_law_997 rfl ?_
    refine zb_laldN d_law_998 ?_
    refine zb_iload d_law_999 rfl ?_
    refine zb_if_eq (tgt := 1008) d_law_1001 rfl (fun hn => ?_) (fun hn => ?_)
    · refine zb_lconst (v := 0) d_law_1008 rfl ?_
      refine zb_lcmp d_law_1009 ?_
      refine zb_if_eq (tgt := 1015) d_law_1010 rfl (fun h1010 => ?_) (fun h1010 => absurd (by rw [h3 hk, if_pos hn]; exact lg_self _) h1010)
      refine zb_goto (tgt := 1018) d_law_1015 rfl ?_
      refine zb_sub [2, 3, 4, 5, 6] rfl ?_
      exact K _ _ σ8 (by omega) (by omega) h2
    · refine zb_lconst (v := 1) d_law_1004 rfl ?_
      refine zb_goto (tgt := 1009) d_law_1005 rfl ?_
      refine zb_lcmp d_law_1009 ?_
      refine zb_if_eq (tgt := 1015) d_law_1010 rfl (fun h1010 => ?_) (fun h1010 => absurd (by rw [h3 hk, if_neg hn]; exact lg_self _) h1010)
      refine zb_goto (tgt := 1018) d_law_1015 rfl ?_
      refine zb_sub [2, 3, 4, 5, 6] rfl ?_
      exact K _ _ σ8 (by omega) (by omega) h2
set_option maxHeartbeats 4000000 in
set_option maxRecDepth 100000 in
/-- the law's loop -/
theorem lp_law (l : Launch) (G : zG) {b L : Nat} {xs : Nat → Int32} {xt : List ExceptionTableEntry} (hl : l.stackTraces = false) (hL : L ≤ 2560) : ∀ (N j cs sl : Nat) (σ : zS), L < 5 * j + 5 * N → j ≤ 513 → cs ≤ 100 + 6 * j → sl ≤ 50000 + 36 * j → zJM σ → zLB l G b L xs xt cs sl 23 [(4, .int (nI (5 * j))), (0, .ref b), (1, .ref (zad G 0)), (2, .ref (zad G 30)), (3, .ref (zad G 35))] [] σ := by
  intro N
  induction N with
  | zero =>
    intro j cs sl σ hN hj5 hcs hsl hJ
    refine zb_iload d_law_23 rfl ?_
    refine zb_aload_n d_law_25 rfl rfl ?_
    refine zb_slen d_law_26 ?_
    refine zb_iconst (v := 5) d_law_27 rfl ?_
    refine zb_isub d_law_28 ?_
    refine zb_icmp_gt (tgt := 1024) d_law_29 rfl (fun h29 => ?_) (fun h29 => absurd ((law_cmp (show L < 2 ^ 30 by omega) (show 5 * j < 2 ^ 30 by omega)).mpr (by omega)) h29)
    refine zb_iconst (v := 1) d_law_1024 rfl ?_
    exact zb_end d_law_1025 (by omega) (by omega)
  | succ N ih =>
    intro j cs sl σ hN hj5 hcs hsl hJ
    refine zb_iload d_law_23 rfl ?_
    refine zb_aload_n d_law_25 rfl rfl ?_
    refine zb_slen d_law_26 ?_
    refine zb_iconst (v := 5) d_law_27 rfl ?_
    refine zb_isub d_law_28 ?_
    refine zb_icmp_gt (tgt := 1024) d_law_29 rfl (fun h29 => ?_) (fun h29 => ?_)
    · refine zb_iconst (v := 1) d_law_1024 rfl ?_
      exact zb_end d_law_1025 (by omega) (by omega)
    · have hj : 5 * j + 5 ≤ L := by
        have := (law_cmp (show L < 2 ^ 30 by omega) (show 5 * j < 2 ^ 30 by omega)).mpr
        exact Nat.not_lt.mp (fun z => h29 (this z))
      obtain ⟨M, w, hw, hm⟩ := hJ
      refine zb_aload_n d_law_32 rfl rfl ?_
      refine zb_iload d_law_33 rfl ?_
      refine zb_sld (j := (5 * j)) d_law_35 (by omega) hL ?_
      refine zb_bipush (v := 15) d_law_36 rfl ?_
      refine zb_iand d_law_38 ?_
      obtain ⟨k, hk, e15⟩ := and15 (xs (5 * j))
      refine zb_top (y := nI k) e15 ?_
      have K : ∀ (cs' sl' : Nat) (σ' : zS), cs' ≤ 100 + 6 * (j + 1) → sl' ≤ 50000 + 36 * (j + 1) → zJM σ' → zLB l G b L xs xt cs' sl' 1018 [(4, .int (nI (5 * j))), (0, .ref b), (1, .ref (zad G 0)), (2, .ref (zad G 30)), (3, .ref (zad G 35))] [] σ' := by
        intro cs' sl' σ' h1 h2 h3
        refine zb_iinc (v := nI (5 * (j + 1))) (lv' := [(4, .int (nI (5 * (j + 1)))), (0, .ref b), (1, .ref (zad G 0)), (2, .ref (zad G 30)), (3, .ref (zad G 35))]) d_law_1018 rfl (by show nI (5 * j) + nI 5 = _; rw [nI_add]; rfl) (by decide) rfl ?_
        refine zb_goto (tgt := 23) d_law_1021 rfl ?_
        refine zb_sub [0, 1, 2, 3, 4] rfl ?_
        exact ih (j + 1) cs' sl' σ' (by omega) (by omega) h1 h2 h3
      rcases (show k = 0 ∨ k = 1 ∨ k = 2 ∨ k = 3 ∨ k = 4 ∨ k = 5 ∨ k = 6 ∨ k = 7 ∨ k = 8 ∨ k = 9 ∨ k = 10 ∨ k = 11 ∨ 12 ≤ k by omega) with rfl | rfl | rfl | rfl | rfl | rfl | rfl | rfl | rfl | rfl | rfl | rfl | h12
      · refine zb_tableIn (tgt := 100) d_law_39 (by decide) (by decide) rfl rfl ?_
        exact arm_width l G hl hL (by omega) hcs hsl hw hm K
      · refine zb_tableIn (tgt := 168) d_law_39 (by decide) (by decide) rfl rfl ?_
        exact arm_put l G hl hL (by omega) hcs hsl hw hm K
      · refine zb_tableIn (tgt := 248) d_law_39 (by decide) (by decide) rfl rfl ?_
        exact arm_count l G hl hL (by omega) hcs hsl hw hm K
      · refine zb_tableIn (tgt := 316) d_law_39 (by decide) (by decide) rfl rfl ?_
        exact arm_at l G hl hL (by omega) hcs hsl hw hm K
      · refine zb_tableIn (tgt := 384) d_law_39 (by decide) (by decide) rfl rfl ?_
        exact arm_join l G hl hL (by omega) hcs hsl hw hm K
      · refine zb_tableIn (tgt := 476) d_law_39 (by decide) (by decide) rfl rfl ?_
        exact arm_narrow l G hl hL (by omega) hcs hsl hw hm K
      · refine zb_tableIn (tgt := 556) d_law_39 (by decide) (by decide) rfl rfl ?_
        exact arm_pick l G hl hL (by omega) hcs hsl hw hm K
      · refine zb_tableIn (tgt := 648) d_law_39 (by decide) (by decide) rfl rfl ?_
        exact arm_alter l G hl hL (by omega) hcs hsl hw hm K
      · refine zb_tableIn (tgt := 740) d_law_39 (by decide) (by decide) rfl rfl ?_
        exact arm_reach l G hl hL (by omega) hcs hsl hw hm K
      · refine zb_tableIn (tgt := 808) d_law_39 (by decide) (by decide) rfl rfl ?_
        exact arm_turn l G hl hL (by omega) hcs hsl hw hm K
      · refine zb_tableIn (tgt := 876) d_law_39 (by decide) (by decide) rfl rfl ?_
        exact arm_about l G hl hL (by omega) hcs hsl hw hm K
      · refine zb_tableIn (tgt := 943) d_law_39 (by decide) (by decide) rfl rfl ?_
        exact arm_same l G hl hL (by omega) hcs hsl hw hm K
      · refine zb_tableOut (tgt := 1018) d_law_39 (Or.inr (by rw [nI_toInt (by omega)]; omega)) rfl ?_
        exact K cs sl σ (by omega) (by omega) ⟨M, w, hw, hm⟩
