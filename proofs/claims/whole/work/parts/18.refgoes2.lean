/-! ===== the reference's year, to its end ===== -/
def ng_hsK (k : Nat) : Prop := 24 ≤ k ∧ k < 56 ∧ k % 4 = 0
theorem ng_hs_step {a : ng_R} {t on : Int32} {cm : Nat → Bool} {i : Nat} (hb : ng_bd a) (hi : i < 8) (h0 : 0 ≤ on.toInt) : ng_hs (ng_ybo a t cm) on (fun j => a (24 + 4 * j)) (i + 1) i = ng_min 9999 (a (24 + 4 * i) + ng_ybo a t cm i (ng_lf (ng_ybo a t cm) on i)) := by
  have l1 := ng_lf_bd (t := t) (cm := cm) hb h0 i (by omega)
  have q := ng_ybo_bd (t := t) (cm := cm) hb hi l1.1
  have h := (hb.2.1 i hi).2.2.2
  rw [ng_hs, if_pos (by omega)]
  by_cases c : ng_ybo a t cm i (ng_lf (ng_ybo a t cm) on i) ≤ 0
  · rw [if_pos c]
    rw [ng_le, ng_0] at c
    apply ng_i_eq
    rw [ng_minI, ng_addI (by omega) (by omega), ng_9999]
    omega
  · rw [if_neg c]
/-- the row while HAS is brought up to date -/
def ng_r2 (a : ng_R) (t b : Int32) (dr : Bool) (n i : Nat) : ng_R := fun k => if 24 ≤ k ∧ k < 56 ∧ k % 4 = 0 then ng_hs (ng_ybo a t (ng_cf a dr)) (ng_yon a b) (fun j => a (24 + 4 * j)) i ((k - 24) / 4) else ng_rz a dr n k
theorem ng_r2_ne {a : ng_R} {t b : Int32} {dr : Bool} {n i k : Nat} (h : ¬ (24 ≤ k ∧ k < 56 ∧ k % 4 = 0)) (h10 : k ≠ 10) : ng_r2 a t b dr n i k = a k := by rw [ng_r2, if_neg h, ng_rz_ne h10]
theorem ng_r2_0 {a : ng_R} {t b : Int32} {dr : Bool} {n : Nat} : ng_r2 a t b dr n 0 = ng_rz a dr n := by
  funext k
  by_cases h : 24 ≤ k ∧ k < 56 ∧ k % 4 = 0
  · rw [ng_r2, if_pos h, ng_hs, if_neg (by omega), ng_rz_ne (by omega), show 24 + 4 * ((k - 24) / 4) = k by omega]
  · rw [ng_r2, if_neg h]
theorem ng_r2_s {a : ng_R} {t b : Int32} {dr : Bool} {n i : Nat} (hb : ng_bd a) (hi : i < 8) (h0 : 0 ≤ (ng_yon a b).toInt) : upd (ng_r2 a t b dr n i) (24 + 4 * i) (ng_min 9999 (ng_r2 a t b dr n i (24 + 4 * i) + ng_ybo a t (ng_cf a dr) i (ng_lf (ng_ybo a t (ng_cf a dr)) (ng_yon a b) i))) = ng_r2 a t b dr n (i + 1) := by
  have e0 : ng_r2 a t b dr n i (24 + 4 * i) = a (24 + 4 * i) := by
    rw [ng_r2, if_pos (by omega), show (24 + 4 * i - 24) / 4 = i by omega, ng_hs, if_neg (by omega)]
  rw [e0, ← ng_hs_step hb hi h0]
  funext k
  by_cases e : k = 24 + 4 * i
  · subst e
    rw [ng_upd_eq, ng_r2, if_pos (by omega), show (24 + 4 * i - 24) / 4 = i by omega]
  · rw [ng_upd_ne e]
    by_cases h : 24 ≤ k ∧ k < 56 ∧ k % 4 = 0
    · rw [ng_r2, if_pos h, ng_r2, if_pos h]
      by_cases q : (k - 24) / 4 < i
      · simp [ng_hs, q, show (k - 24) / 4 < i + 1 by omega]
      · simp [ng_hs, q, show ¬ (k - 24) / 4 < i + 1 by omega]
    · rw [ng_r2, if_neg h, ng_r2, if_neg h]
/-- the year's new row -/
def ng_yz (a : ng_R) (t b : Int32) (dr : Bool) : ng_R := fun k => if k = 10 then ng_rz a dr (ng_yn a) 10 else ng_yr a t b (ng_cf a dr) k
def ng_refyear (M : ng_M) (t b : Int32) (dr : Bool) (v : Int32) (M' : ng_M) : Prop := v = ng_ysd (M 74) t b (ng_cf (M 74) dr) ∧ M' 74 = ng_yz (M 74) t b dr ∧ ng_off [74, 81, 82, 83] M M' ∧ ∀ j, j < ng_yn (M 74) → M' 83 j = ng_ybo (M 74) t (ng_cf (M 74) dr) j (ng_lf (ng_ybo (M 74) t (ng_cf (M 74) dr)) (ng_yon (M 74) b) j)
/-- the purse at the year's end -/
theorem ng_pu_end {a : ng_R} {t b : Int32} {cm : Nat → Bool} {pu A7 A4 : Int64} (hb : ng_bd a) (ht : vp_in t 10) (hb0 : 0 ≤ b.toInt) (hb1 : b.toInt ≤ 99) (hn8 : ng_yn a ≤ 8) (hpu : pu.toInt = (a 6).toInt + (ng_pd (ng_ybo a t cm) (ng_ydu a t) (ng_yon a b) (ng_yn a)).toInt) (e7 : A7.toInt = (a 7).toInt) (e4 : A4.toInt = (a 4).toInt) :
    (if (if pu - A7 * A4 < (99999999 : Int64) then pu - A7 * A4 else 99999999) < (-99999999 : Int64) then (-99999999 : Int64) else (if pu - A7 * A4 < (99999999 : Int64) then pu - A7 * A4 else 99999999)).toInt32 = ng_ypu a t b cm := by
  have hon := (ng_yon_bd hb hb0 hb1).1
  have hon0 : 0 ≤ (ng_yon a b).toInt := by omega
  have pd0 := (ng_pd_bd (cm := cm) hb hon0 ht (ng_yn a) hn8).1
  obtain ⟨-, -, -, -, g4, -, g6, g7⟩ := id hb
  have mb := ng_mul_bd g7.1 g7.2 g4.1 g4.2 (by decide)
  have em : (A7 * A4).toInt = (a 7).toInt * (a 4).toInt := by rw [ng_mulL (by rw [e7, e4]; omega) (by rw [e7, e4]; omega), e7, e4]
  have es : (pu - A7 * A4).toInt = pu.toInt - (a 7).toInt * (a 4).toInt := by rw [ng_subL (by rw [em, hpu]; omega) (by rw [em, hpu]; omega), em]
  have k1 : (99999999 : Int64).toInt = 99999999 := by decide
  have k2 : (-99999999 : Int64).toInt = -99999999 := by decide
  have i1 : (99999999 : Int32).toInt = 99999999 := by decide
  have i2 : (-99999999 : Int32).toInt = -99999999 := by decide
  have em3 : (a 7 * a 4).toInt = (a 7).toInt * (a 4).toInt := ng_mulI (by omega) (by omega)
  have ea3 : (a 6 + ng_pd (ng_ybo a t cm) (ng_ydu a t) (ng_yon a b) (ng_yn a)).toInt = (a 6).toInt + (ng_pd (ng_ybo a t cm) (ng_ydu a t) (ng_yon a b) (ng_yn a)).toInt := ng_addI (by omega) (by omega)
  apply ng_i_eq
  rw [ng_ypu, ng_heldI, ng_subI (by rw [em3, ea3]; omega) (by rw [em3, ea3]; omega), em3, ea3, i1, i2, ← hpu, ← es]
  generalize pu - A7 * A4 = z at es ⊢
  have hin : ∀ q : Int64, -99999999 ≤ q.toInt → q.toInt ≤ 99999999 → q.toInt32.toInt = q.toInt := fun q q1 q2 => Kit.i32_of_i64 (by omega) (by omega)
  by_cases c : z < (99999999 : Int64)
  · rw [if_pos c]
    rw [Int64.lt_iff_toInt_lt, k1] at c
    by_cases d : z < (-99999999 : Int64)
    · rw [if_pos d, hin _ (by rw [k2]; omega) (by rw [k2]; omega), k2]
      rw [Int64.lt_iff_toInt_lt, k2] at d
      omega
    · rw [if_neg d]
      rw [Int64.lt_iff_toInt_lt, k2] at d
      rw [hin _ (by omega) (by omega)]
      omega
  · rw [if_neg c]
    rw [Int64.lt_iff_toInt_lt, k1] at c
    by_cases d : (99999999 : Int64) < (-99999999 : Int64)
    · exact absurd d (by decide)
    · rw [if_neg d, hin _ (by rw [k1]; omega) (by rw [k1]; omega), k1]
      omega
theorem ng_yn_of {a : ng_R} {n : Nat} (hn : a 1 = nI n) (hn8 : n ≤ 8) : ng_yn a = n := by rw [ng_yn, hn, nI_clamp (by omega)]
theorem ng_ysd_I {a : ng_R} {t b : Int32} {cm : Nat → Bool} (hb : ng_bd a) (hn8 : ng_yn a ≤ 8) (hb0 : 0 ≤ b.toInt) (hb1 : b.toInt ≤ 99) : (ng_ysd a t b cm).toInt = (ng_yon a b).toInt - (ng_ylf a t b cm).toInt ∧ ng_yon a b - ng_ysd a t b cm = ng_ylf a t b cm ∧ 0 ≤ (ng_ylf a t b cm).toInt ∧ (ng_ylf a t b cm).toInt ≤ (ng_yon a b).toInt := by
  have hon := (ng_yon_bd hb hb0 hb1).1
  have hon0 : 0 ≤ (ng_yon a b).toInt := by omega
  have honr := ng_rng (ng_yon a b)
  have l1 := ng_lf_bd (t := t) (cm := cm) hb hon0 (ng_yn a) hn8
  have e1 : (ng_ysd a t b cm).toInt = (ng_yon a b).toInt - (ng_ylf a t b cm).toInt := by
    rw [ng_ysd, ng_subI (by rw [ng_ylf]; omega) (by rw [ng_ylf]; omega)]
  rw [ng_ylf] at *
  refine ⟨e1, ng_i_eq ?_, l1.1, l1.2⟩
  rw [ng_subI (by omega) (by omega)]
  omega
theorem ng_yr_row {a r2 : ng_R} {t b na : Int32} {dr : Bool} {n : Nat} (hyn : ng_yn a = n) (h2 : r2 = ng_r2 a t b dr n n) (hna : na = ng_yna a t b (ng_cf a dr)) :
    upd (upd (upd (upd (upd r2 6 (ng_ypu a t b (ng_cf a dr))) 3 na) 5 (ng_yke a t b (ng_cf a dr))) 2 t) 0 (a 0 + 1) = ng_yz a t b dr := by
  subst h2
  subst hna
  funext k
  by_cases h10 : k = 10
  · subst h10; simp [upd, ng_r2, ng_yz, hyn]
  · by_cases h0 : k = 0
    · subst h0; simp [upd, ng_yz, ng_yr]
    · by_cases h2 : k = 2
      · subst h2; simp [upd, ng_yz, ng_yr]
      · by_cases h3 : k = 3
        · subst h3; simp [upd, ng_yz, ng_yr]
        · by_cases h5 : k = 5
          · subst h5; simp [upd, ng_yz, ng_yr]
          · by_cases h6 : k = 6
            · subst h6; simp [upd, ng_yz, ng_yr]
            · rw [ng_upd_ne h0, ng_upd_ne h2, ng_upd_ne h5, ng_upd_ne h3, ng_upd_ne h6, ng_yz, if_neg h10, ng_yr, if_neg h0, if_neg h2, if_neg h3, if_neg h5, if_neg h6]
              by_cases h : 24 ≤ k ∧ k < 56 ∧ k % 4 = 0
              · rw [ng_r2, if_pos h, if_pos h, ng_yhs, hyn]
              · rw [ng_r2, if_neg h, if_neg h, ng_rz_ne h10]
theorem l_X9_goes3 {X : Nat × (Nat → Int32)} {M : ng_M} {a : ng_R} {n : Nat} {t b sd : Int32} {pu : Int64} {dr : Bool} {x9 x10 x11 : Option Value} {M1 : ng_M} (ha : M 74 = a) (hw : ng_wfr a) (hn : a 1 = nI n) (hn8 : n ≤ 8) (ht : vp_in t 10) (hb0 : 0 ≤ b.toInt) (hb1 : b.toInt ≤ 99)
    (hsd : sd = ng_ysd a t b (ng_cf a dr)) (hpu : pu.toInt = (a 6).toInt + (ng_pd (ng_ybo a t (ng_cf a dr)) (ng_ydu a t) (ng_yon a b) (ng_yn a)).toInt) (hM : ng_off [74, 81, 82, 83] M M1) (h74 : M1 74 = ng_r2 a t b dr n n) (h83 : ∀ j, j < n → M1 83 j = ng_ybo a t (ng_cf a dr) j (ng_lf (ng_ybo a t (ng_cf a dr)) (ng_yon a b) j)) :
    ng_Go X mi_X9_goes 7 201 [some (.ref 73), some (.int t), some (.int b), some (.int (ng_bi dr)), some (.int (a 5 + a 4)), some (.int (ng_yon a b)), some (.int sd), some (.long pu), none, x9, x10, x11] [] M1 (fun r' M' => ∃ v, r' = some (.int v) ∧ ng_refyear M t b dr v M') := by
  have hyn := ng_yn_of hn hn8
  have r : ∀ k, ¬ (24 ≤ k ∧ k < 56 ∧ k % 4 = 0) → k ≠ 10 → M1 74 k = a k := fun k k1 k2 => by rw [h74]; exact ng_r2_ne k1 k2
  have hls := (ng_ysd_I (t := t) (cm := ng_cf a dr) hw.2 (by rw [hyn]; exact hn8) hb0 hb1).2.1
  have hP := ng_pu_end (A7 := (M1 74 7).toInt64) (A4 := (M1 74 4).toInt64) hw.2 ht hb0 hb1 (by rw [hyn]; exact hn8) hpu (by rw [Kit.i64_of_i32, r 7 (by omega) (by decide)]) (by rw [Kit.i64_of_i32, r 4 (by omega) (by decide)])
  have c2 : ∀ P k, 56 ≤ k → ng_row M1 74 (upd (M1 74) 6 P) 74 k = a k := fun P k hk => by rw [ng_row_eq, ng_upd_ne (by omega)]; exact r k (by omega) (by omega)
  have htc : ∀ P, ng_tc (ng_row M1 74 (upd (M1 74) 6 P) 74) 175 = ng_tc a 175 := fun P => by
    funext j
    rw [ng_tc, ng_tc, c2 P _ (by omega)]
  obtain ⟨⟨⟨-, -, -, hf2⟩, -, hv2⟩, -⟩ := id hw
  subst hsd
  refine ng_lload_7 dX9_goes_201 ?_
  refine ng_aload_0 dX9_goes_203 ?_
  refine ng_gR dX9_goes_204 fl_X9_9 (by first | rfl | assumption) ?_
  refine ng_bipush (v := 7) dX9_goes_207 (by decide) ?_
  refine ng_ialdL (j := 7) dX9_goes_209 (by first | rfl | assumption) (by first | assumption | (unfold vp_in; decide)) (by decide) ?_
  refine ng_i2l dX9_goes_210 ?_
  refine ng_aload_0 dX9_goes_211 ?_
  refine ng_gR dX9_goes_212 fl_X9_9 (by first | rfl | assumption) ?_
  refine ng_iconst_4 dX9_goes_215 ?_
  refine ng_ialdL (j := 4) dX9_goes_216 (by first | rfl | assumption) (by first | assumption | (unfold vp_in; decide)) (by decide) ?_
  refine ng_i2l dX9_goes_217 ?_
  refine ng_lmul dX9_goes_218 ?_
  refine ng_lsub dX9_goes_219 ?_
  refine ng_lstore_7 dX9_goes_220 (by first | rfl | assumption) ?_
  refine ng_aload_0 dX9_goes_222 ?_
  refine ng_gR dX9_goes_223 fl_X9_9 (by first | rfl | assumption) ?_
  refine ng_bipush (v := 6) dX9_goes_226 (by decide) ?_
  refine ng_ldc2 dX9_goes_228 kc_X9_209 ?_
  refine ng_ldc2 dX9_goes_231 kc_X9_211 ?_
  refine ng_lload_7 dX9_goes_234 ?_
  refine ng_mminl dX9_goes_236 lk_X9_213 mms_minl li_J9 mmc_minl (by first | decide | exact Nat.le_of_ble_eq_true rfl) ?_
  refine ng_mmaxl dX9_goes_239 lk_X9_216 mms_maxl li_J9 mmc_maxl (by first | decide | exact Nat.le_of_ble_eq_true rfl) ?_
  refine ng_l2i dX9_goes_242 ?_
  refine ng_iastL (j := 6) dX9_goes_243 (by first | rfl | assumption) (by first | assumption | (unfold vp_in; decide)) (by decide) ?_
  rw [hP]
  refine ng_aload_0 dX9_goes_244 ?_
  refine ng_iconst_1 dX9_goes_245 ?_
  refine ng_iload_6 dX9_goes_246 ?_
  refine ng_iload_5 dX9_goes_248 ?_
  refine ng_iload_6 dX9_goes_250 ?_
  refine ng_isub dX9_goes_252 ?_
  refine ng_aload_0 dX9_goes_253 ?_
  refine ng_gR dX9_goes_254 fl_X9_9 (by first | rfl | assumption) ?_
  refine ng_iconst_3 dX9_goes_257 ?_
  refine ng_ialdL (j := 3) dX9_goes_258 (by first | rfl | assumption) (by first | assumption | (unfold vp_in; decide)) (by decide) ?_
  refine ng_iload_1 dX9_goes_259 ?_
  refine ng_aload_0 dX9_goes_260 ?_
  refine ng_gR dX9_goes_261 fl_X9_9 (by first | rfl | assumption) ?_
  refine ng_iconst_2 dX9_goes_264 ?_
  refine ng_ialdL (j := 2) dX9_goes_265 (by first | rfl | assumption) (by first | assumption | (unfold vp_in; decide)) (by decide) ?_
  refine ng_isub dX9_goes_266 ?_
  refine ng_callV_5i (y2 := mi_X9_given) dX9_goes_267 lk_X9_119 ms_X9_given my_X9_given (by first | exact ⟨_, rfl⟩ | assumption | exact ng_fld_obj (f := 0) (by assumption)) mc_X9 (by first | decide | exact Nat.le_of_ble_eq_true rfl) (s_X9_given1 (by rw [htc, c2 _ 175 (by decide)]; exact hf2) (fun j hj => by rw [c2 _ 175 (by decide)] at hj; rw [c2 _ _ (by omega)]; exact hv2 j hj)) (by decide) (fun v M3 hv => ?_)
  obtain ⟨hv1, hvo⟩ := hv
  rw [htc, c2 _ 175 (by decide), hls] at hv1
  have e3 : ng_row M1 74 (upd (M1 74) 6 (ng_ypu a t b (ng_cf a dr))) 74 3 = a 3 := by rw [ng_row_eq, ng_upd_ne (by decide)]; exact r 3 (by omega) (by decide)
  have e2 : ng_row M1 74 (upd (M1 74) 6 (ng_ypu a t b (ng_cf a dr))) 74 2 = a 2 := by rw [ng_row_eq, ng_upd_ne (by decide)]; exact r 2 (by omega) (by decide)
  rw [e3, e2] at hv1
  have e74 : M3 74 = upd (M1 74) 6 (ng_ypu a t b (ng_cf a dr)) := by rw [hvo 74 (by simp), ng_row_eq]
  refine ng_istore_9 dX9_goes_270 (by first | rfl | assumption) ?_
  refine ng_aload_0 dX9_goes_272 ?_
  refine ng_gR dX9_goes_273 fl_X9_9 (by first | rfl | assumption) ?_
  refine ng_iconst_3 dX9_goes_276 ?_
  refine ng_aload_0 dX9_goes_277 ?_
  refine ng_gR dX9_goes_278 fl_X9_9 (by first | rfl | assumption) ?_
  refine ng_iconst_3 dX9_goes_281 ?_
  refine ng_ialdL (j := 3) dX9_goes_282 (by first | rfl | assumption) (by first | assumption | (unfold vp_in; decide)) (by decide) ?_
  refine ng_iload_9 dX9_goes_283 ?_
  refine ng_iadd dX9_goes_285 ?_
  refine ng_iconst_0 dX9_goes_286 ?_
  refine ng_bipush (v := 12) dX9_goes_287 (by decide) ?_
  refine ng_callS_3x (y2 := mi_X9_held) dX9_goes_289 lk_X9_203 ms_X9_held my_X9_held (by first | decide | exact Nat.le_of_ble_eq_true rfl) (s_X9_held) (by decide) ?_
  refine ng_iastL (j := 3) dX9_goes_292 (by first | rfl | assumption) (by first | assumption | (unfold vp_in; decide)) (by decide) ?_
  refine ng_aload_0 dX9_goes_293 ?_
  refine ng_gR dX9_goes_294 fl_X9_9 (by first | rfl | assumption) ?_
  refine ng_iconst_5 dX9_goes_297 ?_
  refine ng_bipush (v := 60) dX9_goes_298 (by decide) ?_
  refine ng_iload_4 dX9_goes_300 ?_
  refine ng_iload_6 dX9_goes_302 ?_
  refine ng_isub dX9_goes_304 ?_
  refine ng_mmin dX9_goes_305 lk_X9_67 mms_min li_J9 mmc_min (by first | decide | exact Nat.le_of_ble_eq_true rfl) ?_
  refine ng_iastL (j := 5) dX9_goes_308 (by first | rfl | assumption) (by first | assumption | (unfold vp_in; decide)) (by decide) ?_
  refine ng_aload_0 dX9_goes_309 ?_
  refine ng_gR dX9_goes_310 fl_X9_9 (by first | rfl | assumption) ?_
  refine ng_iconst_2 dX9_goes_313 ?_
  refine ng_iload_1 dX9_goes_314 ?_
  refine ng_iastL (j := 2) dX9_goes_315 (by first | rfl | assumption) (by first | assumption | (unfold vp_in; decide)) (by decide) ?_
  refine ng_aload_0 dX9_goes_316 ?_
  refine ng_gR dX9_goes_317 fl_X9_9 (by first | rfl | assumption) ?_
  refine ng_iconst_0 dX9_goes_320 ?_
  refine ng_dup2 dX9_goes_321 rfl rfl ?_
  refine ng_ialdL (j := 0) dX9_goes_322 (by first | rfl | assumption) (by first | assumption | (unfold vp_in; decide)) (by decide) ?_
  refine ng_iconst_1 dX9_goes_323 ?_
  refine ng_iadd dX9_goes_324 ?_
  refine ng_iastL (j := 0) dX9_goes_325 (by first | rfl | assumption) (by first | assumption | (unfold vp_in; decide)) (by decide) ?_
  refine ng_iload_6 dX9_goes_326 ?_
  exact ng_ireturn dX9_goes_328 ⟨_, rfl, by rw [ha], by
  rw [ha, ← ng_yr_row (na := ng_held (a 3 + v) 0 12) hyn h74 (by rw [hv1]; rfl)]
  have q3 : upd (M1 74) 6 (ng_ypu a t b (ng_cf a dr)) 3 = a 3 := by rw [ng_upd_ne (by decide)]; exact r 3 (by omega) (by decide)
  have q0 : M1 74 0 = a 0 := r 0 (by omega) (by decide)
  simp only [ng_row_eq, e74, q3]
  have q00 : upd (upd (upd (upd (M1 74) 6 (ng_ypu a t b (ng_cf a dr))) 3 (ng_held (a 3 + v) 0 12)) 5 (ng_yke a t b (ng_cf a dr))) 2 t 0 = a 0 := by simp [upd, q0]
  first | rfl | (have : ng_yke a t b (ng_cf a dr) = (if a 5 + a 4 - ng_ysd a t b (ng_cf a dr) < 60 then a 5 + a 4 - ng_ysd a t b (ng_cf a dr) else 60) := rfl
                 rw [← this, q00]), fun k hk => by
  simp at hk
  simp only [ng_row_ne hk.1]
  rw [hvo k (by simp <;> omega), ng_row_ne hk.1]
  exact hM k (by simp <;> omega), fun j hj => by
  rw [ha] at hj ⊢
  rw [hyn] at hj
  simp only [ng_row_ne (show (83 : Nat) ≠ 74 by decide)]
  rw [hvo 83 (by simp), ng_row_ne (by decide)]
  exact h83 j hj⟩
theorem l_X9_goes2 {X : Nat × (Nat → Int32)} {M : ng_M} {a : ng_R} {n : Nat} {t b sd : Int32} {pu : Int64} {dr : Bool} (ha : M 74 = a) (hw : ng_wfr a) (hn : a 1 = nI n) (hn8 : n ≤ 8) (ht : vp_in t 10) (hb0 : 0 ≤ b.toInt) (hb1 : b.toInt ≤ 99)
    (hsd : sd = ng_ysd a t b (ng_cf a dr)) (hpu : pu.toInt = (a 6).toInt + (ng_pd (ng_ybo a t (ng_cf a dr)) (ng_ydu a t) (ng_yon a b) (ng_yn a)).toInt) :
    ∀ (m i : Nat) (x10 x11 : Option Value) (M1 : ng_M), i + m = n → ng_off [74, 81, 82, 83] M M1 → M1 74 = ng_r2 a t b dr n i → (∀ j, j < n → M1 83 j = ng_ybo a t (ng_cf a dr) j (ng_lf (ng_ybo a t (ng_cf a dr)) (ng_yon a b) j)) →
    ng_Go X mi_X9_goes 7 145 [some (.ref 73), some (.int t), some (.int b), some (.int (ng_bi dr)), some (.int (a 5 + a 4)), some (.int (ng_yon a b)), some (.int sd), some (.long pu), none, some (.int (nI i)), x10, x11] [] M1 (fun r' M' => ∃ v, r' = some (.int v) ∧ ng_refyear M t b dr v M') := by
  have hon := (ng_yon_bd hw.2 hb0 hb1).1
  have hon0 : 0 ≤ (ng_yon a b).toInt := by omega
  intro m
  induction m with
  | zero =>
    intro i x10 x11 M1 hi hM h74 h83
    have hin : i = n := by omega
    subst hin
    have hm : M1 74 1 = nI i := by rw [h74, ng_r2_ne (by omega) (by decide)]; exact hn
    refine ng_iload_9 dX9_goes_145 ?_
    refine ng_aload_0 dX9_goes_147 ?_
    refine ng_gR dX9_goes_148 fl_X9_9 (by first | rfl | assumption) ?_
    refine ng_iconst_1 dX9_goes_151 ?_
    refine ng_ialdL (j := 1) dX9_goes_152 (by first | rfl | assumption) (by first | assumption | (unfold vp_in; decide)) (by decide) ?_
    refine ng_icmp_ge 201 dX9_goes_153 (by decide +kernel) (fun h153 => ?_) (fun h153 => ?_)
    · exact l_X9_goes3 ha hw hn hn8 ht hb0 hb1 hsd hpu hM h74 h83
    · exact absurd (by rw [hm]; exact Int32.le_refl _) h153
  | succ m ih =>
    intro i x10 x11 M1 hi hM h74 h83
    have hm : M1 74 1 = nI n := by rw [h74, ng_r2_ne (by omega) (by decide)]; exact hn
    have hlt : ¬ M1 74 1 ≤ nI i := by rw [hm]; exact nI_ge (by omega) (by omega)
    have hvi : vp_in (nI i) 8 := vp_in_nI (by omega) (by omega)
    have hix : 21 + 4 * nI i + 3 = nI (24 + 4 * i) := (ng_ix_of (b := nI i) (f := 3) (i := i) (j := 3) rfl rfl).trans (by congr 1; omega)
    have hvx : vp_in (21 + 4 * nI i + 3) 227 := by rw [hix]; exact vp_in_nI (by omega) (by omega)
    have hcx : (21 + 4 * nI i + 3).toNatClampNeg = 24 + 4 * i := by rw [hix, nI_clamp (by omega)]
    refine ng_iload_9 dX9_goes_145 ?_
    refine ng_aload_0 dX9_goes_147 ?_
    refine ng_gR dX9_goes_148 fl_X9_9 (by first | rfl | assumption) ?_
    refine ng_iconst_1 dX9_goes_151 ?_
    refine ng_ialdL (j := 1) dX9_goes_152 (by first | rfl | assumption) (by first | assumption | (unfold vp_in; decide)) (by decide) ?_
    refine ng_icmp_ge 201 dX9_goes_153 (by decide +kernel) (fun h153 => ?_) (fun h153 => ?_)
    · exact absurd h153 hlt
    · refine ng_bipush (v := 21) dX9_goes_156 (by decide) ?_
      refine ng_iconst_4 dX9_goes_158 ?_
      refine ng_iload_9 dX9_goes_159 ?_
      refine ng_imul dX9_goes_161 ?_
      refine ng_iadd dX9_goes_162 ?_
      refine ng_iconst_3 dX9_goes_163 ?_
      refine ng_iadd dX9_goes_164 ?_
      refine ng_istore_10 dX9_goes_165 (by first | rfl | assumption) ?_
      refine ng_aload_0 dX9_goes_167 ?_
      refine ng_gR dX9_goes_168 fl_X9_9 (by first | rfl | assumption) ?_
      refine ng_iload_10 dX9_goes_171 ?_
      refine ng_sipush (v := 9999) dX9_goes_173 (by decide) ?_
      refine ng_aload_0 dX9_goes_176 ?_
      refine ng_gR dX9_goes_177 fl_X9_9 (by first | rfl | assumption) ?_
      refine ng_iload_10 dX9_goes_180 ?_
      refine ng_ialdL (j := (24 + 4 * i)) dX9_goes_182 (by first | rfl | assumption) (by first | assumption | (unfold vp_in; decide)) (by first | assumption | exact nI_clamp (by omega)) ?_
      refine ng_aload_0 dX9_goes_183 ?_
      refine ng_gR dX9_goes_184 fl_X9_45 (by first | rfl | assumption) ?_
      refine ng_iload_9 dX9_goes_187 ?_
      refine ng_ialdL (j := i) dX9_goes_189 (by first | rfl | assumption) (by first | assumption | (unfold vp_in; decide)) (by first | assumption | exact nI_clamp (by omega)) ?_
      refine ng_iadd dX9_goes_190 ?_
      refine ng_mmin dX9_goes_191 lk_X9_67 mms_min li_J9 mmc_min (by first | decide | exact Nat.le_of_ble_eq_true rfl) ?_
      refine ng_iastL (j := (24 + 4 * i)) dX9_goes_194 (by first | rfl | assumption) (by first | assumption | (unfold vp_in; decide)) (by first | assumption | exact nI_clamp (by omega)) ?_
      refine ng_iinc_9 (w := 1) dX9_goes_195 (by decide) rfl ?_
      refine ng_goto 145 dX9_goes_198 (by decide +kernel) ?_
      rw [nI_1]
      refine ih (i + 1) _ _ _ (by omega) (ng_off.row hM (by simp)) ?_ (fun j hj => by rw [ng_row_ne (by decide)]; exact h83 j hj)
      rw [ng_row_eq, h74, h83 i (by omega), ← ng_r2_s hw.2 (by omega) hon0]
      rfl
theorem s_X9_goes {X : Nat × (Nat → Int32)} {M : ng_M} {t b : Int32} {dr : Bool} (hw : ng_wfr (M 74)) (ht : vp_in t 10) (hb0 : 0 ≤ b.toInt) (hb1 : b.toInt ≤ 99) : ng_EvI X 7 mi_X9_goes [.ref 73, .int t, .int b, .int (ng_bi dr)] M (fun v M' => ng_refyear M t b dr v M') := by
  obtain ⟨n, hn, hn8⟩ := hw.1.1.1
  have hyn := ng_yn_of hn hn8
  have hyI := ng_ysd_I (t := t) (cm := ng_cf (M 74) dr) hw.2 (by rw [hyn]; exact hn8) hb0 hb1
  refine ng_EvI.of (lv := [some (.ref 73), some (.int t), some (.int b), some (.int (ng_bi dr)), none, none, none, none, none, none, none, none]) (ty := .int) (by decide) (Nat.le_of_ble_eq_true rfl) rfl rfl (fun _ _ _ => rfl) ?_
  refine ng_aload_0 dX9_goes_0 ?_
  refine ng_gR dX9_goes_1 fl_X9_9 (by first | rfl | assumption) ?_
  refine ng_iconst_5 dX9_goes_4 ?_
  refine ng_ialdL (j := 5) dX9_goes_5 (by first | rfl | assumption) (by first | assumption | (unfold vp_in; decide)) (by decide) ?_
  refine ng_aload_0 dX9_goes_6 ?_
  refine ng_gR dX9_goes_7 fl_X9_9 (by first | rfl | assumption) ?_
  refine ng_iconst_4 dX9_goes_10 ?_
  refine ng_ialdL (j := 4) dX9_goes_11 (by first | rfl | assumption) (by first | assumption | (unfold vp_in; decide)) (by decide) ?_
  refine ng_iadd dX9_goes_12 ?_
  refine ng_istore_4 dX9_goes_13 (by first | rfl | assumption) ?_
  refine ng_iconst_0 dX9_goes_15 ?_
  refine ng_iload_4 dX9_goes_16 ?_
  refine ng_iload_2 dX9_goes_18 ?_
  refine ng_isub dX9_goes_19 ?_
  refine ng_mmax dX9_goes_20 lk_X9_73 mms_max li_J9 mmc_max (by first | decide | exact Nat.le_of_ble_eq_true rfl) ?_
  refine ng_istore_5 dX9_goes_23 (by first | rfl | assumption) ?_
  refine ng_iconst_0 dX9_goes_25 ?_
  refine ng_istore_6 dX9_goes_26 (by first | rfl | assumption) ?_
  refine ng_aload_0 dX9_goes_28 ?_
  refine ng_gR dX9_goes_29 fl_X9_9 (by first | rfl | assumption) ?_
  refine ng_bipush (v := 6) dX9_goes_32 (by decide) ?_
  refine ng_ialdL (j := 6) dX9_goes_34 (by first | rfl | assumption) (by first | assumption | (unfold vp_in; decide)) (by decide) ?_
  refine ng_i2l dX9_goes_35 ?_
  refine ng_lstore_7 dX9_goes_36 (by first | rfl | assumption) ?_
  refine ng_iconst_0 dX9_goes_38 ?_
  refine ng_istore_9 dX9_goes_39 (by first | rfl | assumption) ?_
  refine l_X9_goes1 (M := M) (a := M 74) (b := b) (dr := dr) hw hn hn8 ht hb0 hb1 (fun sd pu x10 x11 M1 hg => ?_) n 0 (by omega) 0 _ none none M ⟨?_, ?_, ng_off.rf, ?_, fun j hj => absurd hj (by omega)⟩
  · obtain ⟨g1, g2, g3, g4, g5⟩ := hg
    have hsd : sd = ng_ysd (M 74) t b (ng_cf (M 74) dr) := ng_i_eq (by rw [g1, hyI.1, ng_ylf, hyn])
    refine ng_iconst_0 dX9_goes_142 ?_
    refine ng_istore_9 dX9_goes_143 rfl ?_
    exact l_X9_goes2 rfl hw hn hn8 ht hb0 hb1 hsd (by rw [hyn]; exact g2) n 0 x10 x11 M1 (by omega) g3 (by rw [ng_r2_0]; exact g4) g5
  · show (0 : Int32).toInt = (ng_yon (M 74) b).toInt - (ng_yon (M 74) b).toInt
    rw [ng_0]; omega
  · rw [Kit.i64_of_i32]
    show _ = _ + (0 : Int32).toInt
    rw [ng_0]; omega
  · cases dr with
    | false => rfl
    | true => funext k; by_cases e : k = 10 <;> simp [ng_rz, upd, ng_zi, e]
