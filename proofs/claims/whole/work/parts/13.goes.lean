/-! ===== the class: goes, goesYears, gives, take; the year as a function of one row of numbers ===== -/
/-- a token of the reference's as the class has it -/
def ng_un (r : Int32) : Int32 :=
  if r < 10000 then r else if r < 20000 then 9999 - r else if r = 20000 then 10124 else if r = 20001 then 10038 else if r = 20002 then 10060 else if r = 20003 then 10061 else if r = 20004 then 10062 else if r = 20005 then 10043 else if r = 20006 then 10045 else if r = 20007 then 10042 else if r = 20008 then 10047 else if r = 20009 then 10037 else 10033
/-- the state that years change and what they rest on is ONE row of numbers (the reference's 'now') -/
abbrev ng_R : Type := Nat → Int32
def ng_tc (a : ng_R) (o : Nat) : Nat → Int32 := fun j => ng_un (a (o + 1 + j))
def ng_yn (a : ng_R) : Nat := (a 1).toNatClampNeg
def ng_ypl (a : ng_R) (i : Nat) : Int32 := ng_pw (ng_tc a 123) (a 123) (a (22 + 4 * i)) (a 3) (a (11 + (a 2).toNatClampNeg)) (a (24 + 4 * i))
def ng_ydu (a : ng_R) (t : Int32) (i : Nat) : Int32 := ng_due (a (21 + 4 * i)) (a (11 + t.toNatClampNeg))
def ng_ybu (a : ng_R) (t : Int32) (i : Nat) (lf : Int32) : Int32 := ng_buys (a (21 + 4 * i)) (a (23 + 4 * i)) (a (11 + t.toNatClampNeg)) (ng_ypl a i) (a (24 + 4 * i)) (a 3) (a 2) t lf
def ng_ybo (a : ng_R) (t : Int32) (cm : Nat → Bool) (i : Nat) (lf : Int32) : Int32 := if cm i then ng_ybu a t i lf else 0
def ng_yon (a : ng_R) (b : Int32) : Int32 := ng_max 0 (a 5 + a 4 - b)
def ng_ylf (a : ng_R) (t b : Int32) (cm : Nat → Bool) : Int32 := ng_lf (ng_ybo a t cm) (ng_yon a b) (ng_yn a)
def ng_ysd (a : ng_R) (t b : Int32) (cm : Nat → Bool) : Int32 := ng_yon a b - ng_ylf a t b cm
def ng_ypu (a : ng_R) (t b : Int32) (cm : Nat → Bool) : Int32 := ng_held (a 6 + ng_pd (ng_ybo a t cm) (ng_ydu a t) (ng_yon a b) (ng_yn a) - a 7 * a 4) (-99999999) 99999999
def ng_yke (a : ng_R) (t b : Int32) (cm : Nat → Bool) : Int32 := ng_min 60 (a 5 + a 4 - ng_ysd a t b cm)
def ng_yna (a : ng_R) (t b : Int32) (cm : Nat → Bool) : Int32 := ng_held (a 3 + ng_fm (ng_tc a 175) (a 175) (ng_ysd a t b cm) (ng_ylf a t b cm) (a 3) (t - a 2)) 0 12
def ng_yhs (a : ng_R) (t b : Int32) (cm : Nat → Bool) (j : Nat) : Int32 := ng_hs (ng_ybo a t cm) (ng_yon a b) (fun j => a (24 + 4 * j)) (ng_yn a) j
/-- a year -/
def ng_yr (a : ng_R) (t b : Int32) (cm : Nat → Bool) : ng_R := fun k =>
  if k = 0 then a 0 + 1 else if k = 2 then t else if k = 3 then ng_yna a t b cm else if k = 5 then ng_yke a t b cm else if k = 6 then ng_ypu a t b cm
  else if 24 ≤ k ∧ k < 56 ∧ k % 4 = 0 then ng_yhs a t b cm ((k - 24) / 4) else a k
/-- the class's rules, and a stand of its, as such a row has them -/
def ng_tr (c : Nat → Int32) (L : Int32) (a : ng_R) (o : Nat) : Prop := L = a o ∧ ∀ j, j < L.toNatClampNeg → c j = ng_tc a o j
def ng_rl (M : ng_M) (a : ng_R) : Prop := (∀ j, j < 10 → M 3 j = a (11 + j)) ∧ (∀ j, j < 8 → M 4 j = a (21 + 4 * j) ∧ M 5 j = a (22 + 4 * j) ∧ M 6 j = a (23 + 4 * j)) ∧ M 2 6 = a 1 ∧ ng_tr (M 8) (M 7 1) a 123 ∧ ng_tr (M 12) (M 11 1) a 175
def ng_sv (M : ng_M) (s : Nat) (a : ng_R) : Prop := (∀ j, j < 8 → M (s + 1) j = a (24 + 4 * j)) ∧ M s 3 = a 2 ∧ M s 4 = a 3 ∧ M s 5 = a 4 ∧ M s 6 = a 5 ∧ M s 7 = a 6 ∧ M s 8 = a 7
/-- what a row must be for years to go by -/
def ng_yok (a : ng_R) : Prop := (∃ n, a 1 = nI n ∧ n ≤ 8) ∧ vp_in (a 2) 10 ∧ ng_fok (ng_tc a 123) (a 123) ∧ ng_fok (ng_tc a 175) (a 175)
theorem ng_run_congr {nm c c' : Nat → Int32} : ∀ n, (∀ j, j < n → c j = c' j) → ng_run nm c n = ng_run nm c' n
  | 0, _ => rfl
  | n + 1, h => by
    show ng_ck nm (ng_run nm c n) (c n) = ng_ck nm (ng_run nm c' n) (c' n)
    rw [h n (by omega), ng_run_congr n (fun j hj => h j (by omega))]
theorem ng_giv_congr {c c' : Nat → Int32} {L a b e d : Int32} (h : ∀ j, j < L.toNatClampNeg → c j = c' j) : ng_giv c L a b e d = ng_giv c' L a b e d := by
  unfold ng_giv
  rw [ng_run_congr _ h]
theorem ng_tr_pw {c : Nat → Int32} {L : Int32} {a : ng_R} {o : Nat} (h : ng_tr c L a o) (x1 x2 x3 x4 : Int32) : ng_pw c L x1 x2 x3 x4 = ng_pw (ng_tc a o) (a o) x1 x2 x3 x4 := by
  obtain ⟨h1, h2⟩ := h
  unfold ng_pw
  rw [ng_giv_congr h2, h1]
theorem ng_tr_fm {c : Nat → Int32} {L : Int32} {a : ng_R} {o : Nat} (h : ng_tr c L a o) (x1 x2 x3 x4 : Int32) : ng_fm c L x1 x2 x3 x4 = ng_fm (ng_tc a o) (a o) x1 x2 x3 x4 := by
  obtain ⟨h1, h2⟩ := h
  unfold ng_fm
  rw [ng_giv_congr h2, h1]
theorem ng_tok_congr {c c' : Nat → Int32} {n : Nat} (h : ∀ j, j < n → c j = c' j) (hw : ng_wt c n) : ng_wt c' n := by
  obtain ⟨h1, H, h2, h3, h4⟩ := hw
  exact ⟨h1, H, h2, h3, fun j hj => by rw [← h j hj]; exact h4 j hj⟩
theorem ng_tr_fok {c : Nat → Int32} {L : Int32} {a : ng_R} {o : Nat} (h : ng_tr c L a o) (hf : ng_fok (ng_tc a o) (a o)) : ng_fok c L := by
  obtain ⟨h1, h2⟩ := h
  obtain ⟨n, g1, g2, g3⟩ := hf
  refine ⟨n, h1.trans g1, g2, g3.imp id (fun g => ng_tok_congr (fun j hj => (h2 j ?_).symm) g)⟩
  rw [h1, g1, nI_clamp (by omega)]
  exact hj
theorem ng_rl.kept {M M' : ng_M} {a a' : ng_R} (h : ng_rl M a) (hM : ∀ k ∈ [2, 3, 4, 5, 6, 7, 8, 11, 12], M' k = M k) (ha : ∀ k, (k = 1 ∨ (11 ≤ k ∧ k < 21) ∨ (21 ≤ k ∧ k < 53 ∧ k % 4 ≠ 0) ∨ 123 ≤ k) → a' k = a k) : ng_rl M' a' := by
  have q2 := hM 2 (by simp)
  have q3 := hM 3 (by simp)
  have q4 := hM 4 (by simp)
  have q5 := hM 5 (by simp)
  have q6 := hM 6 (by simp)
  have q7 := hM 7 (by simp)
  have q8 := hM 8 (by simp)
  have q11 := hM 11 (by simp)
  have q12 := hM 12 (by simp)
  obtain ⟨h1, h2, h3, ⟨h4, h5⟩, h6, h7⟩ := h
  refine ⟨fun j hj => ?_, fun j hj => ⟨?_, ?_, ?_⟩, ?_, ⟨?_, fun j hj => ?_⟩, ?_, fun j hj => ?_⟩
  · rw [q3, ha _ (by omega)]; exact h1 j hj
  · rw [q4, ha _ (by omega)]; exact (h2 j hj).1
  · rw [q5, ha _ (by omega)]; exact (h2 j hj).2.1
  · rw [q6, ha _ (by omega)]; exact (h2 j hj).2.2
  · rw [q2, ha _ (by omega)]; exact h3
  · rw [q7, ha _ (by omega)]; exact h4
  · rw [q7] at hj; rw [q8, h5 j hj, ng_tc, ng_tc, ha _ (by omega)]
  · rw [q11, ha _ (by omega)]; exact h6
  · rw [q11] at hj; rw [q12, h7 j hj, ng_tc, ng_tc, ha _ (by omega)]
theorem ng_lf_congr {f g : Nat → Int32 → Int32} {on : Int32} : ∀ n, (∀ i, i < n → ∀ x, f i x = g i x) → ng_lf f on n = ng_lf g on n
  | 0, _ => rfl
  | n + 1, h => by
    simp only [ng_lf]
    rw [ng_lf_congr n (fun i hi => h i (by omega)), h n (by omega)]
theorem ng_pd_congr {f g : Nat → Int32 → Int32} {d e : Nat → Int32} {on : Int32} : ∀ n, (∀ i, i < n → ∀ x, f i x = g i x) → (∀ i, i < n → d i = e i) → ng_pd f d on n = ng_pd g e on n
  | 0, _, _ => rfl
  | n + 1, h, h' => by
    simp only [ng_pd]
    rw [ng_pd_congr n (fun i hi => h i (by omega)) (fun i hi => h' i (by omega)), ng_lf_congr n (fun i hi => h i (by omega)), h n (by omega), h' n (by omega)]
theorem ng_hs_congr {f g : Nat → Int32 → Int32} {ha hb : Nat → Int32} {on : Int32} {n j : Nat} (h : ∀ i, i < n → ∀ x, f i x = g i x) (h' : ha j = hb j) : ng_hs f on ha n j = ng_hs g on hb n j := by
  unfold ng_hs
  by_cases q : j < n
  · simp only [q, if_true]
    rw [ng_lf_congr j (fun i hi => h i (by omega)), h j q, h']
  · simp only [q, if_false]
    exact h'
theorem ng_vp_nat {t : Int32} {n : Nat} (h : vp_in t n) : t.toNatClampNeg < n := ng_vp_lt h
/-- the class's year is the row's -/
def ng_gone (M : ng_M) (s : Nat) (a : ng_R) (t b come : Int32) (M' : ng_M) : Prop := ng_off [9, 10, 13, 14, s, s + 1, s + 2] M M' ∧ ng_sv M' s (ng_yr a t b (ng_cm come)) ∧ M' s 9 = ng_ysd a t b (ng_cm come) ∧ M' s 10 = ng_ylf a t b (ng_cm come)
theorem ng_sale_row {M M1 M2 : ng_M} {s : Nat} {a : ng_R} {t b come : Int32} {n : Nat} (hs15 : 15 ≤ s) (hr : ng_rl M a) (hv : ng_sv M s a) (ht : vp_in t 10) (hok : ng_yok a) (hn : a 1 = nI n) (hn8 : n ≤ 8)
    (hA : ng_off [9, 10, s + 2] M M1 ∧ ∀ j, j < n → M1 (s + 2) j = ng_pls M s j) (hB : ng_sale M1 s n t b come M2) :
    ng_off [9, 10, s, s + 1, s + 2] M M2 ∧ (∀ j, j < 8 → M2 (s + 1) j = ng_yhs a t b (ng_cm come) j) ∧ M2 s 3 = t ∧ M2 s 4 = a 3 ∧ M2 s 5 = a 4 ∧ M2 s 6 = ng_yke a t b (ng_cm come) ∧ M2 s 7 = ng_ypu a t b (ng_cm come) ∧ M2 s 8 = a 7 ∧ M2 s 9 = ng_ysd a t b (ng_cm come) ∧ M2 s 10 = ng_ylf a t b (ng_cm come) ∧ M2 s 11 = t - a 2 := by
  obtain ⟨hA1, hA2⟩ := hA
  obtain ⟨hB1, ⟨b3, b4, b5, b6, b7, b8, b9, b10, b11⟩, hB3⟩ := hB
  obtain ⟨v1, v2, v3, v4, v5, v6, v7⟩ := hv
  obtain ⟨r1, r2, r3, r4, r5⟩ := hr
  have hyn : ng_yn a = n := by rw [ng_yn, hn, nI_clamp (by omega)]
  have htn := ng_vp_nat ht
  have hln := ng_vp_nat hok.2.1
  have e3 : M1 3 = M 3 := hA1 3 (by simp <;> omega)
  have e4 : M1 4 = M 4 := hA1 4 (by simp <;> omega)
  have e6 : M1 6 = M 6 := hA1 6 (by simp <;> omega)
  have es : M1 s = M s := hA1 s (by simp <;> omega)
  have eh : M1 (s + 1) = M (s + 1) := hA1 (s + 1) (by simp <;> omega)
  have hon : ng_on M1 s b = ng_yon a b := by rw [ng_on, ng_yon, es, v4, v5]
  have hbo : ∀ i, i < n → ∀ x, ng_bo M1 s t come i x = ng_ybo a t (ng_cm come) i x := by
    intro i hi x
    have hi8 : i < 8 := by omega
    rw [ng_bo, ng_ybo, ng_ybu, e3, e4, e6, es, eh, hA2 i hi, r1 _ htn, (r2 i hi8).1, (r2 i hi8).2.2, v1 i hi8, v2, v3]
    have : ng_pls M s i = ng_ypl a i := by
      rw [ng_pls, ng_ypl, ng_tr_pw r4, (r2 i hi8).2.1, v1 i hi8, v2, v3, r1 _ hln]
    rw [this]
  have hdu : ∀ i, i < n → ng_du M1 t i = ng_ydu a t i := by
    intro i hi
    rw [ng_du, ng_ydu, e3, e4, r1 _ htn, (r2 i (by omega)).1]
  have hlf : ng_lf (ng_bo M1 s t come) (ng_on M1 s b) n = ng_ylf a t b (ng_cm come) := by
    rw [ng_ylf, hyn, hon, ng_lf_congr n hbo]
  refine ⟨fun k hk => ?_, fun j hj => ?_, b3, by rw [b4, es, v3], by rw [b5, es, v4], ?_, ?_, by rw [b8, es, v7], ?_, by rw [b10, hlf], by rw [b11, es, v2]⟩
  · simp at hk
    rw [hB1 k (by simp <;> omega), hA1 k (by simp <;> omega)]
  · rw [hB3 j, ng_yhs, hyn, hon, eh]
    exact ng_hs_congr hbo (v1 j hj)
  · rw [b6, hlf, hon, es, v4, v5, ng_yke, ng_ysd]
  · rw [b7, hon, ng_pd_congr n hbo hdu, es, v4, v6, v7, ng_ypu, hyn]
  · rw [b9, hlf, hon, ng_ysd]
theorem s_X5_goes {X : Nat × (Nat → Int32)} {M : ng_M} {s : Nat} {a : ng_R} {t b come : Int32} (hs : ng_isS s) (hr : ng_rl M a) (hv : ng_sv M s a) (hok : ng_yok a) (ht : vp_in t 10) : ng_EvV X 5 mi_X5_goes [.ref s, .int t, .int b, .int come] M (fun M' => ng_gone M s a t b come M') := by
  obtain ⟨⟨hs0, hs1, hs2, hs3, hs4, hs5, hs6, hs7, hs8, hs9, hs10, hs11⟩, hsh, hsp, hso, hsl⟩ := ng_S hs
  obtain ⟨⟨n, hn, hn8⟩, hl, hf1, hf2⟩ := id hok
  have hln : vp_in (M s 3) 10 := by rw [hv.2.1]; exact hl
  have hn2 : M 2 6 = nI n := by rw [hr.2.2.1]; exact hn
  refine ng_EvV.of (lv := [some (.ref s), some (.int t), some (.int b), some (.int come)]) (by decide) (Nat.le_of_ble_eq_true rfl) rfl rfl ?_
  refine ng_aload_0 dX5_goes_0 ?_
  refine ng_callV_0w (y2 := mi_X5_appraise) dX5_goes_1 lk_X5_116 ms_X5_appraise my_X5_appraise (by first | exact ⟨_, rfl⟩ | assumption | exact ng_fld_obj (f := 0) (by assumption)) mc_X5 (by first | decide | exact Nat.le_of_ble_eq_true rfl) (s_X5_appraise hs hn2 hn8 (ng_tr_fok hr.2.2.2.1 hf1) hln) (by decide) (fun M1 hA => ?_)
  refine ng_aload_0 dX5_goes_4 ?_
  refine ng_iload_1 dX5_goes_5 ?_
  refine ng_iload_2 dX5_goes_6 ?_
  refine ng_iload_3 dX5_goes_7 ?_
  refine ng_callV_3w (y2 := mi_X5_sells) dX5_goes_8 lk_X5_119 ms_X5_sells my_X5_sells (by first | exact ⟨_, rfl⟩ | assumption | exact ng_fld_obj (f := 0) (by assumption)) mc_X5 (by first | decide | exact Nat.le_of_ble_eq_true rfl) (s_X5_sells hs (by rw [hA.1 2 (by simp <;> omega)]; exact hn2) hn8 ht) (by decide) (fun M2 hB => ?_)
  have hC := ng_sale_row (by omega) hr hv ht hok hn hn8 hA hB
  refine ng_aload_0 dX5_goes_11 ?_
  refine ng_callV_0w (y2 := mi_X5_settles) dX5_goes_12 lk_X5_123 ms_X5_settles my_X5_settles (by first | exact ⟨_, rfl⟩ | assumption | exact ng_fld_obj (f := 0) (by assumption)) mc_X5 (by first | decide | exact Nat.le_of_ble_eq_true rfl) (s_X5_settles hs (by rw [hC.1 12 (by simp <;> omega), hC.1 11 (by simp <;> omega)]; exact ng_tr_fok hr.2.2.2.2 hf2)) (by decide) (fun M3 hD => ?_)
  exact ng_return dX5_goes_15 ⟨rfl, by
  obtain ⟨c0, c1, c3, c4, c5, c6, c7, c8, c9, c10, c11⟩ := hC
  obtain ⟨d1, d2⟩ := hD
  have eh : M3 (s + 1) = M2 (s + 1) := d1 (s + 1) (by simp <;> omega)
  refine ⟨fun k hk => ?_, ⟨fun j hj => ?_, ?_, ?_, ?_, ?_, ?_, ?_⟩, ?_, ?_⟩
  · simp at hk
    rw [d1 k (by simp <;> omega), c0 k (by simp <;> omega)]
  · rw [eh, c1 j hj]
    simp only [ng_yr]
    rw [if_neg (by omega), if_neg (by omega), if_neg (by omega), if_neg (by omega), if_neg (by omega), if_pos (by omega), show (24 + 4 * j - 24) / 4 = j by omega]
  · rw [d2, ng_upd_ne (by omega), c3]; simp [ng_yr]
  · rw [d2, ng_upd_eq, c4, c9, c10, c11, c0 12 (by simp <;> omega), c0 11 (by simp <;> omega), ng_tr_fm hr.2.2.2.2]; simp [ng_yr, ng_yna]
  · rw [d2, ng_upd_ne (by omega), c5]; simp [ng_yr]
  · rw [d2, ng_upd_ne (by omega), c6]; simp [ng_yr]
  · rw [d2, ng_upd_ne (by omega), c7]; simp [ng_yr]
  · rw [d2, ng_upd_ne (by omega), c8]; simp [ng_yr]
  · rw [d2, ng_upd_ne (by omega), c9]
  · rw [d2, ng_upd_ne (by omega), c10]⟩
