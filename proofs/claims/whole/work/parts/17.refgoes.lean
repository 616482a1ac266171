/-! ===== the reference's year ===== -/
theorem ng_ybo_bd {a : ng_R} {t lf : Int32} {cm : Nat → Bool} {i : Nat} (hb : ng_bd a) (hi : i < 8) (hlf : 0 ≤ lf.toInt) : 0 ≤ (ng_ybo a t cm i lf).toInt ∧ (ng_ybo a t cm i lf).toInt ≤ lf.toInt ∧ (ng_ybo a t cm i lf).toInt ≤ 18 := by
  have q := (hb.2.1 i hi).2.2
  unfold ng_ybo
  by_cases c : cm i = true
  · rw [if_pos c]; exact ng_buys_bd hlf q.1.1 q.1.2 q.2.1 q.2.2
  · rw [if_neg c, ng_0]; omega
theorem ng_yon_bd {a : ng_R} {b : Int32} (hb : ng_bd a) (h0 : 0 ≤ b.toInt) (h1 : b.toInt ≤ 99) : (ng_yon a b).toInt = max 0 ((a 5).toInt + (a 4).toInt - b.toInt) ∧ (a 5 + a 4).toInt = (a 5).toInt + (a 4).toInt := by
  obtain ⟨-, -, -, -, h4, h5, -⟩ := hb
  have e1 : (a 5 + a 4).toInt = (a 5).toInt + (a 4).toInt := ng_addI (by omega) (by omega)
  have e2 : (a 5 + a 4 - b).toInt = (a 5).toInt + (a 4).toInt - b.toInt := by rw [ng_subI (by omega) (by omega), e1]
  refine ⟨?_, e1⟩
  rw [ng_yon, ng_maxI, ng_0, e2]
theorem ng_lf_bd {a : ng_R} {t on : Int32} {cm : Nat → Bool} (hb : ng_bd a) (h0 : 0 ≤ on.toInt) : ∀ i, i ≤ 8 → 0 ≤ (ng_lf (ng_ybo a t cm) on i).toInt ∧ (ng_lf (ng_ybo a t cm) on i).toInt ≤ on.toInt := by
  intro i
  induction i with
  | zero => intro _; exact ⟨h0, Int.le_refl _⟩
  | succ i ih =>
    intro hi
    obtain ⟨i1, i2⟩ := ih (by omega)
    have q := ng_ybo_bd (t := t) (cm := cm) hb (show i < 8 by omega) i1
    have hr := ng_rng on
    simp only [ng_lf]
    by_cases c : ng_ybo a t cm i (ng_lf (ng_ybo a t cm) on i) ≤ 0
    · rw [if_pos c]; exact ⟨i1, i2⟩
    · rw [if_neg c, ng_subI (by omega) (by omega)]; omega
theorem ng_lf_step {a : ng_R} {t on : Int32} {cm : Nat → Bool} (hb : ng_bd a) (h0 : 0 ≤ on.toInt) {i : Nat} (hi : i < 8) : (ng_lf (ng_ybo a t cm) on (i + 1)).toInt = (ng_lf (ng_ybo a t cm) on i).toInt - (ng_ybo a t cm i (ng_lf (ng_ybo a t cm) on i)).toInt := by
  obtain ⟨i1, i2⟩ := ng_lf_bd (t := t) (cm := cm) hb h0 i (by omega)
  have q := ng_ybo_bd (t := t) (cm := cm) hb hi i1
  have hr := ng_rng on
  simp only [ng_lf]
  by_cases c : ng_ybo a t cm i (ng_lf (ng_ybo a t cm) on i) ≤ 0
  · rw [if_pos c]; rw [ng_le, ng_0] at c; omega
  · rw [if_neg c, ng_subI (by omega) (by omega)]
theorem ng_ydu_bd {a : ng_R} {t : Int32} {i : Nat} (hb : ng_bd a) (ht : vp_in t 10) : 0 ≤ (ng_ydu a t i).toInt ∧ (ng_ydu a t i).toInt ≤ 9999 := by
  have := hb.1 _ (ng_vp_lt ht)
  exact ng_due_bd this.1 this.2
theorem ng_mul_bd {x y : Int} {p q : Int} (h1 : 0 ≤ x) (h2 : x ≤ p) (h3 : 0 ≤ y) (h4 : y ≤ q) (hp : 0 ≤ p) : 0 ≤ x * y ∧ x * y ≤ p * q := ⟨Int.mul_nonneg h1 h3, Int.mul_le_mul h2 h4 h3 hp⟩
theorem ng_pd_bd {a : ng_R} {t on : Int32} {cm : Nat → Bool} (hb : ng_bd a) (h0 : 0 ≤ on.toInt) (ht : vp_in t 10) : ∀ i, i ≤ 8 → (0 ≤ (ng_pd (ng_ybo a t cm) (ng_ydu a t) on i).toInt ∧ (ng_pd (ng_ybo a t cm) (ng_ydu a t) on i).toInt ≤ 179982 * (i : Int)) ∧ ∀ j, j + 1 = i → (ng_pd (ng_ybo a t cm) (ng_ydu a t) on i).toInt = (ng_pd (ng_ybo a t cm) (ng_ydu a t) on j).toInt + (ng_ybo a t cm j (ng_lf (ng_ybo a t cm) on j)).toInt * (ng_ydu a t j).toInt := by
  intro i
  induction i with
  | zero => intro _; exact ⟨⟨by show 0 ≤ (0 : Int32).toInt; decide, by show (0 : Int32).toInt ≤ _; decide⟩, fun j hj => by omega⟩
  | succ i ih =>
    intro hi
    obtain ⟨i1, -⟩ := ih (by omega)
    have l1 := ng_lf_bd (t := t) (cm := cm) hb h0 i (by omega)
    have q := ng_ybo_bd (t := t) (cm := cm) hb (show i < 8 by omega) l1.1
    have du := ng_ydu_bd (i := i) hb ht
    have mb := ng_mul_bd q.1 q.2.2 du.1 du.2 (by decide)
    have em : (ng_ybo a t cm i (ng_lf (ng_ybo a t cm) on i) * ng_ydu a t i).toInt = (ng_ybo a t cm i (ng_lf (ng_ybo a t cm) on i)).toInt * (ng_ydu a t i).toInt := ng_mulI (by omega) (by omega)
    have hi' : ((i + 1 : Nat) : Int) = (i : Int) + 1 := by omega
    have e : (ng_pd (ng_ybo a t cm) (ng_ydu a t) on (i + 1)).toInt = (ng_pd (ng_ybo a t cm) (ng_ydu a t) on i).toInt + (ng_ybo a t cm i (ng_lf (ng_ybo a t cm) on i)).toInt * (ng_ydu a t i).toInt := by
      simp only [ng_pd]
      by_cases c : ng_ybo a t cm i (ng_lf (ng_ybo a t cm) on i) ≤ 0
      · rw [if_pos c]
        rw [ng_le, ng_0] at c
        have z : (ng_ybo a t cm i (ng_lf (ng_ybo a t cm) on i)).toInt = 0 := by omega
        rw [z]; omega
      · rw [if_neg c, ng_addI (by rw [em]; omega) (by rw [em]; omega), em]
    refine ⟨⟨by rw [e]; omega, by rw [e]; omega⟩, fun j hj => ?_⟩
    have : j = i := by omega
    subst this
    exact e
/-- who comes in a year: all, or by draws -/
def ng_cf (a : ng_R) (dr : Bool) (i : Nat) : Bool := !dr || decide (ng_dr (ng_zi (a 10) (i + 1)) < a 3 + 1)
def ng_rz (a : ng_R) (dr : Bool) (i : Nat) : ng_R := match dr with
  | true => upd a 10 (ng_zi (a 10) i)
  | false => a
theorem ng_rz_ne {a : ng_R} {dr : Bool} {i k : Nat} (h : k ≠ 10) : ng_rz a dr i k = a k := by
  cases dr
  · rfl
  · exact ng_upd_ne h
theorem ng_pw_congr {c c' : Nat → Int32} (h : c = c') (L x1 x2 x3 x4 : Int32) : ng_pw c L x1 x2 x3 x4 = ng_pw c' L x1 x2 x3 x4 := by rw [h]
theorem ng_tc_congr {a a' : ng_R} {o : Nat} (ho : 100 ≤ o) (h : ∀ k, k ≠ 10 → a' k = a k) : ng_tc a' o = ng_tc a o := by
  funext j
  rw [ng_tc, ng_tc, h _ (by omega)]
theorem ng_ypl_congr {a a' : ng_R} (h : ∀ k, k ≠ 10 → a' k = a k) (i : Nat) : ng_ypl a' i = ng_ypl a i := by
  rw [ng_ypl, ng_ypl, ng_tc_congr (by decide) h, h 123 (by decide), h _ (by omega), h 3 (by decide), h 2 (by decide), h (11 + _) (by omega), h (24 + 4 * i) (by omega)]
theorem ng_ybu_congr {a a' : ng_R} (h : ∀ k, k ≠ 10 → a' k = a k) (t : Int32) (i : Nat) (lf : Int32) : ng_ybu a' t i lf = ng_ybu a t i lf := by
  rw [ng_ybu, ng_ybu, ng_ypl_congr h, h 3 (by decide), h 2 (by decide), h (11 + _) (by omega), h (24 + 4 * i) (by omega), h (21 + 4 * i) (by omega), h (23 + 4 * i) (by omega)]
theorem ng_ydu_congr {a a' : ng_R} (h : ∀ k, k ≠ 10 → a' k = a k) (t : Int32) (i : Nat) : ng_ydu a' t i = ng_ydu a t i := by
  rw [ng_ydu, ng_ydu, h (11 + _) (by omega), h (21 + 4 * i) (by omega)]
theorem ng_wfr_congr {a a' : ng_R} (h : ∀ k, k ≠ 10 → a' k = a k) (hw : ng_wfr a) : ng_wfr a' := by
  obtain ⟨⟨⟨⟨n, h1, h2⟩, h3, h4, h5⟩, h6, h7⟩, b1, b2, b3, b4, b5, b6, b7, b8⟩ := hw
  refine ⟨⟨⟨⟨n, by rw [h 1 (by decide)]; exact h1, h2⟩, by rw [h 2 (by decide)]; exact h3, by rw [ng_tc_congr (by decide) h, h 123 (by decide)]; exact h4, by rw [ng_tc_congr (by decide) h, h 175 (by decide)]; exact h5⟩, ?_, ?_⟩, ?_, ?_, ?_, ?_, ?_, ?_, ?_, ?_⟩
  · intro j hj; rw [h 123 (by decide)] at hj; rw [h _ (by omega)]; exact h6 j hj
  · intro j hj; rw [h 175 (by decide)] at hj; rw [h _ (by omega)]; exact h7 j hj
  · intro j hj; rw [h _ (by omega)]; exact b1 j hj
  · intro j hj; rw [h (21 + 4 * j) (by omega), h (22 + 4 * j) (by omega), h (23 + 4 * j) (by omega), h (24 + 4 * j) (by omega)]; exact b2 j hj
  · rw [h 2 (by decide)]; exact b3
  · rw [h 3 (by decide)]; exact b4
  · rw [h 4 (by decide)]; exact b5
  · rw [h 5 (by decide)]; exact b6
  · rw [h 6 (by decide)]; exact b7
  · rw [h 7 (by decide)]; exact b8
theorem ng_addL {x y : Int64} (h1 : -9223372036854775808 ≤ x.toInt + y.toInt) (h2 : x.toInt + y.toInt < 9223372036854775808) : (x + y).toInt = x.toInt + y.toInt := Kit.i64_add h1 h2
theorem ng_subL {x y : Int64} (h1 : -9223372036854775808 ≤ x.toInt - y.toInt) (h2 : x.toInt - y.toInt < 9223372036854775808) : (x - y).toInt = x.toInt - y.toInt := Kit.i64_sub h1 h2
theorem ng_mulL {x y : Int64} (h1 : -9223372036854775808 ≤ x.toInt * y.toInt) (h2 : x.toInt * y.toInt < 9223372036854775808) : (x * y).toInt = x.toInt * y.toInt := Kit.i64_mul h1 h2
/-- the first of its two rows of buyers: what holds ahead of buyer i -/
def ng_g1 (M : ng_M) (a : ng_R) (t b : Int32) (dr : Bool) (i : Nat) (sd : Int32) (pu : Int64) (M1 : ng_M) : Prop :=
  sd.toInt = (ng_yon a b).toInt - (ng_lf (ng_ybo a t (ng_cf a dr)) (ng_yon a b) i).toInt ∧ pu.toInt = (a 6).toInt + (ng_pd (ng_ybo a t (ng_cf a dr)) (ng_ydu a t) (ng_yon a b) i).toInt ∧ ng_off [74, 81, 82, 83] M M1 ∧ M1 74 = ng_rz a dr i ∧ ∀ j, j < i → M1 83 j = ng_ybo a t (ng_cf a dr) j (ng_lf (ng_ybo a t (ng_cf a dr)) (ng_yon a b) j)
/-- what is added to its numbers by a buyer -/
theorem ng_g1_nums {a : ng_R} {t b : Int32} {dr : Bool} {i : Nat} {sd v : Int32} {pu : Int64} (hw : ng_bd a) (hi8 : i < 8) (ht : vp_in t 10) (hb0 : 0 ≤ b.toInt) (hb1 : b.toInt ≤ 99) (hsd : sd.toInt = (ng_yon a b).toInt - (ng_lf (ng_ybo a t (ng_cf a dr)) (ng_yon a b) i).toInt) (hpu : pu.toInt = (a 6).toInt + (ng_pd (ng_ybo a t (ng_cf a dr)) (ng_ydu a t) (ng_yon a b) i).toInt) (hv : v = ng_ybo a t (ng_cf a dr) i (ng_lf (ng_ybo a t (ng_cf a dr)) (ng_yon a b) i)) :
    (sd + v).toInt = (ng_yon a b).toInt - (ng_lf (ng_ybo a t (ng_cf a dr)) (ng_yon a b) (i + 1)).toInt ∧ (pu + v.toInt64 * (ng_ydu a t i).toInt64).toInt = (a 6).toInt + (ng_pd (ng_ybo a t (ng_cf a dr)) (ng_ydu a t) (ng_yon a b) (i + 1)).toInt := by
  have hon := (ng_yon_bd hw hb0 hb1).1
  have hon0 : 0 ≤ (ng_yon a b).toInt := by omega
  have honr := ng_rng (ng_yon a b)
  have l1 := ng_lf_bd (t := t) (cm := ng_cf a dr) hw hon0 i (by omega)
  have hls := ng_lf_step (t := t) (cm := ng_cf a dr) hw hon0 hi8
  have q := ng_ybo_bd (t := t) (cm := ng_cf a dr) hw hi8 l1.1
  have du := ng_ydu_bd (i := i) hw ht
  have mb := ng_mul_bd q.1 q.2.2 du.1 du.2 (by decide)
  have pd0 := (ng_pd_bd (cm := ng_cf a dr) hw hon0 ht i (by omega)).1
  have pd1 := (ng_pd_bd (cm := ng_cf a dr) hw hon0 ht (i + 1) (by omega)).2 i rfl
  obtain ⟨-, -, -, -, -, -, g6, -⟩ := id hw
  rw [← hv] at hls q mb pd1
  have ev : v.toInt64.toInt = v.toInt := Kit.i64_of_i32 v
  have ed : (ng_ydu a t i).toInt64.toInt = (ng_ydu a t i).toInt := Kit.i64_of_i32 _
  generalize (ng_ydu a t i).toInt64 = D at ed ⊢
  generalize v.toInt64 = V at ev ⊢
  have em : (V * D).toInt = v.toInt * (ng_ydu a t i).toInt := by rw [ng_mulL (by rw [ev, ed]; omega) (by rw [ev, ed]; omega), ev, ed]
  refine ⟨?_, ?_⟩
  · rw [ng_addI (by omega) (by omega), hls, hsd]; omega
  · rw [ng_addL (by rw [em, hpu]; omega) (by rw [em, hpu]; omega), em, hpu, pd1]; omega
theorem ng_g1_left {a : ng_R} {t b : Int32} {dr : Bool} {i : Nat} {sd : Int32} (hw : ng_bd a) (hi8 : i < 8) (hb0 : 0 ≤ b.toInt) (hb1 : b.toInt ≤ 99) (hsd : sd.toInt = (ng_yon a b).toInt - (ng_lf (ng_ybo a t (ng_cf a dr)) (ng_yon a b) i).toInt) : ng_yon a b - sd = ng_lf (ng_ybo a t (ng_cf a dr)) (ng_yon a b) i ∧ 0 ≤ (ng_lf (ng_ybo a t (ng_cf a dr)) (ng_yon a b) i).toInt := by
  have hon := (ng_yon_bd hw hb0 hb1).1
  have hon0 : 0 ≤ (ng_yon a b).toInt := by omega
  have honr := ng_rng (ng_yon a b)
  have l1 := ng_lf_bd (t := t) (cm := ng_cf a dr) hw hon0 i (by omega)
  refine ⟨ng_i_eq ?_, l1.1⟩
  rw [ng_subI (by omega) (by omega)]; omega
theorem l_X9_goesF {X : Nat × (Nat → Int32)} {M : ng_M} {a : ng_R} {t b : Int32} {dr : Bool} {i : Nat} {sd : Int32} {pu : Int64} {F : Option Value → ng_M → Prop} {x11 : Option Value} (hw : ng_bd a) (hi8 : i < 8) (ht : vp_in t 10) (hb0 : 0 ≤ b.toInt) (hb1 : b.toInt ≤ 99)
    (ih : ∀ (sd : Int32) (pu : Int64) (x10 x11 : Option Value) (M1 : ng_M), ng_g1 M a t b dr (i + 1) sd pu M1 → ng_Go X mi_X9_goes 7 41 [some (.ref 73), some (.int t), some (.int b), some (.int (ng_bi dr)), some (.int (a 5 + a 4)), some (.int (ng_yon a b)), some (.int sd), some (.long pu), none, some (.int (nI (i + 1))), x10, x11] [] M1 F)
    (hsd : sd.toInt = (ng_yon a b).toInt - (ng_lf (ng_ybo a t (ng_cf a dr)) (ng_yon a b) i).toInt) (hpu : pu.toInt = (a 6).toInt + (ng_pd (ng_ybo a t (ng_cf a dr)) (ng_ydu a t) (ng_yon a b) i).toInt) {v : Int32} {y10 : Option Value} {M2 : ng_M} (hnl : ng_nl y10 = true) (hv : v = ng_ybo a t (ng_cf a dr) i (ng_lf (ng_ybo a t (ng_cf a dr)) (ng_yon a b) i)) (hM2 : ng_off [74, 81, 82, 83] M M2) (h742 : M2 74 = ng_rz a dr (i + 1)) (h832 : ∀ j, j < i → M2 83 j = ng_ybo a t (ng_cf a dr) j (ng_lf (ng_ybo a t (ng_cf a dr)) (ng_yon a b) j)) :
    ng_Go X mi_X9_goes 7 101 [some (.ref 73), some (.int t), some (.int b), some (.int (ng_bi dr)), some (.int (a 5 + a 4)), some (.int (ng_yon a b)), some (.int sd), some (.long pu), none, some (.int (nI i)), y10, x11] [.int v] M2 F := by
  have hvi : vp_in (nI i) 8 := vp_in_nI (by omega) (by omega)
  have e2 : ng_ydu (ng_row M2 83 (upd (M2 83) i v) 74) t i = ng_ydu a t i := by
    rw [ng_row_ne (by decide)]
    exact ng_ydu_congr (fun k hk => by rw [h742, ng_rz_ne hk]) t i
  have hnu := ng_g1_nums hw hi8 ht hb0 hb1 hsd hpu hv
  refine ng_istore_11 dX9_goes_101 (by first | rfl | assumption) ?_
  refine ng_aload_0 dX9_goes_103 ?_
  refine ng_gR dX9_goes_104 fl_X9_45 (by first | rfl | assumption) ?_
  refine ng_iload_9 dX9_goes_107 ?_
  refine ng_iload_11 dX9_goes_109 ?_
  refine ng_iastL (j := i) dX9_goes_111 (by first | rfl | assumption) (by first | assumption | (unfold vp_in; decide)) (by first | assumption | exact nI_clamp (by omega)) ?_
  refine ng_lload_7 dX9_goes_112 ?_
  refine ng_iload_11 dX9_goes_114 ?_
  refine ng_i2l dX9_goes_116 ?_
  refine ng_aload_0 dX9_goes_117 ?_
  refine ng_iload_9 dX9_goes_118 ?_
  refine ng_iload_1 dX9_goes_120 ?_
  refine ng_callV_2x (y2 := mi_X9_dueOf) dX9_goes_121 lk_X9_126 ms_X9_dueOf my_X9_dueOf (by first | exact ⟨_, rfl⟩ | assumption | exact ng_fld_obj (f := 0) (by assumption)) mc_X9 (by first | decide | exact Nat.le_of_ble_eq_true rfl) (s_X9_dueOf rfl hi8 ht) (by decide) ?_
  refine ng_i2l dX9_goes_124 ?_
  refine ng_lmul dX9_goes_125 ?_
  refine ng_ladd dX9_goes_126 ?_
  refine ng_lstore_7 dX9_goes_127 (by first | rfl | assumption) ?_
  refine ng_iload_6 dX9_goes_129 ?_
  refine ng_iload_11 dX9_goes_131 ?_
  refine ng_iadd dX9_goes_133 ?_
  refine ng_istore_6 dX9_goes_134 (by first | rfl | assumption) ?_
  refine ng_iinc_9 (w := 1) dX9_goes_136 (by decide) rfl ?_
  refine ng_goto 41 dX9_goes_139 (by decide +kernel) ?_
  rw [nI_1, e2]
  refine ih _ _ _ _ _ ⟨hnu.1, hnu.2, ng_off.row hM2 (by simp), by rw [ng_row_ne (by decide)]; exact h742, fun j hj => ?_⟩
  rw [ng_row_eq]
  by_cases e : j = i
  · subst e; rw [ng_upd_eq]; exact hv
  · rw [ng_upd_ne e]; exact h832 j (by omega)
theorem l_X9_goesC {X : Nat × (Nat → Int32)} {M : ng_M} {a : ng_R} {t b : Int32} {dr : Bool} {i : Nat} {sd : Int32} {pu : Int64} {F : Option Value → ng_M → Prop} {x10 x11 : Option Value} (hw : ng_wfr a) (hi8 : i < 8) (ht : vp_in t 10) (hb0 : 0 ≤ b.toInt) (hb1 : b.toInt ≤ 99)
    (ih : ∀ (sd : Int32) (pu : Int64) (x10 x11 : Option Value) (M1 : ng_M), ng_g1 M a t b dr (i + 1) sd pu M1 → ng_Go X mi_X9_goes 7 41 [some (.ref 73), some (.int t), some (.int b), some (.int (ng_bi dr)), some (.int (a 5 + a 4)), some (.int (ng_yon a b)), some (.int sd), some (.long pu), none, some (.int (nI (i + 1))), x10, x11] [] M1 F)
    (hsd : sd.toInt = (ng_yon a b).toInt - (ng_lf (ng_ybo a t (ng_cf a dr)) (ng_yon a b) i).toInt) (hpu : pu.toInt = (a 6).toInt + (ng_pd (ng_ybo a t (ng_cf a dr)) (ng_ydu a t) (ng_yon a b) i).toInt) {M2 : ng_M} (hc : ng_cf a dr i = true) (hM2 : ng_off [74, 81, 82, 83] M M2) (h742 : M2 74 = ng_rz a dr (i + 1)) (h832 : ∀ j, j < i → M2 83 j = ng_ybo a t (ng_cf a dr) j (ng_lf (ng_ybo a t (ng_cf a dr)) (ng_yon a b) j)) :
    ng_Go X mi_X9_goes 7 73 [some (.ref 73), some (.int t), some (.int b), some (.int (ng_bi dr)), some (.int (a 5 + a 4)), some (.int (ng_yon a b)), some (.int sd), some (.long pu), none, some (.int (nI i)), x10, x11] [] M2 F := by
  have hcg : ∀ k, k ≠ 10 → M2 74 k = a k := fun k hk => by rw [h742, ng_rz_ne hk]
  obtain ⟨hlf, hl0⟩ := ng_g1_left (t := t) (dr := dr) hw.2 hi8 hb0 hb1 hsd
  refine ng_iconst_1 dX9_goes_73 ?_
  refine ng_goto 78 dX9_goes_74 (by decide +kernel) ?_
  refine ng_istore_10 dX9_goes_78 (by first | rfl | assumption) ?_
  refine ng_iload_10 dX9_goes_80 ?_
  refine ng_if_eq 100 dX9_goes_82 (by decide +kernel) (fun h82 => ?_) (fun h82 => ?_)
  · exact absurd h82 (by decide)
  · refine ng_aload_0 dX9_goes_85 ?_
    refine ng_iload_9 dX9_goes_86 ?_
    refine ng_iload_1 dX9_goes_88 ?_
    refine ng_iload_5 dX9_goes_89 ?_
    refine ng_iload_6 dX9_goes_91 ?_
    refine ng_isub dX9_goes_93 ?_
    refine ng_callV_3i (y2 := mi_X9_buysOf) dX9_goes_94 lk_X9_135 ms_X9_buysOf my_X9_buysOf (by first | exact ⟨_, rfl⟩ | assumption | exact ng_fld_obj (f := 0) (by assumption)) mc_X9 (by first | decide | exact Nat.le_of_ble_eq_true rfl) (s_X9_buysOf (i := i) (ng_wfr_congr hcg hw) rfl hi8 ht (by rw [hlf]; exact hl0)) (by decide) (fun v M3 hv => ?_)
    refine ng_goto 101 dX9_goes_97 (by decide +kernel) ?_
    obtain ⟨hv1, hv2⟩ := hv
    refine l_X9_goesF hw.2 hi8 ht hb0 hb1 ih hsd hpu rfl ?_ (fun k hk => by simp at hk; rw [hv2 k (by simp <;> omega)]; exact hM2 k (by simp <;> omega)) (by rw [hv2 74 (by simp)]; exact h742) (fun j hj => by rw [hv2 83 (by simp)]; exact h832 j hj)
    rw [hv1, ng_ybu_congr hcg, hlf, ng_ybo, if_pos hc]
theorem l_X9_goesT0 {X : Nat × (Nat → Int32)} {M M1 : ng_M} {a : ng_R} {n i : Nat} {t b sd : Int32} {pu : Int64} {x10 x11 : Option Value} (hw : ng_wfr a) (hn : a 1 = nI n) (hn8 : n ≤ 8) (hin : i < n) (ht : vp_in t 10) (hb0 : 0 ≤ b.toInt) (hb1 : b.toInt ≤ 99) {F : Option Value → ng_M → Prop} (ih : ∀ (sd : Int32) (pu : Int64) (x10 x11 : Option Value) (M1 : ng_M), ng_g1 M a t b false (i + 1) sd pu M1 → ng_Go X mi_X9_goes 7 41 [some (.ref 73), some (.int t), some (.int b), some (.int (ng_bi false)), some (.int (a 5 + a 4)), some (.int (ng_yon a b)), some (.int sd), some (.long pu), none, some (.int (nI (i + 1))), x10, x11] [] M1 F) (hg : ng_g1 M a t b false i sd pu M1) :
    ng_Go X mi_X9_goes 7 41 [some (.ref 73), some (.int t), some (.int b), some (.int (ng_bi false)), some (.int (a 5 + a 4)), some (.int (ng_yon a b)), some (.int sd), some (.long pu), none, some (.int (nI i)), x10, x11] [] M1 F := by
  obtain ⟨hsd, hpu, hM, h74, h83⟩ := hg
  have hm : M1 74 1 = nI n := by rw [h74, ng_rz_ne (by decide)]; exact hn
  have hi8 : i < 8 := by omega
  have hlt : ¬ M1 74 1 ≤ nI i := by rw [hm]; exact nI_ge (by omega) (by omega)
  refine ng_iload_9 dX9_goes_41 ?_
  refine ng_aload_0 dX9_goes_43 ?_
  refine ng_gR dX9_goes_44 fl_X9_9 (by first | rfl | assumption) ?_
  refine ng_iconst_1 dX9_goes_47 ?_
  refine ng_ialdL (j := 1) dX9_goes_48 (by first | rfl | assumption) (by first | assumption | (unfold vp_in; decide)) (by decide) ?_
  refine ng_icmp_ge 142 dX9_goes_49 (by decide +kernel) (fun h49 => ?_) (fun h49 => ?_)
  · exact absurd h49 hlt
  · refine ng_iload_3 dX9_goes_52 ?_
    refine ng_ifb_eq 73 dX9_goes_53 (by decide +kernel) (fun h53 => ?_) (fun h53 => ?_)
    · exact l_X9_goesC hw hi8 ht hb0 hb1 ih hsd hpu rfl hM h74 h83
    · exact absurd h53 (by decide)
theorem l_X9_goesT1 {X : Nat × (Nat → Int32)} {M M1 : ng_M} {a : ng_R} {n i : Nat} {t b sd : Int32} {pu : Int64} {x10 x11 : Option Value} (hw : ng_wfr a) (hn : a 1 = nI n) (hn8 : n ≤ 8) (hin : i < n) (ht : vp_in t 10) (hb0 : 0 ≤ b.toInt) (hb1 : b.toInt ≤ 99) {F : Option Value → ng_M → Prop} (ih : ∀ (sd : Int32) (pu : Int64) (x10 x11 : Option Value) (M1 : ng_M), ng_g1 M a t b true (i + 1) sd pu M1 → ng_Go X mi_X9_goes 7 41 [some (.ref 73), some (.int t), some (.int b), some (.int (ng_bi true)), some (.int (a 5 + a 4)), some (.int (ng_yon a b)), some (.int sd), some (.long pu), none, some (.int (nI (i + 1))), x10, x11] [] M1 F) (hg : ng_g1 M a t b true i sd pu M1) :
    ng_Go X mi_X9_goes 7 41 [some (.ref 73), some (.int t), some (.int b), some (.int (ng_bi true)), some (.int (a 5 + a 4)), some (.int (ng_yon a b)), some (.int sd), some (.long pu), none, some (.int (nI i)), x10, x11] [] M1 F := by
  obtain ⟨hsd, hpu, hM, h74, h83⟩ := hg
  have hm : M1 74 1 = nI n := by rw [h74, ng_rz_ne (by decide)]; exact hn
  have hi8 : i < 8 := by omega
  have hlt : ¬ M1 74 1 ≤ nI i := by rw [hm]; exact nI_ge (by omega) (by omega)
  have hz : ng_row M1 74 (upd (M1 74) 10 (ng_z (M1 74 10))) 74 = ng_rz a true (i + 1) := by
    rw [ng_row_eq, h74]
    funext k
    by_cases e : k = 10
    · subst e; simp [ng_rz, upd, ng_zi]
    · simp [ng_rz, upd, e]
  have hd1 : ng_dr (ng_z (M1 74 10)) = ng_dr (ng_zi (a 10) (i + 1)) := by rw [h74]; simp [ng_rz, upd, ng_zi]
  have h3 : ng_row M1 74 (upd (M1 74) 10 (ng_z (M1 74 10))) 74 3 = a 3 := by rw [hz, ng_rz_ne (by decide)]
  have hM2 : ng_off [74, 81, 82, 83] M (ng_row M1 74 (upd (M1 74) 10 (ng_z (M1 74 10)))) := ng_off.row hM (by simp)
  have h832 : ∀ j, j < i → ng_row M1 74 (upd (M1 74) 10 (ng_z (M1 74 10))) 83 j = ng_ybo a t (ng_cf a true) j (ng_lf (ng_ybo a t (ng_cf a true)) (ng_yon a b) j) := fun j hj => by rw [ng_row_ne (by decide)]; exact h83 j hj
  refine ng_iload_9 dX9_goes_41 ?_
  refine ng_aload_0 dX9_goes_43 ?_
  refine ng_gR dX9_goes_44 fl_X9_9 (by first | rfl | assumption) ?_
  refine ng_iconst_1 dX9_goes_47 ?_
  refine ng_ialdL (j := 1) dX9_goes_48 (by first | rfl | assumption) (by first | assumption | (unfold vp_in; decide)) (by decide) ?_
  refine ng_icmp_ge 142 dX9_goes_49 (by decide +kernel) (fun h49 => ?_) (fun h49 => ?_)
  · exact absurd h49 hlt
  · refine ng_iload_3 dX9_goes_52 ?_
    refine ng_ifb_eq 73 dX9_goes_53 (by decide +kernel) (fun h53 => ?_) (fun h53 => ?_)
    · exact absurd h53 (by decide)
    · refine ng_aload_0 dX9_goes_56 ?_
      refine ng_bipush (v := 13) dX9_goes_57 (by decide) ?_
      refine ng_callV_1x (y2 := mi_X9_drawn) dX9_goes_59 lk_X9_206 ms_X9_drawn my_X9_drawn (by first | exact ⟨_, rfl⟩ | assumption | exact ng_fld_obj (f := 0) (by assumption)) mc_X9 (by first | decide | exact Nat.le_of_ble_eq_true rfl) (s_X9_drawn) (by decide) ?_
      refine ng_aload_0 dX9_goes_62 ?_
      refine ng_gR dX9_goes_63 fl_X9_9 (by first | rfl | assumption) ?_
      refine ng_iconst_3 dX9_goes_66 ?_
      refine ng_ialdL (j := 3) dX9_goes_67 (by first | rfl | assumption) (by first | assumption | (unfold vp_in; decide)) (by decide) ?_
      refine ng_iconst_1 dX9_goes_68 ?_
      refine ng_iadd dX9_goes_69 ?_
      refine ng_icmp_ge 77 dX9_goes_70 (by decide +kernel) (fun h70 => ?_) (fun h70 => ?_)
      · refine ng_iconst_0 dX9_goes_77 ?_
        refine ng_istore_10 dX9_goes_78 (by first | rfl | assumption) ?_
        refine ng_iload_10 dX9_goes_80 ?_
        refine ng_if_eq 100 dX9_goes_82 (by decide +kernel) (fun h82 => ?_) (fun h82 => ?_)
        · refine ng_iconst_0 dX9_goes_100 ?_
          refine l_X9_goesF hw.2 hi8 ht hb0 hb1 ih hsd hpu rfl ?_ hM2 hz h832
          rw [hd1, h3] at h70
          have : ng_cf a true i = false := decide_eq_false (Int32.not_lt.mpr h70)
          rw [ng_ybo, this, if_neg (by decide)]
        · exact absurd (by decide) h82
      · refine l_X9_goesC hw hi8 ht hb0 hb1 ih hsd hpu ?_ hM2 hz h832
        rw [hd1, h3] at h70
        exact decide_eq_true (Int32.not_le.mp h70)
theorem l_X9_goes1 {X : Nat × (Nat → Int32)} {M : ng_M} {a : ng_R} {n : Nat} {t b : Int32} {dr : Bool} (hw : ng_wfr a) (hn : a 1 = nI n) (hn8 : n ≤ 8) (ht : vp_in t 10) (hb0 : 0 ≤ b.toInt) (hb1 : b.toInt ≤ 99) {F : Option Value → ng_M → Prop}
    (kk : ∀ (sd : Int32) (pu : Int64) (x10 x11 : Option Value) (M1 : ng_M), ng_g1 M a t b dr n sd pu M1 → ng_Go X mi_X9_goes 7 142 [some (.ref 73), some (.int t), some (.int b), some (.int (ng_bi dr)), some (.int (a 5 + a 4)), some (.int (ng_yon a b)), some (.int sd), some (.long pu), none, some (.int (nI n)), x10, x11] [] M1 F) :
    ∀ (m i : Nat), i + m = n → ∀ (sd : Int32) (pu : Int64) (x10 x11 : Option Value) (M1 : ng_M), ng_g1 M a t b dr i sd pu M1 →
      ng_Go X mi_X9_goes 7 41 [some (.ref 73), some (.int t), some (.int b), some (.int (ng_bi dr)), some (.int (a 5 + a 4)), some (.int (ng_yon a b)), some (.int sd), some (.long pu), none, some (.int (nI i)), x10, x11] [] M1 F := by
  intro m
  induction m with
  | zero =>
    intro i hi sd pu x10 x11 M1 hg
    have hin : i = n := by omega
    subst hin
    have hm : M1 74 1 = nI i := by rw [hg.2.2.2.1, ng_rz_ne (by decide)]; exact hn
    refine ng_iload_9 dX9_goes_41 ?_
    refine ng_aload_0 dX9_goes_43 ?_
    refine ng_gR dX9_goes_44 fl_X9_9 (by first | rfl | assumption) ?_
    refine ng_iconst_1 dX9_goes_47 ?_
    refine ng_ialdL (j := 1) dX9_goes_48 (by first | rfl | assumption) (by first | assumption | (unfold vp_in; decide)) (by decide) ?_
    refine ng_icmp_ge 142 dX9_goes_49 (by decide +kernel) (fun h49 => ?_) (fun h49 => ?_)
    · exact kk sd pu x10 x11 M1 hg
    · exact absurd (by rw [hm]; exact Int32.le_refl _) h49
  | succ m ih =>
    intro i hi sd pu x10 x11 M1 hg
    have ih := ih (i + 1) (by omega)
    cases dr with
    | false => exact l_X9_goesT0 hw hn hn8 (by omega) ht hb0 hb1 ih hg
    | true => exact l_X9_goesT1 hw hn hn8 (by omega) ht hb0 hb1 ih hg
