/-! ===== pair: life ===== -/
theorem ng_updd {f : Nat → Int32} {k : Nat} {v w : Int32} : upd (upd f k v) k w = upd f k w := by
  funext j
  by_cases q : j = k
  · subst q; rw [ng_upd_eq, ng_upd_eq]
  · rw [ng_upd_ne q, ng_upd_ne q, ng_upd_ne q]
theorem ng_bits : ∀ i, i < 8 → ∀ c, c < 2 ^ i → (nI c ||| ((1 : Int32) <<< (nI i &&& 31)) = nI (c + 2 ^ i)) ∧ ng_cm (nI c) i = false ∧ ∀ j, j ≤ i → ng_cm (nI (c + 2 ^ i)) j = (if j = i then true else ng_cm (nI c) j) := by decide +kernel
def ng_D (z nm : Int32) (j : Nat) : Bool := decide (ng_dr (ng_zi z (j + 1)) < nm + 1)
theorem l_X7_drawn {X : Nat × (Nat → Int32)} {M : ng_M} {n : Nat} (hn : M 2 6 = nI n) (hn8 : n ≤ 8) : ∀ (m i c : Nat), i + m = n → c < 2 ^ i → (∀ j, j < i → ng_cm (nI c) j = ng_D (M 1 7) (M 15 4) j) →
    ng_Go X mi_X7_drawn 1 4 [some (.ref 1), some (.int (nI c)), some (.int (nI i))] [] (ng_row M 1 (upd (M 1) 7 (ng_zi (M 1 7) i))) (fun r' M' => ∃ v, r' = some (.int v) ∧ M' = ng_row M 1 (upd (M 1) 7 (ng_zi (M 1 7) n)) ∧ ∀ j, j < n → ng_cm v j = ng_D (M 1 7) (M 15 4) j) := by
  intro m
  induction m with
  | zero =>
    intro i c hi hc hj
    have hi2 : i = n := by omega
    subst hi2
    refine ng_iload_2 dX7_drawn_4 ?_
    refine ng_aload_0 dX7_drawn_5 ?_
    refine ng_gR dX7_drawn_6 fl_X7_12 (by first | rfl | assumption) ?_
    refine ng_gI dX7_drawn_9 fl_X7_59 (by first | rfl | assumption) ?_
    refine ng_icmp_ge 64 dX7_drawn_12 (by decide +kernel) (fun h12 => ?_) (fun h12 => ?_)
    · refine ng_iload_1 dX7_drawn_64 ?_
      exact ng_ireturn dX7_drawn_65 ⟨_, rfl, rfl, hj⟩
    · exact absurd (show M 2 6 ≤ nI i by rw [hn]; exact Int32.le_refl _) h12
  | succ m ih =>
    intro i c hi hc hj
    have eM : ng_row (ng_row M 1 (upd (M 1) 7 (ng_zi (M 1 7) i))) 1 (upd (ng_row M 1 (upd (M 1) 7 (ng_zi (M 1 7) i)) 1) 7 (ng_row M 1 (upd (M 1) 7 (ng_zi (M 1 7) i)) 1 7 * 1103515245 + 12345)) = ng_row M 1 (upd (M 1) 7 (ng_zi (M 1 7) (i + 1))) := by
      rw [ng_row_row, ng_row_eq, ng_updd, ng_upd_eq]
      rfl
    obtain ⟨b1, b2, b3⟩ := ng_bits i (by omega) c hc
    have hp : 2 ^ (i + 1) = 2 ^ i + 2 ^ i := by rw [Nat.pow_succ]; omega
    refine ng_iload_2 dX7_drawn_4 ?_
    refine ng_aload_0 dX7_drawn_5 ?_
    refine ng_gR dX7_drawn_6 fl_X7_12 (by first | rfl | assumption) ?_
    refine ng_gI dX7_drawn_9 fl_X7_59 (by first | rfl | assumption) ?_
    refine ng_icmp_ge 64 dX7_drawn_12 (by decide +kernel) (fun h12 => ?_) (fun h12 => ?_)
    · exact absurd (show nI n ≤ nI i by rw [← hn]; exact h12) (nI_ge (by omega) (by omega))
    · refine ng_aload_0 dX7_drawn_15 ?_
      refine ng_aload_0 dX7_drawn_16 ?_
      refine ng_gI dX7_drawn_17 fl_X7_34 (by first | rfl | assumption) ?_
      refine ng_ldc dX7_drawn_20 kc_X7_74 ?_
      refine ng_imul dX7_drawn_22 ?_
      refine ng_sipush (v := 12345) dX7_drawn_23 (by decide) ?_
      refine ng_iadd dX7_drawn_26 ?_
      refine ng_pI dX7_drawn_27 fp_X7_34 (by first | rfl | assumption) rfl rfl ?_
      rw [eM]
      refine ng_aload_0 dX7_drawn_30 ?_
      refine ng_gI dX7_drawn_31 fl_X7_34 (by first | rfl | assumption) ?_
      refine ng_bipush (v := 8) dX7_drawn_34 (by decide) ?_
      refine ng_iushr dX7_drawn_36 ?_
      refine ng_bipush (v := 13) dX7_drawn_37 (by decide) ?_
      refine ng_irem dX7_drawn_39 (by first | decide | assumption) ?_
      refine ng_aload_0 dX7_drawn_40 ?_
      refine ng_gR dX7_drawn_41 fl_X7_23 (by first | rfl | assumption) ?_
      refine ng_gI dX7_drawn_44 fl_X7_75 (by first | rfl | assumption) ?_
      refine ng_iconst_1 dX7_drawn_47 ?_
      refine ng_iadd dX7_drawn_48 ?_
      have hz : ng_row M 1 (upd (M 1) 7 (ng_zi (M 1 7) (i + 1))) 1 7 = ng_zi (M 1 7) (i + 1) := by rw [ng_row_eq, ng_upd_eq]
      rw [hz]
      refine ng_icmp_ge 58 dX7_drawn_49 (by decide +kernel) (fun h49 => ?_) (fun h49 => ?_)
      · refine ng_iinc_2 (w := 1) dX7_drawn_58 (by decide) rfl ?_
        refine ng_goto 4 dX7_drawn_61 (by decide +kernel) ?_
        rw [nI_1]
        first
        | (have d : ng_D (M 1 7) (M 15 4) i = false := decide_eq_false (Int32.not_lt.mpr h49)
           refine ih (i + 1) c (by omega) (by omega) (fun j hji => ?_)
           by_cases q : j = i
           · subst q; rw [d]; exact b2
           · exact hj j (by omega))
        | (have d : ng_D (M 1 7) (M 15 4) i = true := decide_eq_true (Int32.not_le.mp h49)
           rw [b1]
           refine ih (i + 1) (c + 2 ^ i) (by omega) (by omega) (fun j hji => ?_)
           rw [b3 j (by omega)]
           by_cases q : j = i
           · subst q; rw [if_pos rfl, d]
           · rw [if_neg q]; exact hj j (by omega))
      · refine ng_iload_1 dX7_drawn_52 ?_
        refine ng_iconst_1 dX7_drawn_53 ?_
        refine ng_iload_2 dX7_drawn_54 ?_
        refine ng_ishl dX7_drawn_55 ?_
        refine ng_ior dX7_drawn_56 ?_
        refine ng_istore_1 dX7_drawn_57 (by first | rfl | assumption) ?_
        refine ng_iinc_2 (w := 1) dX7_drawn_58 (by decide) rfl ?_
        refine ng_goto 4 dX7_drawn_61 (by decide +kernel) ?_
        rw [nI_1]
        first
        | (have d : ng_D (M 1 7) (M 15 4) i = false := decide_eq_false (Int32.not_lt.mpr h49)
           refine ih (i + 1) c (by omega) (by omega) (fun j hji => ?_)
           by_cases q : j = i
           · subst q; rw [d]; exact b2
           · exact hj j (by omega))
        | (have d : ng_D (M 1 7) (M 15 4) i = true := decide_eq_true (Int32.not_le.mp h49)
           rw [b1]
           refine ih (i + 1) (c + 2 ^ i) (by omega) (by omega) (fun j hji => ?_)
           rw [b3 j (by omega)]
           by_cases q : j = i
           · subst q; rw [if_pos rfl, d]
           · rw [if_neg q]; exact hj j (by omega))
theorem s_X7_drawn {X : Nat × (Nat → Int32)} {M : ng_M} {n : Nat} (hn : M 2 6 = nI n) (hn8 : n ≤ 8) : ng_EvI X 1 mi_X7_drawn [.ref 1] M (fun r M1 => M1 = ng_row M 1 (upd (M 1) 7 (ng_zi (M 1 7) n)) ∧ ∀ j, j < n → ng_cm r j = ng_D (M 1 7) (M 15 4) j) := by
  refine ng_EvI.of (lv := [some (.ref 1), none, none]) (ty := .int) (by decide) (Nat.le_of_ble_eq_true rfl) rfl rfl (fun _ _ _ => rfl) ?_
  refine ng_iconst_0 dX7_drawn_0 ?_
  refine ng_istore_1 dX7_drawn_1 (by first | rfl | assumption) ?_
  refine ng_iconst_0 dX7_drawn_2 ?_
  refine ng_istore_2 dX7_drawn_3 (by first | rfl | assumption) ?_
  have e0 : ng_row M 1 (upd (M 1) 7 (ng_zi (M 1 7) 0)) = M := by
    funext k
    by_cases q : k = 1
    · subst q
      rw [ng_row_eq]
      funext j
      by_cases q : j = 7
      · subst q; rw [ng_upd_eq]; rfl
      · rw [ng_upd_ne q]
    · rw [ng_row_ne q]
  have z := l_X7_drawn (X := X) hn hn8 n 0 0 (by omega) (by decide) (fun j hj => by omega)
  rw [e0] at z
  exact z
def ng_lives (a : ng_R) (t : Int32) : Nat → ng_R
  | 0 => a
  | n + 1 => ng_yz (ng_lives a t n) t 0 true
def ng_lsd (a : ng_R) (t : Int32) : Nat → Int32
  | 0 => 0
  | n + 1 => ng_lsd a t n + ng_ysd (ng_lives a t n) t 0 (ng_cf (ng_lives a t n) true)
theorem ng_yz_t {a : ng_R} {t b : Int32} : ng_yz a t b true = upd (ng_yr a t b (ng_cf a true)) 10 (ng_zi (a 10) (ng_yn a)) := by
  funext k
  unfold ng_yz
  by_cases q : k = 10
  · subst q; rw [if_pos rfl, ng_upd_eq, ng_rz, ng_upd_eq]
  · rw [if_neg q, ng_upd_ne q]
theorem ng_okY.yz {a : ng_R} {t : Int32} (h : ng_okY a) (ht : vp_in t 10) : ng_okY (ng_yz a t 0 true) := by
  rw [ng_yz_t]
  have r := ng_rng (ng_zi (a 10) (ng_yn a))
  exact (h.yr ht (by decide) (by decide)).upd (by decide) (by show (-2147483648 : Int) ≤ _; omega) (by show _ ≤ (2147483647 : Int); omega)
theorem ng_okY.lives {a : ng_R} {t : Int32} (h : ng_okY a) (ht : vp_in t 10) : ∀ n, ng_okY (ng_lives a t n)
  | 0 => h
  | n + 1 => (ng_okY.lives h ht n).yz ht
theorem ng_lives0 {a : ng_R} {t : Int32} : ∀ n, ng_lives a t n 0 = a 0 + nI n
  | 0 => by rw [ng_lives]; exact (Int32.add_zero _).symm
  | n + 1 => by
    have e : ng_lives a t (n + 1) 0 = ng_lives a t n 0 + 1 := by rw [ng_lives, ng_yz_t, ng_upd_ne (by decide)]; simp [ng_yr]
    rw [e, ng_lives0 n, ← nI_1, Int32.add_assoc]
theorem ng_yz_hi {a : ng_R} {t b : Int32} {k : Nat} (h : k = 1 ∨ k = 4 ∨ (7 ≤ k ∧ k < 24) ∨ (24 ≤ k ∧ k % 4 ≠ 0) ∨ 56 ≤ k) (h10 : k ≠ 10) : ng_yz a t b true k = a k := by
  rw [ng_yz_t, ng_upd_ne h10, ng_yr_hi h]
/-- a year of a life, the class's rows -/
theorem ng_rep_live {M1 M2 M3 : ng_M} {b : ng_R} {t come : Int32} (h : ng_rep M1 1 b) (hok : ng_okY b) (h2 : ng_off [1] M1 M2) (h16 : M2 1 = upd (upd (M1 1) 6 (M1 1 6 + 1)) 7 (ng_zi (M1 1 7) (ng_yn b))) (hc : ∀ j, j < ng_yn b → ng_cm come j = ng_D (M1 1 7) (M1 15 4) j) (h3 : ng_gone M2 15 b t 0 come M3) : ng_rep M3 1 (ng_yz b t 0 true) ∧ M3 15 9 = ng_ysd b t 0 (ng_cf b true) := by
  have hI := h.rl
  obtain ⟨g1, g2, g3, -⟩ := h3
  have ecm : ∀ i, i < ng_yn b → ng_cm come i = ng_cf b true i := fun i hi => by
    rw [hc i hi, ng_D, hI.2.2.2.2.2.1, hI.2.1.2.2.1]; rfl
  have e := ng_yr_cm (a := b) (t := t) (b := 0) ecm
  rw [e.1] at g2
  rw [e.2.1] at g3
  have eM : ∀ k, k ∉ [1, 9, 10, 13, 14, 15, 16, 17] → M3 k = M1 k := fun k hk => by
    simp at hk
    rw [g1 k (by simp; omega), h2 k (by simp; omega)]
  have e1 : M3 1 = upd (upd (M1 1) 6 (M1 1 6 + 1)) 7 (ng_zi (M1 1 7) (ng_yn b)) := by rw [g1 1 (by decide), h16]
  refine ⟨ng_rep.mk (hI.1.kept (fun k hk => eM k (by simp at hk ⊢; omega)) (fun k hk => ng_yz_hi (by omega) (by omega))) ?_ ?_ ?_ ?_ ?_ (fun j hj => ?_) (fun j hj => ?_), g3⟩
  · obtain ⟨s1, s2, s3, s4, s5, s6, s7⟩ := g2
    rw [ng_yz_t]
    refine ⟨fun j hj => ?_, ?_, ?_, ?_, ?_, ?_, ?_⟩
    · rw [ng_upd_ne (by omega)]; exact s1 j hj
    · rw [ng_upd_ne (by decide)]; exact s2
    · rw [ng_upd_ne (by decide)]; exact s3
    · rw [ng_upd_ne (by decide)]; exact s4
    · rw [ng_upd_ne (by decide)]; exact s5
    · rw [ng_upd_ne (by decide)]; exact s6
    · rw [ng_upd_ne (by decide)]; exact s7
  · rw [e1, ng_upd_ne (by decide), ng_upd_eq, hI.2.2.1, ng_yz_t, ng_upd_ne (by decide)]; simp [ng_yr]
  · rw [e1, ng_upd_ne (by decide), ng_upd_ne (by decide), hI.2.2.2.1, ng_yz_hi (by omega) (by omega)]
  · rw [e1, ng_upd_ne (by decide), ng_upd_ne (by decide), hI.2.2.2.2.1, ng_yz_hi (by omega) (by omega)]
  · rw [e1, ng_upd_eq, hI.2.2.2.2.2.1, ng_yz_t, ng_upd_eq]
  · rw [eM 18 (by decide), ng_yz_hi (by omega) (by omega)]; exact hI.2.2.2.2.2.2.1 j hj
  · rw [eM 19 (by decide), ng_yz_hi (by omega) (by omega)]; exact hI.2.2.2.2.2.2.2 j hj
theorem l_X8_life {X : Nat × (Nat → Int32)} {M : ng_M} {a : ng_R} {t : Int32} {N : Nat} (hok : ng_okY a) (ht : vp_in t 10) (hN : N ≤ 30) : ∀ (m i : Nat) (M1 : ng_M), i + m = N → ng_rep M1 1 (ng_lives a t i) → (∀ k, (k = 0 ∨ 20 ≤ k) → M1 k = M k) →
    ng_Go X mi_X8_life 6 51 [some (.ref 0), some (.int (nI N)), some (.int t), some (.int (ng_lsd a t i)), some (.int (nI i))] [] M1 (fun r' M' => ∃ v, r' = some (.int v) ∧ v = ng_lsd a t N ∧ ng_rep M' 1 (ng_lives a t N) ∧ ∀ k, (k = 0 ∨ 20 ≤ k) → M' k = M k) := by
  intro m
  induction m with
  | zero =>
    intro i M1 hi h ho
    have hi2 : i = N := by omega
    subst hi2
    refine ng_iload_4 dX8_life_51 ?_
    refine ng_iload_1 dX8_life_53 ?_
    refine ng_icmp_ge 108 dX8_life_54 (by decide +kernel) (fun h54 => ?_) (fun h54 => ?_)
    · refine ng_iload_3 dX8_life_108 ?_
      exact ng_ireturn dX8_life_109 ⟨_, rfl, rfl, h, ho⟩
    · exact absurd (Int32.le_refl _) h54
  | succ m ih =>
    intro i M1 hi h ho
    have hI := h.rl
    have hb := hok.lives ht i
    obtain ⟨n, hn, hn8⟩ := hb.wfr.1.1.1
    have e26 : M1 2 6 = nI n := hI.1.2.2.1.trans hn
    refine ng_iload_4 dX8_life_51 ?_
    refine ng_iload_1 dX8_life_53 ?_
    refine ng_icmp_ge 108 dX8_life_54 (by decide +kernel) (fun h54 => ?_) (fun h54 => ?_)
    · exact absurd h54 (nI_ge (by omega) (by omega))
    · refine ng_aload_0 dX8_life_57 ?_
      refine ng_gR dX8_life_58 fl_X8_12 (by first | rfl | assumption) ?_
      refine ng_dup dX8_life_61 rfl ?_
      refine ng_gI dX8_life_62 fl_X8_188 (by first | rfl | assumption) ?_
      refine ng_iconst_1 dX8_life_65 ?_
      refine ng_iadd dX8_life_66 ?_
      refine ng_pI dX8_life_67 fp_X8_188 (by first | rfl | assumption) rfl rfl ?_
      refine ng_aload_0 dX8_life_70 ?_
      refine ng_gR dX8_life_71 fl_X8_12 (by first | rfl | assumption) ?_
      refine ng_gR dX8_life_74 fl_X8_81 (by first | rfl | assumption) ?_
      refine ng_iload_2 dX8_life_77 ?_
      refine ng_iconst_0 dX8_life_78 ?_
      refine ng_aload_0 dX8_life_79 ?_
      refine ng_gR dX8_life_80 fl_X8_12 (by first | rfl | assumption) ?_
      refine ng_callV_0i (y2 := mi_X7_drawn) dX8_life_83 lk_X8_206 ms_X7_drawn my_X7_drawn (by first | exact ⟨_, rfl⟩ | assumption | exact ng_fld_obj (f := 0) (by assumption)) mc_X7 (by first | decide | exact Nat.le_of_ble_eq_true rfl) (s_X7_drawn (n := n) (by rw [ng_row_ne (by decide)]; exact e26) hn8) (by decide) (fun come M2 hd => ?_)
      obtain ⟨hd1, hd2⟩ := hd
      have o2 : ng_off [1] M1 M2 := by
        rw [hd1]
        exact (ng_off.rf.row (by decide)).row (by decide)
      have e21 : M2 1 = upd (upd (M1 1) 6 (M1 1 6 + 1)) 7 (ng_zi (M1 1 7) (ng_yn (ng_lives a t i))) := by rw [hd1, ng_yn_of hn hn8]; simp [ng_row, upd]
      have hcm : ∀ j, j < ng_yn (ng_lives a t i) → ng_cm come j = ng_D (M1 1 7) (M1 15 4) j := by rw [ng_yn_of hn hn8]; exact hd2
      refine ng_callV_3w (y2 := mi_X5_goes) dX8_life_86 lk_X8_192 ms_X5_goes my_X5_goes (by first | exact ⟨_, rfl⟩ | assumption | exact ng_fld_obj (f := 0) (by assumption)) mc_X5 (by first | decide | exact Nat.le_of_ble_eq_true rfl) (s_X5_goes (s := 15) (a := ng_lives a t i) (Or.inl rfl) (hI.1.kept (fun k hk => o2 k (by simp at hk ⊢; omega)) (fun _ _ => rfl)) (by unfold ng_sv; rw [o2 15 (by decide), o2 (15 + 1) (by decide)]; exact hI.2.1) hb.wfr.1.1 ht) (by decide) (fun M3 hg => ?_)
      obtain ⟨r1, r2⟩ := ng_rep_live h hb o2 e21 hcm hg
      have ho3 : ∀ k, (k = 0 ∨ 20 ≤ k) → M3 k = M k := fun k hk => by rw [hg.1 k (by simp; omega), o2 k (by simp; omega)]; exact ho k hk
      refine ng_iload_3 dX8_life_89 ?_
      refine ng_aload_0 dX8_life_90 ?_
      refine ng_gR dX8_life_91 fl_X8_12 (by first | rfl | assumption) ?_
      refine ng_gR dX8_life_94 fl_X8_81 (by first | rfl | assumption) ?_
      refine ng_gI dX8_life_97 fl_X8_196 (by first | rfl | assumption) ?_
      rw [r2]
      refine ng_iadd dX8_life_100 ?_
      refine ng_istore_3 dX8_life_101 (by first | rfl | assumption) ?_
      refine ng_iinc_4 (w := 1) dX8_life_102 (by decide) rfl ?_
      refine ng_goto 51 dX8_life_105 (by decide +kernel) ?_
      rw [nI_1]
      exact ih (i + 1) M3 (by omega) r1 ho3
abbrev ok_life (n t : Int32) : Bool := ng_in n 1 30 && ng_in t 0 9
theorem ng_n30 {n : Int32} (h : ng_in n 1 30 = true) : ∃ N : Nat, n = nI N ∧ 1 ≤ N ∧ N ≤ 30 := by
  have q := ng_inT.mp h
  rw [ng_1, show (30 : Int32).toInt = 30 by decide] at q
  obtain ⟨N, hN, e⟩ := nI_of (x := n) (by rw [ng_lt, ng_0]; omega)
  rw [e, nI_toInt hN] at q
  exact ⟨N, e, by omega, by omega⟩
theorem c_life {X : Nat × (Nat → Int32)} {M : ng_M} {n t : Int32} (h : ng_I1 M) : ng_EvI X 6 mi_X8_life [.ref 0, .int n, .int t] M (fun r M1 => if ok_life n t then (if M 74 0 + n ≤ 199 then (r = ng_lsd (M 74) t n.toNatClampNeg ∧ ng_rep M1 1 (ng_lives (M 74) t n.toNatClampNeg) ∧ ∀ k, (k = 0 ∨ 20 ≤ k) → M1 k = M k) else (r = -1000000003 ∧ M1 = ng_cfl M 3)) else (r = -1000000001 ∧ M1 = ng_cfl M 1)) := by
  refine ng_EvI.of (lv := [some (.ref 0), some (.int n), some (.int t), none, none]) (ty := .int) (by decide) (Nat.le_of_ble_eq_true rfl) rfl rfl (fun _ _ _ => rfl) ?_
  have e0 : M 1 6 = M 74 0 := h.1.rl.2.2.1
  refine ng_iload_1 dX8_life_0 ?_
  refine ng_iconst_1 dX8_life_1 ?_
  refine ng_bipush (v := 30) dX8_life_2 (by decide) ?_
  refine ng_callS_3x (y2 := mi_X8_isWithin) dX8_life_4 lk_X8_61 ms_X8_isWithin my_X8_isWithin (by first | decide | exact Nat.le_of_ble_eq_true rfl) (s_X8_isWithin) (by decide) ?_
  refine ng_ifb_eq 17 dX8_life_7 (by decide +kernel) (fun h7 => ?_) (fun h7 => ?_)
  · refine ng_aload_0 dX8_life_17 ?_
    refine ng_ldc dX8_life_18 kc_X8_65 ?_
    refine ng_callV_1x (y2 := mi_X8_fails) dX8_life_20 lk_X8_66 ms_X8_fails my_X8_fails (by first | exact ⟨_, rfl⟩ | assumption | exact ng_fld_obj (f := 0) (by assumption)) mc_X8 (by first | decide | exact Nat.le_of_ble_eq_true rfl) (s_X8_fails (k := 1) (by decide) (by decide) (by decide)) (by decide) ?_
    exact ng_ireturn dX8_life_23 ⟨_, rfl, by rw [if_neg (by simp_all [ok_life])]; exact ⟨rfl, rfl⟩⟩
  · refine ng_iload_2 dX8_life_10 ?_
    refine ng_callS_1x (y2 := mi_X8_isStep) dX8_life_11 lk_X8_57 ms_X8_isStep my_X8_isStep (by first | decide | exact Nat.le_of_ble_eq_true rfl) (s_X8_isStep) (by decide) ?_
    refine ng_ifb_ne 24 dX8_life_14 (by decide +kernel) (fun h14 => ?_) (fun h14 => ?_)
    · have ht := (ng_vin h14 (n := 10) (by decide)).1
      have hkk : ok_life n t = true := by simp [ok_life, h7, h14]
      obtain ⟨N, hN, hN1, hN2⟩ := ng_n30 h7
      have hc : n.toNatClampNeg = N := by rw [hN, nI_clamp (by omega)]
      refine ng_aload_0 dX8_life_24 ?_
      refine ng_gR dX8_life_25 fl_X8_12 (by first | rfl | assumption) ?_
      refine ng_gI dX8_life_28 fl_X8_188 (by first | rfl | assumption) ?_
      rw [e0]
      refine ng_iload_1 dX8_life_31 ?_
      refine ng_iadd dX8_life_32 ?_
      refine ng_sipush (v := 199) dX8_life_33 (by decide) ?_
      refine ng_icmp_le 46 dX8_life_36 (by decide +kernel) (fun h36 => ?_) (fun h36 => ?_)
      · refine ng_iconst_0 dX8_life_46 ?_
        refine ng_istore_3 dX8_life_47 (by first | rfl | assumption) ?_
        refine ng_iconst_0 dX8_life_48 ?_
        refine ng_istore_4 dX8_life_49 (by first | rfl | assumption) ?_
        rw [hc]
        subst hN
        refine (l_X8_life h.2.Y ht hN2 N 0 M (by omega) h.1 (fun _ _ => rfl)).imp (fun r M2 q => ?_)
        obtain ⟨v, q1, q2⟩ := q
        exact ⟨v, q1, by rw [if_pos hkk, if_pos h36]; exact q2⟩
      · refine ng_aload_0 dX8_life_39 ?_
        refine ng_ldc dX8_life_40 kc_X8_191 ?_
        refine ng_callV_1x (y2 := mi_X8_fails) dX8_life_42 lk_X8_66 ms_X8_fails my_X8_fails (by first | exact ⟨_, rfl⟩ | assumption | exact ng_fld_obj (f := 0) (by assumption)) mc_X8 (by first | decide | exact Nat.le_of_ble_eq_true rfl) (s_X8_fails (k := 3) (by decide) (by decide) (by decide)) (by decide) ?_
        exact ng_ireturn dX8_life_45 ⟨_, rfl, by rw [if_pos hkk, if_neg h36]; exact ⟨rfl, rfl⟩⟩
    · refine ng_aload_0 dX8_life_17 ?_
      refine ng_ldc dX8_life_18 kc_X8_65 ?_
      refine ng_callV_1x (y2 := mi_X8_fails) dX8_life_20 lk_X8_66 ms_X8_fails my_X8_fails (by first | exact ⟨_, rfl⟩ | assumption | exact ng_fld_obj (f := 0) (by assumption)) mc_X8 (by first | decide | exact Nat.le_of_ble_eq_true rfl) (s_X8_fails (k := 1) (by decide) (by decide) (by decide)) (by decide) ?_
      exact ng_ireturn dX8_life_23 ⟨_, rfl, by rw [if_neg (by simp_all [ok_life])]; exact ⟨rfl, rfl⟩⟩
theorem l_X9_life {X : Nat × (Nat → Int32)} {M : ng_M} {a : ng_R} {t : Int32} {N : Nat} (hok : ng_okY a) (ht : vp_in t 10) (hN : N ≤ 30) : ∀ (m i : Nat) (M1 : ng_M), i + m = N → M1 74 = ng_lives a t i → ng_off [74, 81, 82, 83] M M1 →
    ng_Go X mi_X9_life 8 50 [some (.ref 73), some (.int (nI N)), some (.int t), some (.int (ng_lsd a t i)), some (.int (nI i))] [] M1 (fun r' M' => ∃ v, r' = some (.int v) ∧ v = ng_lsd a t N ∧ M' 74 = ng_lives a t N ∧ ng_off [74, 81, 82, 83] M M') := by
  intro m
  induction m with
  | zero =>
    intro i M1 hi h ho
    have hi2 : i = N := by omega
    subst hi2
    refine ng_iload_4 dX9_life_50 ?_
    refine ng_iload_1 dX9_life_52 ?_
    refine ng_icmp_ge 72 dX9_life_53 (by decide +kernel) (fun h53 => ?_) (fun h53 => ?_)
    · refine ng_iload_3 dX9_life_72 ?_
      exact ng_ireturn dX9_life_73 ⟨_, rfl, rfl, h, ho⟩
    · exact absurd (Int32.le_refl _) h53
  | succ m ih =>
    intro i M1 hi h ho
    refine ng_iload_4 dX9_life_50 ?_
    refine ng_iload_1 dX9_life_52 ?_
    refine ng_icmp_ge 72 dX9_life_53 (by decide +kernel) (fun h53 => ?_) (fun h53 => ?_)
    · exact absurd h53 (nI_ge (by omega) (by omega))
    · refine ng_iload_3 dX9_life_56 ?_
      refine ng_aload_0 dX9_life_57 ?_
      refine ng_iload_2 dX9_life_58 ?_
      refine ng_iconst_0 dX9_life_59 ?_
      refine ng_iconst_1 dX9_life_60 ?_
      refine ng_callV_3i (y2 := mi_X9_goes) dX9_life_61 lk_X9_219 ms_X9_goes my_X9_goes (by first | exact ⟨_, rfl⟩ | assumption | exact ng_fld_obj (f := 0) (by assumption)) mc_X9 (by first | decide | exact Nat.le_of_ble_eq_true rfl) (s_X9_goes (dr := true) (by rw [h]; exact (hok.lives ht i).wfr) ht (by decide) (by decide)) (by decide) (fun v M2 hg => ?_)
      obtain ⟨g1, g2, g3, -⟩ := hg
      rw [h] at g1 g2
      rw [g1]
      refine ng_iadd dX9_life_64 ?_
      refine ng_istore_3 dX9_life_65 (by first | rfl | assumption) ?_
      refine ng_iinc_4 (w := 1) dX9_life_66 (by decide) rfl ?_
      refine ng_goto 50 dX9_life_69 (by decide +kernel) ?_
      rw [nI_1]
      exact ih (i + 1) M2 (by omega) g2 (ho.tr g3)
theorem r_life {X : Nat × (Nat → Int32)} {M : ng_M} {n t : Int32} (h : ng_ok (M 74)) : ng_EvI X 8 mi_X9_life [.ref 73, .int n, .int t] M (fun r M1 => if ok_life n t then (if M 74 0 + n ≤ 199 then (r = ng_lsd (M 74) t n.toNatClampNeg ∧ M1 74 = ng_lives (M 74) t n.toNatClampNeg ∧ ng_off [74, 81, 82, 83] M M1) else (r = -1000000003 ∧ M1 = ng_rfl M 3)) else (r = -1000000001 ∧ M1 = ng_rfl M 1)) := by
  refine ng_EvI.of (lv := [some (.ref 73), some (.int n), some (.int t), none, none]) (ty := .int) (by decide) (Nat.le_of_ble_eq_true rfl) rfl rfl (fun _ _ _ => rfl) ?_
  refine ng_iload_1 dX9_life_0 ?_
  refine ng_iconst_1 dX9_life_1 ?_
  refine ng_bipush (v := 30) dX9_life_2 (by decide) ?_
  refine ng_callS_3x (y2 := mi_X9_within) dX9_life_4 lk_X9_80 ms_X9_within my_X9_within (by first | decide | exact Nat.le_of_ble_eq_true rfl) (s_X9_within) (by decide) ?_
  refine ng_ifb_eq 17 dX9_life_7 (by decide +kernel) (fun h7 => ?_) (fun h7 => ?_)
  · refine ng_aload_0 dX9_life_17 ?_
    refine ng_ldc dX9_life_18 kc_X9_91 ?_
    refine ng_callV_1x (y2 := mi_X9_finding) dX9_life_20 lk_X9_92 ms_X9_finding my_X9_finding (by first | exact ⟨_, rfl⟩ | assumption | exact ng_fld_obj (f := 0) (by assumption)) mc_X9 (by first | decide | exact Nat.le_of_ble_eq_true rfl) (s_X9_finding (k := 1) (by decide) (by decide) (by decide)) (by decide) ?_
    exact ng_ireturn dX9_life_23 ⟨_, rfl, by rw [if_neg (by simp_all [ok_life])]; exact ⟨rfl, rfl⟩⟩
  · refine ng_iload_2 dX9_life_10 ?_
    refine ng_callS_1x (y2 := mi_X9_isStep) dX9_life_11 lk_X9_84 ms_X9_isStep my_X9_isStep (by first | decide | exact Nat.le_of_ble_eq_true rfl) (s_X9_isStep) (by decide) ?_
    refine ng_ifb_ne 24 dX9_life_14 (by decide +kernel) (fun h14 => ?_) (fun h14 => ?_)
    · have ht := (ng_vin h14 (n := 10) (by decide)).1
      have hkk : ok_life n t = true := by simp [ok_life, h7, h14]
      obtain ⟨N, hN, hN1, hN2⟩ := ng_n30 h7
      have hc : n.toNatClampNeg = N := by rw [hN, nI_clamp (by omega)]
      refine ng_aload_0 dX9_life_24 ?_
      refine ng_gR dX9_life_25 fl_X9_9 (by first | rfl | assumption) ?_
      refine ng_iconst_0 dX9_life_28 ?_
      refine ng_ialdL (j := 0) dX9_life_29 (by first | rfl | assumption) (by first | assumption | (unfold vp_in; decide)) (by decide) ?_
      refine ng_iload_1 dX9_life_30 ?_
      refine ng_iadd dX9_life_31 ?_
      refine ng_sipush (v := 199) dX9_life_32 (by decide) ?_
      refine ng_icmp_le 45 dX9_life_35 (by decide +kernel) (fun h35 => ?_) (fun h35 => ?_)
      · refine ng_iconst_0 dX9_life_45 ?_
        refine ng_istore_3 dX9_life_46 (by first | rfl | assumption) ?_
        refine ng_iconst_0 dX9_life_47 ?_
        refine ng_istore_4 dX9_life_48 (by first | rfl | assumption) ?_
        rw [hc]
        subst hN
        refine (l_X9_life h.Y ht hN2 N 0 M (by omega) rfl ng_off.rf).imp (fun r M2 q => ?_)
        obtain ⟨v, q1, q2⟩ := q
        exact ⟨v, q1, by rw [if_pos hkk, if_pos h35]; exact q2⟩
      · refine ng_aload_0 dX9_life_38 ?_
        refine ng_ldc dX9_life_39 kc_X9_218 ?_
        refine ng_callV_1x (y2 := mi_X9_finding) dX9_life_41 lk_X9_92 ms_X9_finding my_X9_finding (by first | exact ⟨_, rfl⟩ | assumption | exact ng_fld_obj (f := 0) (by assumption)) mc_X9 (by first | decide | exact Nat.le_of_ble_eq_true rfl) (s_X9_finding (k := 3) (by decide) (by decide) (by decide)) (by decide) ?_
        exact ng_ireturn dX9_life_44 ⟨_, rfl, by rw [if_pos hkk, if_neg h35]; exact ⟨rfl, rfl⟩⟩
    · refine ng_aload_0 dX9_life_17 ?_
      refine ng_ldc dX9_life_18 kc_X9_91 ?_
      refine ng_callV_1x (y2 := mi_X9_finding) dX9_life_20 lk_X9_92 ms_X9_finding my_X9_finding (by first | exact ⟨_, rfl⟩ | assumption | exact ng_fld_obj (f := 0) (by assumption)) mc_X9 (by first | decide | exact Nat.le_of_ble_eq_true rfl) (s_X9_finding (k := 1) (by decide) (by decide) (by decide)) (by decide) ?_
      exact ng_ireturn dX9_life_23 ⟨_, rfl, by rw [if_neg (by simp_all [ok_life])]; exact ⟨rfl, rfl⟩⟩
theorem ng_inv_new2 {M M1 M2 : ng_M} {a : ng_R} (h : ng_inv M) (h1 : ng_rep M1 1 a) (hok : ng_ok a) (ho : ∀ k, (k = 0 ∨ 20 ≤ k) → M1 k = M k) (e : M2 74 = a) (o2 : ∀ k, k ≠ 74 → ¬ ng_rj k → M2 k = M1 k) (h3 : M2 73 3 = M1 73 3) (h19 : M2 73 19 = M1 73 19) : ng_inv M2 := by
  refine ng_inv_j (ng_inv_new h h1 hok ho) (fun k _ k2 => ?_) ?_ ?_
  · by_cases q : k = 74
    · subst q; rw [ng_row_eq]; exact e
    · rw [ng_row_ne q]; exact o2 k q k2
  · rw [ng_row_ne (by decide)]; exact h3
  · rw [ng_row_ne (by decide)]; exact h19
theorem pr_life {X : Nat × (Nat → Int32)} {M : ng_M} {n t : Int32} (h : ng_inv M) : ng_pair X mi_X8_life mi_X9_life [.int n, .int t] M := by
  refine ((c_life h.1).up (by decide)).imp (fun r1 M1 h1 => ?_)
  by_cases hok : ok_life n t = true
  · rw [if_pos hok] at h1
    by_cases hn : M 74 0 + n ≤ 199
    · rw [if_pos hn] at h1
      obtain ⟨e1, e2, e3⟩ := h1
      have e74 : M1 74 = M 74 := e3 74 (by decide)
      refine ((r_life (M := M1) (by rw [e74]; exact h.1.2)).up (by decide)).imp (fun r2 M2 h2 => ?_)
      rw [e74, if_pos hok, if_pos hn] at h2
      obtain ⟨f1, f2, f3⟩ := h2
      obtain ⟨q1, q2⟩ := Bool.and_eq_true_iff.mp hok
      obtain ⟨N, hN, hN1, hN2⟩ := ng_n30 q1
      have b0 : (0 : Int) ≤ (M 74 0).toInt ∧ (M 74 0).toInt ≤ 199 := h.1.2.1 0 (by decide)
      have es : (M 74 0 + n).toInt = (M 74 0).toInt + N := by
        rw [hN, ng_addI (by rw [nI_toInt (by omega)]; omega) (by rw [nI_toInt (by omega)]; omega), nI_toInt (by omega)]
      rw [ng_le, show (199 : Int32).toInt = 199 by decide] at hn
      have e0 : ng_lives (M 74) t n.toNatClampNeg 0 = M 74 0 + n := by
        rw [ng_lives0]
        congr 1
        rw [hN, nI_clamp (by omega)]
      refine ⟨by rw [e1, f1], ng_inv_new2 h e2 ((h.1.2.Y.lives (ng_vin q2 (n := 10) (by decide)).1 _).ok ?_ ?_) e3 f2 (fun k k1 k2 => f3 k (by unfold ng_rj at k2; simp; omega)) (by rw [f3 73 (by decide)]) (by rw [f3 73 (by decide)])⟩
      · rw [e0, es]; omega
      · rw [e0]; exact hn
    · rw [if_neg hn] at h1
      obtain ⟨e1, e2⟩ := h1
      subst r1
      subst M1
      refine ((r_life (M := ng_cfl M 3) h.1.2).up (by decide)).imp (fun r2 M2 h2 => ?_)
      rw [if_pos hok, if_neg (by exact hn)] at h2
      rw [h2.1, h2.2]
      exact ⟨rfl, ng_inv_err h⟩
  · rw [if_neg hok] at h1
    obtain ⟨e1, e2⟩ := h1
    subst r1
    subst M1
    refine ((r_life (M := ng_cfl M 1) h.1.2).up (by decide)).imp (fun r2 M2 h2 => ?_)
    rw [if_neg hok] at h2
    rw [h2.1, h2.2]
    exact ⟨rfl, ng_inv_err h⟩
