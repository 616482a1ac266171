theorem c_has {X : Nat × (Nat → Int32)} {M : ng_M} {b v : Int32} {n : Nat} (hn : M 2 6 = nI n) (hn8 : n ≤ 8) : ng_EvI X 3 mi_X8_has [.ref 0, .int b, .int v] M (fun r M1 => if ng_in b 0 (M 2 6 - 1) && ng_in v 0 9999 then (r = M 16 b.toNatClampNeg ∧ M1 = ng_row M 16 (upd (M 16) b.toNatClampNeg v)) else (r = -1000000001 ∧ M1 = ng_cfl M 1)) := by
  refine ng_EvI.of (lv := [some (.ref 0), some (.int b), some (.int v), none]) (ty := .int) (by decide) (Nat.le_of_ble_eq_true rfl) rfl rfl (fun _ _ _ => rfl) ?_
  refine ng_aload_0 dX8_has_0 ?_
  refine ng_gR dX8_has_1 fl_X8_12 (by first | rfl | assumption) ?_
  refine ng_gR dX8_has_4 fl_X8_21 (by first | rfl | assumption) ?_
  refine ng_iload_1 dX8_has_7 ?_
  refine ng_callV_1x (y2 := mi_X3_isBuyer) dX8_has_8 lk_X8_102 ms_X3_isBuyer my_X3_isBuyer (by first | exact ⟨_, rfl⟩ | assumption | exact ng_fld_obj (f := 0) (by assumption)) mc_X3 (by first | decide | exact Nat.le_of_ble_eq_true rfl) (s_X3_isBuyer) (by decide) ?_
  refine ng_ifb_eq 25 dX8_has_11 (by decide +kernel) (fun h11 => ?_) (fun h11 => ?_)
  · refine ng_aload_0 dX8_has_25 ?_
    refine ng_ldc dX8_has_26 kc_X8_65 ?_
    refine ng_callV_1x (y2 := mi_X8_fails) dX8_has_28 lk_X8_66 ms_X8_fails my_X8_fails (by first | exact ⟨_, rfl⟩ | assumption | exact ng_fld_obj (f := 0) (by assumption)) mc_X8 (by first | decide | exact Nat.le_of_ble_eq_true rfl) (s_X8_fails (k := 1) (by decide) (by decide) (by decide)) (by decide) ?_
    exact ng_ireturn dX8_has_31 ⟨_, rfl, by first | (simp [h11, h22]; done) | (simp [h11]; done)⟩
  · refine ng_iload_2 dX8_has_14 ?_
    refine ng_iconst_0 dX8_has_15 ?_
    refine ng_sipush (v := 9999) dX8_has_16 (by decide) ?_
    refine ng_callS_3x (y2 := mi_X8_isWithin) dX8_has_19 lk_X8_61 ms_X8_isWithin my_X8_isWithin (by first | decide | exact Nat.le_of_ble_eq_true rfl) (s_X8_isWithin) (by decide) ?_
    refine ng_ifb_ne 32 dX8_has_22 (by decide +kernel) (fun h22 => ?_) (fun h22 => ?_)
    · refine ng_aload_0 dX8_has_32 ?_
      refine ng_gR dX8_has_33 fl_X8_12 (by first | rfl | assumption) ?_
      refine ng_gR dX8_has_36 fl_X8_81 (by first | rfl | assumption) ?_
      refine ng_gR dX8_has_39 fl_X8_114 (by first | rfl | assumption) ?_
      refine ng_iload_1 dX8_has_42 ?_
      refine ng_iald dX8_has_43 (by first | rfl | assumption) (by exact (ng_vp_n h11 hn hn8).1) ?_
      refine ng_istore_3 dX8_has_44 (by first | rfl | assumption) ?_
      refine ng_aload_0 dX8_has_45 ?_
      refine ng_gR dX8_has_46 fl_X8_12 (by first | rfl | assumption) ?_
      refine ng_gR dX8_has_49 fl_X8_81 (by first | rfl | assumption) ?_
      refine ng_gR dX8_has_52 fl_X8_114 (by first | rfl | assumption) ?_
      refine ng_iload_1 dX8_has_55 ?_
      refine ng_iload_2 dX8_has_56 ?_
      refine ng_iast dX8_has_57 (by first | rfl | assumption) (by exact (ng_vp_n h11 hn hn8).1) ?_
      refine ng_iload_3 dX8_has_58 ?_
      exact ng_ireturn dX8_has_59 ⟨_, rfl, by first | (simp [h11, h22]; done) | (simp [h11]; done)⟩
    · refine ng_aload_0 dX8_has_25 ?_
      refine ng_ldc dX8_has_26 kc_X8_65 ?_
      refine ng_callV_1x (y2 := mi_X8_fails) dX8_has_28 lk_X8_66 ms_X8_fails my_X8_fails (by first | exact ⟨_, rfl⟩ | assumption | exact ng_fld_obj (f := 0) (by assumption)) mc_X8 (by first | decide | exact Nat.le_of_ble_eq_true rfl) (s_X8_fails (k := 1) (by decide) (by decide) (by decide)) (by decide) ?_
      exact ng_ireturn dX8_has_31 ⟨_, rfl, by first | (simp [h11, h22]; done) | (simp [h11]; done)⟩
theorem r_has {X : Nat × (Nat → Int32)} {M : ng_M} {b v : Int32} {n : Nat} (hn : M 74 1 = nI n) (hn8 : n ≤ 8) : ng_EvI X 3 mi_X9_has [.ref 73, .int b, .int v] M (fun r M1 => if ng_in b 0 (M 74 1 - 1) && ng_in v 0 9999 then (r = M 74 (24 + 4 * b.toNatClampNeg) ∧ M1 = ng_row M 74 (upd (M 74) (24 + 4 * b.toNatClampNeg) v)) else (r = -1000000001 ∧ M1 = ng_rfl M 1)) := by
  refine ng_EvI.of (lv := [some (.ref 73), some (.int b), some (.int v)]) (ty := .int) (by decide) (Nat.le_of_ble_eq_true rfl) rfl rfl (fun _ _ _ => rfl) ?_
  refine ng_aload_0 dX9_has_0 ?_
  refine ng_iload_1 dX9_has_1 ?_
  refine ng_callV_1x (y2 := mi_X9_is) dX9_has_2 lk_X9_105 ms_X9_is my_X9_is (by first | exact ⟨_, rfl⟩ | assumption | exact ng_fld_obj (f := 0) (by assumption)) mc_X9 (by first | decide | exact Nat.le_of_ble_eq_true rfl) (s_X9_is) (by decide) ?_
  refine ng_ifb_eq 35 dX9_has_5 (by decide +kernel) (fun h5 => ?_) (fun h5 => ?_)
  · refine ng_aload_0 dX9_has_35 ?_
    refine ng_ldc dX9_has_36 kc_X9_91 ?_
    refine ng_callV_1x (y2 := mi_X9_finding) dX9_has_38 lk_X9_92 ms_X9_finding my_X9_finding (by first | exact ⟨_, rfl⟩ | assumption | exact ng_fld_obj (f := 0) (by assumption)) mc_X9 (by first | decide | exact Nat.le_of_ble_eq_true rfl) (s_X9_finding (k := 1) (by decide) (by decide) (by decide)) (by decide) ?_
    exact ng_ireturn dX9_has_41 ⟨_, rfl, by first | (simp [h5, h16]; done) | (simp [h5]; done)⟩
  · refine ng_iload_2 dX9_has_8 ?_
    refine ng_iconst_0 dX9_has_9 ?_
    refine ng_sipush (v := 9999) dX9_has_10 (by decide) ?_
    refine ng_callS_3x (y2 := mi_X9_within) dX9_has_13 lk_X9_80 ms_X9_within my_X9_within (by first | decide | exact Nat.le_of_ble_eq_true rfl) (s_X9_within) (by decide) ?_
    refine ng_ifb_eq 35 dX9_has_16 (by decide +kernel) (fun h16 => ?_) (fun h16 => ?_)
    · refine ng_aload_0 dX9_has_35 ?_
      refine ng_ldc dX9_has_36 kc_X9_91 ?_
      refine ng_callV_1x (y2 := mi_X9_finding) dX9_has_38 lk_X9_92 ms_X9_finding my_X9_finding (by first | exact ⟨_, rfl⟩ | assumption | exact ng_fld_obj (f := 0) (by assumption)) mc_X9 (by first | decide | exact Nat.le_of_ble_eq_true rfl) (s_X9_finding (k := 1) (by decide) (by decide) (by decide)) (by decide) ?_
      exact ng_ireturn dX9_has_41 ⟨_, rfl, by first | (simp [h5, h16]; done) | (simp [h5]; done)⟩
    · refine ng_aload_0 dX9_has_19 ?_
      refine ng_bipush (v := 21) dX9_has_20 (by decide) ?_
      refine ng_iconst_4 dX9_has_22 ?_
      refine ng_iload_1 dX9_has_23 ?_
      refine ng_imul dX9_has_24 ?_
      refine ng_iadd dX9_has_25 ?_
      refine ng_iconst_3 dX9_has_26 ?_
      refine ng_iadd dX9_has_27 ?_
      refine ng_iload_2 dX9_has_28 ?_
      refine ng_callV_2x (y2 := mi_X9_become) dX9_has_29 lk_X9_88 ms_X9_become my_X9_become (by first | exact ⟨_, rfl⟩ | assumption | exact ng_fld_obj (f := 0) (by assumption)) mc_X9 (by first | decide | exact Nat.le_of_ble_eq_true rfl) (s_X9_become (k := 24 + 4 * b.toNatClampNeg) ((ng_ix_of (i := b.toNatClampNeg) (j := 3) (ng_vp_n h5 hn hn8).2.2 rfl).trans (by congr 1; omega)) (by have := (ng_vp_n h5 hn hn8).2.1; omega)) (by decide) ?_
      refine ng_goto 41 dX9_has_32 (by decide +kernel) ?_
      exact ng_ireturn dX9_has_41 ⟨_, rfl, by first | (simp [h5, h16]; done) | (simp [h5]; done)⟩
theorem pr_has {X : Nat × (Nat → Int32)} {M : ng_M} {b v : Int32} (h : ng_inv M) : ng_pair X mi_X8_has mi_X9_has [.int b, .int v] M := by
  have hI := h.1.1.rl
  obtain ⟨n, hn, hn8⟩ := h.1.2.wfr.1.1.1
  have hn2 : M 2 6 = M 74 1 := hI.1.2.2.1
  refine ng_pair.of (d8 := 3) (d9 := 3) (c_has (hn2.trans hn) hn8) (by decide) (by decide) (fun _ M1 h1 => r_has (show M1 74 1 = nI n from ?_) hn8) (fun r1 M1 h1 r2 M2 h2 => ?_)
  · by_cases hok : (ng_in b 0 (M 2 6 - 1) && ng_in v 0 9999) = true
    · rw [if_pos hok] at h1; rw [h1.2]; exact hn
    · rw [if_neg hok] at h1; rw [h1.2]; exact hn
  rw [hn2] at h1
  by_cases hok : (ng_in b 0 (M 74 1 - 1) && ng_in v 0 9999) = true
  · rw [if_pos hok] at h1
    obtain ⟨e1, e2⟩ := h1
    subst r1
    subst M1
    change if (ng_in b 0 (M 74 1 - 1) && ng_in v 0 9999) then _ else _ at h2
    rw [if_pos hok] at h2
    obtain ⟨e1, e2⟩ := h2
    subst r2
    subst M2
    obtain ⟨h4, h15⟩ := Bool.and_eq_true_iff.mp hok
    have hb := (ng_vp_n h4 hn hn8).2.1
    have hv := ng_inT.mp h15
    have bb := ng_b_ha b.toNatClampNeg (by omega)
    exact ⟨(hI.2.1.1 _ (by omega)).symm, ng_inv_set h (v := v) (by decide) (ng_loc_ha _ (by omega)) (by omega) (by rw [bb.1]; exact hv.1) (by rw [bb.2]; exact hv.2)⟩
  · rw [if_neg hok] at h1
    obtain ⟨e1, e2⟩ := h1
    subst r1
    subst M1
    change if (ng_in b 0 (M 74 1 - 1) && ng_in v 0 9999) then _ else _ at h2
    rw [if_neg hok] at h2
    obtain ⟨e1, e2⟩ := h2
    subst r2
    subst M2
    exact ⟨rfl, ng_inv_err h⟩
theorem sw_X8_ofBuyer_31 {X : Nat × (Nat → Int32)} {d : Nat} {lv : ng_L} {st : List Value} {M : ng_M} {F : Option Value → ng_M → Prop} {x : Int32} (k0 : x = 0 → ng_Go X mi_X8_ofBuyer d 56 lv st M F) (k1 : x = 1 → ng_Go X mi_X8_ofBuyer d 69 lv st M F) (k2 : x = 2 → ng_Go X mi_X8_ofBuyer d 82 lv st M F) (kd : ¬ x = 0 → ¬ x = 1 → ¬ x = 2 → ng_Go X mi_X8_ofBuyer d 95 lv st M F) : ng_Go X mi_X8_ofBuyer d 31 lv (.int x :: st) M F := by
  by_cases h0 : x = 0
  · subst h0
    intro l D cA ad A p e R s m args below meth c cells slots Q C fin H locs ls hP hS hl
    exact lv_tableIn (tgt := 56) (off := 25) C.1.1 C.1.2.1 dX8_ofBuyer_31 (by decide) (by decide) (by decide +kernel) (by decide) (k0 rfl l D cA ad A p e R s m args below meth c cells slots Q C fin H locs ls hP hS hl)
  by_cases h1 : x = 1
  · subst h1
    intro l D cA ad A p e R s m args below meth c cells slots Q C fin H locs ls hP hS hl
    exact lv_tableIn (tgt := 69) (off := 38) C.1.1 C.1.2.1 dX8_ofBuyer_31 (by decide) (by decide) (by decide +kernel) (by decide) (k1 rfl l D cA ad A p e R s m args below meth c cells slots Q C fin H locs ls hP hS hl)
  by_cases h2 : x = 2
  · subst h2
    intro l D cA ad A p e R s m args below meth c cells slots Q C fin H locs ls hP hS hl
    exact lv_tableIn (tgt := 82) (off := 51) C.1.1 C.1.2.1 dX8_ofBuyer_31 (by decide) (by decide) (by decide +kernel) (by decide) (k2 rfl l D cA ad A p e R s m args below meth c cells slots Q C fin H locs ls hP hS hl)
  intro l D cA ad A p e R s m args below meth c cells slots Q C fin H locs ls hP hS hl
  have g0 := lv_neT h0 (show (0 : Int32).toInt = 0 from by decide)
  have g1 := lv_neT h1 (show (1 : Int32).toInt = 1 from by decide)
  have g2 := lv_neT h2 (show (2 : Int32).toInt = 2 from by decide)
  exact lv_tableOut (tgt := 95) C.1.1 C.1.2.1 dX8_ofBuyer_31 (by omega) (by decide) (kd h0 h1 h2 l D cA ad A p e R s m args below meth c cells slots Q C fin H locs ls hP hS hl)
/-- where the class has what ofBuyer() asks for -/
def ng_obl (w : Int32) : Nat := if w = 0 then 4 else if w = 1 then 5 else if w = 2 then 6 else 16
theorem c_ofBuyer {X : Nat × (Nat → Int32)} {M : ng_M} {b w : Int32} {n : Nat} (hn : M 2 6 = nI n) (hn8 : n ≤ 8) : ng_EvI X 3 mi_X8_ofBuyer [.ref 0, .int b, .int w] M (fun r M1 => if ng_in b 0 (M 2 6 - 1) && ng_in w 0 3 then (r = M (ng_obl w) b.toNatClampNeg ∧ M1 = M) else (r = -1000000001 ∧ M1 = ng_cfl M 1)) := by
  refine ng_EvI.of (lv := [some (.ref 0), some (.int b), some (.int w)]) (ty := .int) (by decide) (Nat.le_of_ble_eq_true rfl) rfl rfl (fun _ _ _ => rfl) ?_
  refine ng_aload_0 dX8_ofBuyer_0 ?_
  refine ng_gR dX8_ofBuyer_1 fl_X8_12 (by first | rfl | assumption) ?_
  refine ng_gR dX8_ofBuyer_4 fl_X8_21 (by first | rfl | assumption) ?_
  refine ng_iload_1 dX8_ofBuyer_7 ?_
  refine ng_callV_1x (y2 := mi_X3_isBuyer) dX8_ofBuyer_8 lk_X8_102 ms_X3_isBuyer my_X3_isBuyer (by first | exact ⟨_, rfl⟩ | assumption | exact ng_fld_obj (f := 0) (by assumption)) mc_X3 (by first | decide | exact Nat.le_of_ble_eq_true rfl) (s_X3_isBuyer) (by decide) ?_
  refine ng_ifb_eq 23 dX8_ofBuyer_11 (by decide +kernel) (fun h11 => ?_) (fun h11 => ?_)
  · refine ng_aload_0 dX8_ofBuyer_23 ?_
    refine ng_ldc dX8_ofBuyer_24 kc_X8_65 ?_
    refine ng_callV_1x (y2 := mi_X8_fails) dX8_ofBuyer_26 lk_X8_66 ms_X8_fails my_X8_fails (by first | exact ⟨_, rfl⟩ | assumption | exact ng_fld_obj (f := 0) (by assumption)) mc_X8 (by first | decide | exact Nat.le_of_ble_eq_true rfl) (s_X8_fails (k := 1) (by decide) (by decide) (by decide)) (by decide) ?_
    exact ng_ireturn dX8_ofBuyer_29 ⟨_, rfl, by rw [if_neg (by simp_all)]; exact ⟨rfl, rfl⟩⟩
  · refine ng_iload_2 dX8_ofBuyer_14 ?_
    refine ng_iconst_0 dX8_ofBuyer_15 ?_
    refine ng_iconst_3 dX8_ofBuyer_16 ?_
    refine ng_callS_3x (y2 := mi_X8_isWithin) dX8_ofBuyer_17 lk_X8_61 ms_X8_isWithin my_X8_isWithin (by first | decide | exact Nat.le_of_ble_eq_true rfl) (s_X8_isWithin) (by decide) ?_
    refine ng_ifb_ne 30 dX8_ofBuyer_20 (by decide +kernel) (fun h20 => ?_) (fun h20 => ?_)
    · refine ng_iload_2 dX8_ofBuyer_30 ?_
      refine sw_X8_ofBuyer_31 (fun h31 => ?_) (fun h31 => ?_) (fun h31 => ?_) (fun h31n0 h31n1 h31n2 => ?_)
      · refine ng_aload_0 dX8_ofBuyer_56 ?_
        refine ng_gR dX8_ofBuyer_57 fl_X8_12 (by first | rfl | assumption) ?_
        refine ng_gR dX8_ofBuyer_60 fl_X8_21 (by first | rfl | assumption) ?_
        refine ng_gR dX8_ofBuyer_63 fl_X8_105 (by first | rfl | assumption) ?_
        refine ng_iload_1 dX8_ofBuyer_66 ?_
        refine ng_iald dX8_ofBuyer_67 (by first | rfl | assumption) (by exact (ng_vp_n h11 hn hn8).1) ?_
        exact ng_ireturn dX8_ofBuyer_68 ⟨_, rfl, by rw [if_pos (by simp [h11, h20])]; exact ⟨by simp [ng_obl, h31], rfl⟩⟩
      · refine ng_aload_0 dX8_ofBuyer_69 ?_
        refine ng_gR dX8_ofBuyer_70 fl_X8_12 (by first | rfl | assumption) ?_
        refine ng_gR dX8_ofBuyer_73 fl_X8_21 (by first | rfl | assumption) ?_
        refine ng_gR dX8_ofBuyer_76 fl_X8_108 (by first | rfl | assumption) ?_
        refine ng_iload_1 dX8_ofBuyer_79 ?_
        refine ng_iald dX8_ofBuyer_80 (by first | rfl | assumption) (by exact (ng_vp_n h11 hn hn8).1) ?_
        exact ng_ireturn dX8_ofBuyer_81 ⟨_, rfl, by rw [if_pos (by simp [h11, h20])]; exact ⟨by simp [ng_obl, h31], rfl⟩⟩
      · refine ng_aload_0 dX8_ofBuyer_82 ?_
        refine ng_gR dX8_ofBuyer_83 fl_X8_12 (by first | rfl | assumption) ?_
        refine ng_gR dX8_ofBuyer_86 fl_X8_21 (by first | rfl | assumption) ?_
        refine ng_gR dX8_ofBuyer_89 fl_X8_111 (by first | rfl | assumption) ?_
        refine ng_iload_1 dX8_ofBuyer_92 ?_
        refine ng_iald dX8_ofBuyer_93 (by first | rfl | assumption) (by exact (ng_vp_n h11 hn hn8).1) ?_
        exact ng_ireturn dX8_ofBuyer_94 ⟨_, rfl, by rw [if_pos (by simp [h11, h20])]; exact ⟨by simp [ng_obl, h31], rfl⟩⟩
      · refine ng_aload_0 dX8_ofBuyer_95 ?_
        refine ng_gR dX8_ofBuyer_96 fl_X8_12 (by first | rfl | assumption) ?_
        refine ng_gR dX8_ofBuyer_99 fl_X8_81 (by first | rfl | assumption) ?_
        refine ng_gR dX8_ofBuyer_102 fl_X8_114 (by first | rfl | assumption) ?_
        refine ng_iload_1 dX8_ofBuyer_105 ?_
        refine ng_iald dX8_ofBuyer_106 (by first | rfl | assumption) (by exact (ng_vp_n h11 hn hn8).1) ?_
        exact ng_ireturn dX8_ofBuyer_107 ⟨_, rfl, by rw [if_pos (by simp [h11, h20])]; exact ⟨by simp [ng_obl, h31n0, h31n1, h31n2], rfl⟩⟩
    · refine ng_aload_0 dX8_ofBuyer_23 ?_
      refine ng_ldc dX8_ofBuyer_24 kc_X8_65 ?_
      refine ng_callV_1x (y2 := mi_X8_fails) dX8_ofBuyer_26 lk_X8_66 ms_X8_fails my_X8_fails (by first | exact ⟨_, rfl⟩ | assumption | exact ng_fld_obj (f := 0) (by assumption)) mc_X8 (by first | decide | exact Nat.le_of_ble_eq_true rfl) (s_X8_fails (k := 1) (by decide) (by decide) (by decide)) (by decide) ?_
      exact ng_ireturn dX8_ofBuyer_29 ⟨_, rfl, by rw [if_neg (by simp_all)]; exact ⟨rfl, rfl⟩⟩
theorem ng_w3 {w : Int32} (h : ng_in w 0 3 = true) : w = nI w.toNatClampNeg ∧ w.toNatClampNeg < 4 := ⟨ng_nat (ng_vin h (n := 4) (by decide)).1, (ng_vin h (n := 4) (by decide)).2⟩
theorem r_ofBuyer {X : Nat × (Nat → Int32)} {M : ng_M} {b w : Int32} {n : Nat} (hn : M 74 1 = nI n) (hn8 : n ≤ 8) : ng_EvI X 3 mi_X9_ofBuyer [.ref 73, .int b, .int w] M (fun r M1 => if ng_in b 0 (M 74 1 - 1) && ng_in w 0 3 then (r = M 74 (21 + 4 * b.toNatClampNeg + w.toNatClampNeg) ∧ M1 = M) else (r = -1000000001 ∧ M1 = ng_rfl M 1)) := by
  refine ng_EvI.of (lv := [some (.ref 73), some (.int b), some (.int w)]) (ty := .int) (by decide) (Nat.le_of_ble_eq_true rfl) rfl rfl (fun _ _ _ => rfl) ?_
  refine ng_aload_0 dX9_ofBuyer_0 ?_
  refine ng_iload_1 dX9_ofBuyer_1 ?_
  refine ng_callV_1x (y2 := mi_X9_is) dX9_ofBuyer_2 lk_X9_105 ms_X9_is my_X9_is (by first | exact ⟨_, rfl⟩ | assumption | exact ng_fld_obj (f := 0) (by assumption)) mc_X9 (by first | decide | exact Nat.le_of_ble_eq_true rfl) (s_X9_is) (by decide) ?_
  refine ng_ifb_eq 26 dX9_ofBuyer_5 (by decide +kernel) (fun h5 => ?_) (fun h5 => ?_)
  · refine ng_aload_0 dX9_ofBuyer_26 ?_
    refine ng_ldc dX9_ofBuyer_27 kc_X9_91 ?_
    refine ng_callV_1x (y2 := mi_X9_finding) dX9_ofBuyer_29 lk_X9_92 ms_X9_finding my_X9_finding (by first | exact ⟨_, rfl⟩ | assumption | exact ng_fld_obj (f := 0) (by assumption)) mc_X9 (by first | decide | exact Nat.le_of_ble_eq_true rfl) (s_X9_finding (k := 1) (by decide) (by decide) (by decide)) (by decide) ?_
    exact ng_ireturn dX9_ofBuyer_32 ⟨_, rfl, by first | (simp [h5, h14]; done) | (simp [h5]; done)⟩
  · refine ng_iload_2 dX9_ofBuyer_8 ?_
    refine ng_iconst_0 dX9_ofBuyer_9 ?_
    refine ng_iconst_3 dX9_ofBuyer_10 ?_
    refine ng_callS_3x (y2 := mi_X9_within) dX9_ofBuyer_11 lk_X9_80 ms_X9_within my_X9_within (by first | decide | exact Nat.le_of_ble_eq_true rfl) (s_X9_within) (by decide) ?_
    refine ng_ifb_eq 26 dX9_ofBuyer_14 (by decide +kernel) (fun h14 => ?_) (fun h14 => ?_)
    · refine ng_aload_0 dX9_ofBuyer_26 ?_
      refine ng_ldc dX9_ofBuyer_27 kc_X9_91 ?_
      refine ng_callV_1x (y2 := mi_X9_finding) dX9_ofBuyer_29 lk_X9_92 ms_X9_finding my_X9_finding (by first | exact ⟨_, rfl⟩ | assumption | exact ng_fld_obj (f := 0) (by assumption)) mc_X9 (by first | decide | exact Nat.le_of_ble_eq_true rfl) (s_X9_finding (k := 1) (by decide) (by decide) (by decide)) (by decide) ?_
      exact ng_ireturn dX9_ofBuyer_32 ⟨_, rfl, by first | (simp [h5, h14]; done) | (simp [h5]; done)⟩
    · refine ng_aload_0 dX9_ofBuyer_17 ?_
      refine ng_iload_1 dX9_ofBuyer_18 ?_
      refine ng_iload_2 dX9_ofBuyer_19 ?_
      refine ng_callV_2x (y2 := mi_X9_of) dX9_ofBuyer_20 lk_X9_108 ms_X9_of my_X9_of (by first | exact ⟨_, rfl⟩ | assumption | exact ng_fld_obj (f := 0) (by assumption)) mc_X9 (by first | decide | exact Nat.le_of_ble_eq_true rfl) (s_X9_of (i := b.toNatClampNeg) (j := w.toNatClampNeg) (ng_vp_n h5 hn hn8).2.2 (ng_w3 h14).1 (by have := (ng_vp_n h5 hn hn8).2.1; omega) (ng_w3 h14).2) (by decide) ?_
      refine ng_goto 32 dX9_ofBuyer_23 (by decide +kernel) ?_
      exact ng_ireturn dX9_ofBuyer_32 ⟨_, rfl, by first | (simp [h5, h14]; done) | (simp [h5]; done)⟩
theorem pr_ofBuyer {X : Nat × (Nat → Int32)} {M : ng_M} {b w : Int32} (h : ng_inv M) : ng_pair X mi_X8_ofBuyer mi_X9_ofBuyer [.int b, .int w] M := by
  have hI := h.1.1.rl
  obtain ⟨n, hn, hn8⟩ := h.1.2.wfr.1.1.1
  have hn2 : M 2 6 = M 74 1 := hI.1.2.2.1
  refine ng_pair.of (d8 := 3) (d9 := 3) (c_ofBuyer (hn2.trans hn) hn8) (by decide) (by decide) (fun _ M1 h1 => r_ofBuyer (show M1 74 1 = nI n from ?_) hn8) (fun r1 M1 h1 r2 M2 h2 => ?_)
  · by_cases hok : (ng_in b 0 (M 2 6 - 1) && ng_in w 0 3) = true
    · rw [if_pos hok] at h1; rw [h1.2]; exact hn
    · rw [if_neg hok] at h1; rw [h1.2]; exact hn
  rw [hn2] at h1
  by_cases hok : (ng_in b 0 (M 74 1 - 1) && ng_in w 0 3) = true
  · rw [if_pos hok] at h1
    obtain ⟨e1, e2⟩ := h1
    subst r1
    subst M1
    change if (ng_in b 0 (M 74 1 - 1) && ng_in w 0 3) then _ else _ at h2
    rw [if_pos hok] at h2
    obtain ⟨e1, e2⟩ := h2
    subst r2
    subst M2
    obtain ⟨h4, h15⟩ := Bool.and_eq_true_iff.mp hok
    have hb := (ng_vp_n h4 hn hn8).2.1
    have hw := ng_w3 h15
    have hb8 : b.toNatClampNeg < 8 := by omega
    refine ⟨?_, h⟩
    have ho : ∀ q, q < 4 → ng_obl (nI q) = (if q = 0 then 4 else if q = 1 then 5 else if q = 2 then 6 else 16) := by decide
    rw [hw.1, ho _ hw.2, ← hw.1]
    have hq := hw.2
    generalize w.toNatClampNeg = q at hq ⊢
    have : q = 0 ∨ q = 1 ∨ q = 2 ∨ q = 3 := by omega
    rcases this with rfl | rfl | rfl | rfl
    · exact (hI.1.2.1 _ hb8).1.symm
    · rw [show 21 + 4 * b.toNatClampNeg + 1 = 22 + 4 * b.toNatClampNeg by omega]; exact (hI.1.2.1 _ hb8).2.1.symm
    · rw [show 21 + 4 * b.toNatClampNeg + 2 = 23 + 4 * b.toNatClampNeg by omega]; exact (hI.1.2.1 _ hb8).2.2.symm
    · rw [show 21 + 4 * b.toNatClampNeg + 3 = 24 + 4 * b.toNatClampNeg by omega]; exact (hI.2.1.1 _ hb8).symm
  · rw [if_neg hok] at h1
    obtain ⟨e1, e2⟩ := h1
    subst r1
    subst M1
    change if (ng_in b 0 (M 74 1 - 1) && ng_in w 0 3) then _ else _ at h2
    rw [if_neg hok] at h2
    obtain ⟨e1, e2⟩ := h2
    subst r2
    subst M2
    exact ⟨rfl, ng_inv_err h⟩
def ng_abR (k : Int32) : Int32 := if ¬ k = 0 then (if k = 2 then 1 else if ¬ k = 6 then (if ¬ k = 4 then 0 else 3) else 1) else -1
theorem ng_k7 {k : Int32} (h0 : 0 ≤ k.toInt) (h6 : k.toInt ≤ 6) : k = 0 ∨ k = 1 ∨ k = 2 ∨ k = 3 ∨ k = 4 ∨ k = 5 ∨ k = 6 := by
  by_cases e0 : k = 0
  · exact Or.inl e0
  · by_cases e6 : k = 6
    · exact Or.inr (Or.inr (Or.inr (Or.inr (Or.inr (Or.inr e6)))))
    · have v : vp_in k 6 := ng_vp h0 (by have := ng_neI e6 ng_6; omega)
      by_cases e1 : k = 1
      · exact Or.inr (Or.inl e1)
      · by_cases e2 : k = 2
        · exact Or.inr (Or.inr (Or.inl e2))
        · by_cases e3 : k = 3
          · exact Or.inr (Or.inr (Or.inr (Or.inl e3)))
          · by_cases e4 : k = 4
            · exact Or.inr (Or.inr (Or.inr (Or.inr (Or.inl e4))))
            · exact Or.inr (Or.inr (Or.inr (Or.inr (Or.inr (Or.inl (ng_five v e0 e1 e2 e3 e4))))))
/-- how far a kind is under none -/
def ng_mu (k : Int32) : Nat := if k = -1 then 0 else if k = 0 then 1 else if k = 1 ∨ k = 3 ∨ k = 5 then 2 else 3
theorem ng_mu_le (k : Int32) : ng_mu k ≤ 7 := by
  unfold ng_mu
  repeat' split
  all_goals omega
theorem ng_ab_k {k : Int32} (h0 : 0 ≤ k.toInt) (h6 : k.toInt ≤ 6) : ng_abR k = ng_ab k ∧ ng_mu (ng_ab k) + 1 ≤ ng_mu k ∧ (ng_ab k = -1 ∨ (0 ≤ (ng_ab k).toInt ∧ (ng_ab k).toInt ≤ 6)) := by
  rcases ng_k7 h0 h6 with rfl | rfl | rfl | rfl | rfl | rfl | rfl <;> decide
theorem s_X9_above {X : Nat × (Nat → Int32)} {M : ng_M} {k : Int32} : ng_EvX X 1 mi_X9_above [.int k] (M) (some (.int (ng_abR k))) (M) := by
  refine ng_EvX.ofI (lv := [some (.int k)]) (ty := .int) (by decide) (Nat.le_of_ble_eq_true rfl) rfl rfl rfl ?_
  refine ng_iload_0 dX9_above_0 ?_
  refine ng_if_ne 8 dX9_above_1 (by decide +kernel) (fun h1 => ?_) (fun h1 => ?_)
  · refine ng_iload_0 dX9_above_8 ?_
    refine ng_iconst_2 dX9_above_9 ?_
    refine ng_icmp_eq 19 dX9_above_10 (by decide +kernel) (fun h10 => ?_) (fun h10 => ?_)
    · refine ng_iconst_1 dX9_above_19 ?_
      refine ng_goto 33 dX9_above_20 (by decide +kernel) ?_
      exact ng_ireturn dX9_above_33 ⟨by first | (simp [ng_abR, *]; done) | (simp [ng_abR, *]; rfl) | rfl, rfl⟩
    · refine ng_iload_0 dX9_above_13 ?_
      refine ng_bipush (v := 6) dX9_above_14 (by decide) ?_
      refine ng_icmp_ne 23 dX9_above_16 (by decide +kernel) (fun h16 => ?_) (fun h16 => ?_)
      · refine ng_iload_0 dX9_above_23 ?_
        refine ng_iconst_4 dX9_above_24 ?_
        refine ng_icmp_ne 32 dX9_above_25 (by decide +kernel) (fun h25 => ?_) (fun h25 => ?_)
        · refine ng_iconst_0 dX9_above_32 ?_
          exact ng_ireturn dX9_above_33 ⟨by first | (simp [ng_abR, *]; done) | (simp [ng_abR, *]; rfl) | rfl, rfl⟩
        · refine ng_iconst_3 dX9_above_28 ?_
          refine ng_goto 33 dX9_above_29 (by decide +kernel) ?_
          exact ng_ireturn dX9_above_33 ⟨by first | (simp [ng_abR, *]; done) | (simp [ng_abR, *]; rfl) | rfl, rfl⟩
      · refine ng_iconst_1 dX9_above_19 ?_
        refine ng_goto 33 dX9_above_20 (by decide +kernel) ?_
        exact ng_ireturn dX9_above_33 ⟨by first | (simp [ng_abR, *]; done) | (simp [ng_abR, *]; rfl) | rfl, rfl⟩
  · refine ng_iconst_m1 dX9_above_4 ?_
    refine ng_goto 33 dX9_above_5 (by decide +kernel) ?_
    exact ng_ireturn dX9_above_33 ⟨by first | (simp [ng_abR, *]; done) | (simp [ng_abR, *]; rfl) | rfl, rfl⟩
theorem l_X9_as {X : Nat × (Nat → Int32)} {M : ng_M} {b o : Int32} {i : Nat} (hb : b = nI i) (hi : i < 8) : ∀ (n : Nat) (k : Int32), (k = -1 ∨ (0 ≤ k.toInt ∧ k.toInt ≤ 6)) → ng_mu k ≤ n → 0 ≤ o.toInt →
    ng_Go X mi_X9_as 4 32 [some (.ref 73), some (.int b), some (.int o), some (.int k)] [] M (fun r' M' => ∃ v, r' = some (.int v) ∧ if ng_ofN n k o then (v = M 74 (23 + 4 * i) ∧ M' = M) else (v = -1000000005 ∧ M' = ng_rfl M 5)) := by
  intro n
  induction n with
  | zero =>
    intro k hk hm ho
    have hk1 : k = -1 := by
      rcases hk with hk | hk
      · exact hk
      · exfalso
        have := (ng_ab_k hk.1 hk.2).2.1
        omega
    subst hk1
    refine ng_iload_3 dX9_as_32 ?_
    refine ng_if_lt 49 dX9_as_33 (by decide +kernel) (fun h33 => ?_) (fun h33 => ?_)
    · refine ng_iload_3 dX9_as_49 ?_
      refine ng_if_ge 62 dX9_as_50 (by decide +kernel) (fun h50 => ?_) (fun h50 => ?_)
      · exact absurd h50 (by decide)
      · refine ng_aload_0 dX9_as_53 ?_
        refine ng_ldc dX9_as_54 kc_X9_114 ?_
        refine ng_callV_1x (y2 := mi_X9_finding) dX9_as_56 lk_X9_92 ms_X9_finding my_X9_finding (by first | exact ⟨_, rfl⟩ | assumption | exact ng_fld_obj (f := 0) (by assumption)) mc_X9 (by first | decide | exact Nat.le_of_ble_eq_true rfl) (s_X9_finding (k := 5) (by decide) (by decide) (by decide)) (by decide) ?_
        refine ng_goto 68 dX9_as_59 (by decide +kernel) ?_
        exact ng_ireturn dX9_as_68 ⟨_, rfl, by rw [if_neg (by simp [ng_ofN])]; exact ⟨rfl, rfl⟩⟩
    · exact absurd (by decide) h33
  | succ n ih =>
    intro k hk hm ho
    rcases hk with hk1 | hk
    · subst hk1
      have hf : ng_ofN (n + 1) (-1) o = false := by
        have : ng_in (-1) 0 6 = false := by decide
        simp [ng_ofN, this]
      refine ng_iload_3 dX9_as_32 ?_
      refine ng_if_lt 49 dX9_as_33 (by decide +kernel) (fun h33 => ?_) (fun h33 => ?_)
      · refine ng_iload_3 dX9_as_49 ?_
        refine ng_if_ge 62 dX9_as_50 (by decide +kernel) (fun h50 => ?_) (fun h50 => ?_)
        · exact absurd h50 (by decide)
        · refine ng_aload_0 dX9_as_53 ?_
          refine ng_ldc dX9_as_54 kc_X9_114 ?_
          refine ng_callV_1x (y2 := mi_X9_finding) dX9_as_56 lk_X9_92 ms_X9_finding my_X9_finding (by first | exact ⟨_, rfl⟩ | assumption | exact ng_fld_obj (f := 0) (by assumption)) mc_X9 (by first | decide | exact Nat.le_of_ble_eq_true rfl) (s_X9_finding (k := 5) (by decide) (by decide) (by decide)) (by decide) ?_
          refine ng_goto 68 dX9_as_59 (by decide +kernel) ?_
          exact ng_ireturn dX9_as_68 ⟨_, rfl, by rw [if_neg (by rw [hf]; decide)]; exact ⟨rfl, rfl⟩⟩
      · exact absurd (by decide) h33
    · obtain ⟨q1, q2, q3⟩ := ng_ab_k hk.1 hk.2
      have hin : ng_in k 0 6 = true := ng_inT.mpr (by rw [ng_0, ng_6]; exact hk)
      have hk0 : ¬ k < 0 := by rw [ng_lt, ng_0]; omega
      refine ng_iload_3 dX9_as_32 ?_
      refine ng_if_lt 49 dX9_as_33 (by decide +kernel) (fun h33 => ?_) (fun h33 => ?_)
      · exact absurd h33 hk0
      · refine ng_iload_3 dX9_as_36 ?_
        refine ng_iload_2 dX9_as_37 ?_
        refine ng_icmp_eq 49 dX9_as_38 (by decide +kernel) (fun h38 => ?_) (fun h38 => ?_)
        · refine ng_iload_3 dX9_as_49 ?_
          refine ng_if_ge 62 dX9_as_50 (by decide +kernel) (fun h50 => ?_) (fun h50 => ?_)
          · refine ng_aload_0 dX9_as_62 ?_
            refine ng_iload_1 dX9_as_63 ?_
            refine ng_iconst_2 dX9_as_64 ?_
            refine ng_callV_2x (y2 := mi_X9_of) dX9_as_65 lk_X9_108 ms_X9_of my_X9_of (by first | exact ⟨_, rfl⟩ | assumption | exact ng_fld_obj (f := 0) (by assumption)) mc_X9 (by first | decide | exact Nat.le_of_ble_eq_true rfl) (s_X9_of (i := i) (j := 2) hb rfl hi (by decide)) (by decide) ?_
            exact ng_ireturn dX9_as_68 ⟨_, rfl, by rw [if_pos (by subst h38; simp [ng_ofN, hin])]; exact ⟨by rw [show 21 + 4 * i + 2 = 23 + 4 * i by omega], rfl⟩⟩
          · exact absurd (by rw [ng_le, ng_0]; omega) h50
        · refine ng_iload_3 dX9_as_41 ?_
          refine ng_callS_1x (y2 := mi_X9_above) dX9_as_42 lk_X9_111 ms_X9_above my_X9_above (by first | decide | exact Nat.le_of_ble_eq_true rfl) (s_X9_above) (by decide) ?_
          refine ng_istore_3 dX9_as_45 (by first | rfl | assumption) ?_
          refine ng_goto 32 dX9_as_46 (by decide +kernel) ?_
          rw [q1]
          refine (ih (ng_ab k) q3 (by omega) ho).imp (fun r M' h => ?_)
          obtain ⟨v, h1, h2⟩ := h
          refine ⟨v, h1, ?_⟩
          have e : ng_ofN (n + 1) k o = ng_ofN n (ng_ab k) o := by simp [ng_ofN, hin, h38]
          rw [e]
          exact h2
theorem r_as {X : Nat × (Nat → Int32)} {M : ng_M} {b o : Int32} {n : Nat} (hn : M 74 1 = nI n) (hn8 : n ≤ 8) (hk : ∀ i, i < 8 → 0 ≤ (M 74 (21 + 4 * i)).toInt ∧ (M 74 (21 + 4 * i)).toInt ≤ 6) : ng_EvI X 4 mi_X9_as [.ref 73, .int b, .int o] M (fun r M1 => if ng_in b 0 (M 74 1 - 1) && ng_in o 0 6 then (if ng_ofN 7 (M 74 (21 + 4 * b.toNatClampNeg)) o then (r = M 74 (23 + 4 * b.toNatClampNeg) ∧ M1 = M) else (r = -1000000005 ∧ M1 = ng_rfl M 5)) else (r = -1000000001 ∧ M1 = ng_rfl M 1)) := by
  refine ng_EvI.of (lv := [some (.ref 73), some (.int b), some (.int o), none]) (ty := .int) (by decide) (Nat.le_of_ble_eq_true rfl) rfl rfl (fun _ _ _ => rfl) ?_
  refine ng_aload_0 dX9_as_0 ?_
  refine ng_iload_1 dX9_as_1 ?_
  refine ng_callV_1x (y2 := mi_X9_is) dX9_as_2 lk_X9_105 ms_X9_is my_X9_is (by first | exact ⟨_, rfl⟩ | assumption | exact ng_fld_obj (f := 0) (by assumption)) mc_X9 (by first | decide | exact Nat.le_of_ble_eq_true rfl) (s_X9_is) (by decide) ?_
  refine ng_ifb_eq 18 dX9_as_5 (by decide +kernel) (fun h5 => ?_) (fun h5 => ?_)
  · refine ng_aload_0 dX9_as_18 ?_
    refine ng_ldc dX9_as_19 kc_X9_91 ?_
    refine ng_callV_1x (y2 := mi_X9_finding) dX9_as_21 lk_X9_92 ms_X9_finding my_X9_finding (by first | exact ⟨_, rfl⟩ | assumption | exact ng_fld_obj (f := 0) (by assumption)) mc_X9 (by first | decide | exact Nat.le_of_ble_eq_true rfl) (s_X9_finding (k := 1) (by decide) (by decide) (by decide)) (by decide) ?_
    exact ng_ireturn dX9_as_24 ⟨_, rfl, by first | (simp [h5, h15]; done) | (simp [h5]; done)⟩
  · refine ng_iload_2 dX9_as_8 ?_
    refine ng_iconst_0 dX9_as_9 ?_
    refine ng_bipush (v := 6) dX9_as_10 (by decide) ?_
    refine ng_callS_3x (y2 := mi_X9_within) dX9_as_12 lk_X9_80 ms_X9_within my_X9_within (by first | decide | exact Nat.le_of_ble_eq_true rfl) (s_X9_within) (by decide) ?_
    refine ng_ifb_ne 25 dX9_as_15 (by decide +kernel) (fun h15 => ?_) (fun h15 => ?_)
    · refine ng_aload_0 dX9_as_25 ?_
      refine ng_iload_1 dX9_as_26 ?_
      refine ng_iconst_0 dX9_as_27 ?_
      refine ng_callV_2x (y2 := mi_X9_of) dX9_as_28 lk_X9_108 ms_X9_of my_X9_of (by first | exact ⟨_, rfl⟩ | assumption | exact ng_fld_obj (f := 0) (by assumption)) mc_X9 (by first | decide | exact Nat.le_of_ble_eq_true rfl) (s_X9_of (i := b.toNatClampNeg) (j := 0) (ng_vp_n h5 hn hn8).2.2 rfl (by have := (ng_vp_n h5 hn hn8).2.1; omega) (by decide)) (by decide) ?_
      refine ng_istore_3 dX9_as_31 (by first | rfl | assumption) ?_
      have hb8 : b.toNatClampNeg < 8 := by have := (ng_vp_n h5 hn hn8).2.1; omega
      refine (l_X9_as (ng_vp_n h5 hn hn8).2.2 hb8 7 _ (Or.inr (hk _ hb8)) (ng_mu_le _) (by have := ng_inT.mp h15; rw [ng_0] at this; exact this.1)).imp (fun r M' h => ?_)
      obtain ⟨v, e1, e2⟩ := h
      refine ⟨v, e1, ?_⟩
      rw [if_pos (by simp [h5, h15])]
      exact e2
    · refine ng_aload_0 dX9_as_18 ?_
      refine ng_ldc dX9_as_19 kc_X9_91 ?_
      refine ng_callV_1x (y2 := mi_X9_finding) dX9_as_21 lk_X9_92 ms_X9_finding my_X9_finding (by first | exact ⟨_, rfl⟩ | assumption | exact ng_fld_obj (f := 0) (by assumption)) mc_X9 (by first | decide | exact Nat.le_of_ble_eq_true rfl) (s_X9_finding (k := 1) (by decide) (by decide) (by decide)) (by decide) ?_
      exact ng_ireturn dX9_as_24 ⟨_, rfl, by first | (simp [h5, h15]; done) | (simp [h5]; done)⟩
theorem c_as {X : Nat × (Nat → Int32)} {M : ng_M} {b o : Int32} {n : Nat} (hn : M 2 6 = nI n) (hn8 : n ≤ 8) : ng_EvI X 3 mi_X8_as [.ref 0, .int b, .int o] M (fun r M1 => if ng_in b 0 (M 2 6 - 1) && ng_in o 0 6 then (if ng_ofN 7 (M 4 b.toNatClampNeg) o then (r = M 6 b.toNatClampNeg ∧ M1 = M) else (r = -1000000005 ∧ M1 = ng_cfl M 5)) else (r = -1000000001 ∧ M1 = ng_cfl M 1)) := by
  refine ng_EvI.of (lv := [some (.ref 0), some (.int b), some (.int o)]) (ty := .int) (by decide) (Nat.le_of_ble_eq_true rfl) rfl rfl (fun _ _ _ => rfl) ?_
  refine ng_aload_0 dX8_as_0 ?_
  refine ng_gR dX8_as_1 fl_X8_12 (by first | rfl | assumption) ?_
  refine ng_gR dX8_as_4 fl_X8_21 (by first | rfl | assumption) ?_
  refine ng_iload_1 dX8_as_7 ?_
  refine ng_callV_1x (y2 := mi_X3_isBuyer) dX8_as_8 lk_X8_102 ms_X3_isBuyer my_X3_isBuyer (by first | exact ⟨_, rfl⟩ | assumption | exact ng_fld_obj (f := 0) (by assumption)) mc_X3 (by first | decide | exact Nat.le_of_ble_eq_true rfl) (s_X3_isBuyer) (by decide) ?_
  refine ng_ifb_eq 24 dX8_as_11 (by decide +kernel) (fun h11 => ?_) (fun h11 => ?_)
  · refine ng_aload_0 dX8_as_24 ?_
    refine ng_ldc dX8_as_25 kc_X8_65 ?_
    refine ng_callV_1x (y2 := mi_X8_fails) dX8_as_27 lk_X8_66 ms_X8_fails my_X8_fails (by first | exact ⟨_, rfl⟩ | assumption | exact ng_fld_obj (f := 0) (by assumption)) mc_X8 (by first | decide | exact Nat.le_of_ble_eq_true rfl) (s_X8_fails (k := 1) (by decide) (by decide) (by decide)) (by decide) ?_
    exact ng_ireturn dX8_as_30 ⟨_, rfl, by first | (simp [h11, h21, h47]; done) | (simp [h11, h21]; done) | (simp [h11]; done)⟩
  · refine ng_iload_2 dX8_as_14 ?_
    refine ng_iconst_0 dX8_as_15 ?_
    refine ng_bipush (v := 6) dX8_as_16 (by decide) ?_
    refine ng_callS_3x (y2 := mi_X8_isWithin) dX8_as_18 lk_X8_61 ms_X8_isWithin my_X8_isWithin (by first | decide | exact Nat.le_of_ble_eq_true rfl) (s_X8_isWithin) (by decide) ?_
    refine ng_ifb_ne 31 dX8_as_21 (by decide +kernel) (fun h21 => ?_) (fun h21 => ?_)
    · refine ng_aload_0 dX8_as_31 ?_
      refine ng_gR dX8_as_32 fl_X8_12 (by first | rfl | assumption) ?_
      refine ng_gR dX8_as_35 fl_X8_21 (by first | rfl | assumption) ?_
      refine ng_gR dX8_as_38 fl_X8_105 (by first | rfl | assumption) ?_
      refine ng_iload_1 dX8_as_41 ?_
      refine ng_iald dX8_as_42 (by first | rfl | assumption) (by exact (ng_vp_n h11 hn hn8).1) ?_
      refine ng_iload_2 dX8_as_43 ?_
      refine ng_callS_2x (y2 := mi_X8_isOf) dX8_as_44 lk_X8_117 ms_X8_isOf my_X8_isOf (by first | decide | exact Nat.le_of_ble_eq_true rfl) (s_X8_isOf) (by decide) ?_
      refine ng_ifb_eq 65 dX8_as_47 (by decide +kernel) (fun h47 => ?_) (fun h47 => ?_)
      · refine ng_aload_0 dX8_as_65 ?_
        refine ng_ldc dX8_as_66 kc_X8_121 ?_
        refine ng_callV_1x (y2 := mi_X8_fails) dX8_as_68 lk_X8_66 ms_X8_fails my_X8_fails (by first | exact ⟨_, rfl⟩ | assumption | exact ng_fld_obj (f := 0) (by assumption)) mc_X8 (by first | decide | exact Nat.le_of_ble_eq_true rfl) (s_X8_fails (k := 5) (by decide) (by decide) (by decide)) (by decide) ?_
        exact ng_ireturn dX8_as_71 ⟨_, rfl, by first | (simp [h11, h21, h47]; done) | (simp [h11, h21]; done) | (simp [h11]; done)⟩
      · refine ng_aload_0 dX8_as_50 ?_
        refine ng_gR dX8_as_51 fl_X8_12 (by first | rfl | assumption) ?_
        refine ng_gR dX8_as_54 fl_X8_21 (by first | rfl | assumption) ?_
        refine ng_gR dX8_as_57 fl_X8_111 (by first | rfl | assumption) ?_
        refine ng_iload_1 dX8_as_60 ?_
        refine ng_iald dX8_as_61 (by first | rfl | assumption) (by exact (ng_vp_n h11 hn hn8).1) ?_
        refine ng_goto 71 dX8_as_62 (by decide +kernel) ?_
        exact ng_ireturn dX8_as_71 ⟨_, rfl, by first | (simp [h11, h21, h47]; done) | (simp [h11, h21]; done) | (simp [h11]; done)⟩
    · refine ng_aload_0 dX8_as_24 ?_
      refine ng_ldc dX8_as_25 kc_X8_65 ?_
      refine ng_callV_1x (y2 := mi_X8_fails) dX8_as_27 lk_X8_66 ms_X8_fails my_X8_fails (by first | exact ⟨_, rfl⟩ | assumption | exact ng_fld_obj (f := 0) (by assumption)) mc_X8 (by first | decide | exact Nat.le_of_ble_eq_true rfl) (s_X8_fails (k := 1) (by decide) (by decide) (by decide)) (by decide) ?_
      exact ng_ireturn dX8_as_30 ⟨_, rfl, by first | (simp [h11, h21, h47]; done) | (simp [h11, h21]; done) | (simp [h11]; done)⟩
theorem pr_as {X : Nat × (Nat → Int32)} {M : ng_M} {b o : Int32} (h : ng_inv M) : ng_pair X mi_X8_as mi_X9_as [.int b, .int o] M := by
  have hI := h.1.1.rl
  obtain ⟨n, hn, hn8⟩ := h.1.2.wfr.1.1.1
  have hn2 : M 2 6 = M 74 1 := hI.1.2.2.1
  have hk : ∀ i, i < 8 → 0 ≤ (M 74 (21 + 4 * i)).toInt ∧ (M 74 (21 + 4 * i)).toInt ≤ 6 := fun i hi => (h.1.2.wfr.2.2.1 i hi).1
  have h74 : ∀ v M1, (if ng_in b 0 (M 2 6 - 1) && ng_in o 0 6 then (if ng_ofN 7 (M 4 b.toNatClampNeg) o then (v = M 6 b.toNatClampNeg ∧ M1 = M) else (v = -1000000005 ∧ M1 = ng_cfl M 5)) else (v = -1000000001 ∧ M1 = ng_cfl M 1)) → M1 74 = M 74 := by
    intro v M1 h1
    split at h1
    · split at h1
      · rw [h1.2]
      · rw [h1.2]; rfl
    · rw [h1.2]; rfl
  refine ng_pair.of (d8 := 3) (d9 := 4) (c_as (hn2.trans hn) hn8) (by decide) (by decide) (fun v M1 h1 => r_as (show M1 74 1 = nI n by rw [h74 v M1 h1]; exact hn) hn8 (fun i hi => by rw [h74 v M1 h1]; exact hk i hi)) (fun r1 M1 h1 r2 M2 h2 => ?_)
  rw [h74 r1 M1 h1] at h2
  rw [hn2] at h1
  by_cases hok : (ng_in b 0 (M 74 1 - 1) && ng_in o 0 6) = true
  · rw [if_pos hok] at h1 h2
    have hb8 : b.toNatClampNeg < 8 := by have := (ng_vp_n (Bool.and_eq_true_iff.mp hok).1 hn hn8).2.1; omega
    rw [(hI.1.2.1 _ hb8).1] at h1
    by_cases hk : ng_ofN 7 (M 74 (21 + 4 * b.toNatClampNeg)) o = true
    · rw [if_pos hk] at h1 h2
      obtain ⟨e1, e2⟩ := h1
      subst r1
      subst M1
      obtain ⟨e1, e2⟩ := h2
      subst r2
      subst M2
      exact ⟨(hI.1.2.1 _ hb8).2.2.symm, h⟩
    · rw [if_neg hk] at h1 h2
      obtain ⟨e1, e2⟩ := h1
      subst r1
      subst M1
      obtain ⟨e1, e2⟩ := h2
      subst r2
      subst M2
      exact ⟨rfl, ng_inv_err h⟩
  · rw [if_neg hok] at h1 h2
    obtain ⟨e1, e2⟩ := h1
    subst r1
    subst M1
    obtain ⟨e1, e2⟩ := h2
    subst r2
    subst M2
    exact ⟨rfl, ng_inv_err h⟩
