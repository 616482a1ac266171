/-! ===== pairs: law, at, year, give ===== -/
/-- junk of the class and of the reference alone -/
theorem ng_inv_junk {M M' : ng_M} (h : ng_inv M) (ho : ng_off [9, 10, 13, 14, 17, 80, 81, 82, 83, 84, 89, 76] M M') : ng_inv M' := by
  refine ng_inv_I1 h ⟨?_, ?_⟩ (fun k hk => ?_) ?_ ?_
  · rw [ho 74 (by decide)]
    exact h.1.1.junk (fun k k1 k2 k3 => ho k (by simp at k3 ⊢; omega)) (fun f _ _ => by rw [ho 15 (by decide)])
  · rw [ho 74 (by decide)]; exact h.1.2
  · unfold ng_oth at hk; exact ho k (by simp <;> omega)
  · rw [ho 73 (by decide)]
  · rw [ho 73 (by decide)]
theorem c_law {X : Nat × (Nat → Int32)} {M : ng_M} {u a b c d : Int32} (hf1 : ng_fok (M 8) (M 7 1)) (hf2 : ng_fok (M 12) (M 11 1)) : ng_EvI X 4 mi_X8_law [.ref 0, .int u, .int a, .int b, .int c, .int d] M (fun r M1 => if ng_in u 0 1 then (r = (if u = 0 then ng_pw (M 8) (M 7 1) a b c d else ng_fm (M 12) (M 11 1) a b c d) ∧ ng_off [9, 10, 13, 14] M M1) else (r = -1000000001 ∧ M1 = ng_cfl M 1)) := by
  refine ng_EvI.of (lv := [some (.ref 0), some (.int u), some (.int a), some (.int b), some (.int c), some (.int d)]) (ty := .int) (by decide) (Nat.le_of_ble_eq_true rfl) rfl rfl (fun _ _ _ => rfl) ?_
  refine ng_iload_1 dX8_law_0 ?_
  refine ng_iconst_0 dX8_law_1 ?_
  refine ng_iconst_1 dX8_law_2 ?_
  refine ng_callS_3x (y2 := mi_X8_isWithin) dX8_law_3 lk_X8_61 ms_X8_isWithin my_X8_isWithin (by first | decide | exact Nat.le_of_ble_eq_true rfl) (s_X8_isWithin) (by decide) ?_
  refine ng_ifb_ne 16 dX8_law_6 (by decide +kernel) (fun h6 => ?_) (fun h6 => ?_)
  · refine ng_iload_1 dX8_law_16 ?_
    refine ng_if_ne 39 dX8_law_17 (by decide +kernel) (fun h17 => ?_) (fun h17 => ?_)
    · refine ng_aload_0 dX8_law_39 ?_
      refine ng_gR dX8_law_40 fl_X8_12 (by first | rfl | assumption) ?_
      refine ng_gR dX8_law_43 fl_X8_21 (by first | rfl | assumption) ?_
      refine ng_iload_2 dX8_law_46 ?_
      refine ng_iload_3 dX8_law_47 ?_
      refine ng_iload_4 dX8_law_48 ?_
      refine ng_iload_5 dX8_law_50 ?_
      refine ng_callV_4i (y2 := mi_X3_fame) dX8_law_52 lk_X8_185 ms_X3_fame my_X3_fame (by first | exact ⟨_, rfl⟩ | assumption | exact ng_fld_obj (f := 0) (by assumption)) mc_X3 (by first | decide | exact Nat.le_of_ble_eq_true rfl) (s_X3_fame hf2) (by decide) (fun v M2 hv => ?_)
      exact ng_ireturn dX8_law_55 ⟨_, rfl, by rw [if_pos h6]; first | (rw [if_pos h17]; exact ⟨hv.1, hv.2.mono (by decide)⟩) | (rw [if_neg h17]; exact ⟨hv.1, hv.2.mono (by decide)⟩)⟩
    · refine ng_aload_0 dX8_law_20 ?_
      refine ng_gR dX8_law_21 fl_X8_12 (by first | rfl | assumption) ?_
      refine ng_gR dX8_law_24 fl_X8_21 (by first | rfl | assumption) ?_
      refine ng_iload_2 dX8_law_27 ?_
      refine ng_iload_3 dX8_law_28 ?_
      refine ng_iload_4 dX8_law_29 ?_
      refine ng_iload_5 dX8_law_31 ?_
      refine ng_callV_4i (y2 := mi_X3_plainWorth) dX8_law_33 lk_X8_181 ms_X3_plainWorth my_X3_plainWorth (by first | exact ⟨_, rfl⟩ | assumption | exact ng_fld_obj (f := 0) (by assumption)) mc_X3 (by first | decide | exact Nat.le_of_ble_eq_true rfl) (s_X3_plainWorth hf1) (by decide) (fun v M2 hv => ?_)
      refine ng_goto 55 dX8_law_36 (by decide +kernel) ?_
      exact ng_ireturn dX8_law_55 ⟨_, rfl, by rw [if_pos h6]; first | (rw [if_pos h17]; exact ⟨hv.1, hv.2.mono (by decide)⟩) | (rw [if_neg h17]; exact ⟨hv.1, hv.2.mono (by decide)⟩)⟩
  · refine ng_aload_0 dX8_law_9 ?_
    refine ng_ldc dX8_law_10 kc_X8_65 ?_
    refine ng_callV_1x (y2 := mi_X8_fails) dX8_law_12 lk_X8_66 ms_X8_fails my_X8_fails (by first | exact ⟨_, rfl⟩ | assumption | exact ng_fld_obj (f := 0) (by assumption)) mc_X8 (by first | decide | exact Nat.le_of_ble_eq_true rfl) (s_X8_fails (k := 1) (by decide) (by decide) (by decide)) (by decide) ?_
    exact ng_ireturn dX8_law_15 ⟨_, rfl, by rw [if_neg (by rw [h6]; decide)]; exact ⟨rfl, rfl⟩⟩
theorem r_law {X : Nat × (Nat → Int32)} {M : ng_M} {u a b c d : Int32} (ht : ng_txt (M 74)) : ng_EvI X 4 mi_X9_law [.ref 73, .int u, .int a, .int b, .int c, .int d] M (fun r M1 => if ng_in u 0 1 then (r = (if u = 0 then ng_pw (ng_tc (M 74) 123) (M 74 123) a b c d else ng_fm (ng_tc (M 74) 175) (M 74 175) a b c d) ∧ ng_off [81, 82] M M1) else (r = -1000000001 ∧ M1 = ng_rfl M 1)) := by
  refine ng_EvI.of (lv := [some (.ref 73), some (.int u), some (.int a), some (.int b), some (.int c), some (.int d)]) (ty := .int) (by decide) (Nat.le_of_ble_eq_true rfl) rfl rfl (fun _ _ _ => rfl) ?_
  by_cases h0 : u = 0
  · subst h0
    refine ng_iload_1 dX9_law_0 ?_
    refine ng_iconst_0 dX9_law_1 ?_
    refine ng_iconst_1 dX9_law_2 ?_
    refine ng_callS_3x (y2 := mi_X9_within) dX9_law_3 lk_X9_80 ms_X9_within my_X9_within (by first | decide | exact Nat.le_of_ble_eq_true rfl) (s_X9_within) (by decide) ?_
    refine ng_ifb_eq 23 dX9_law_6 (by decide +kernel) (fun h6 => ?_) (fun h6 => ?_)
    · exact absurd h6 (by decide)
    · refine ng_aload_0 dX9_law_9 ?_
      refine ng_iload_1 dX9_law_10 ?_
      refine ng_iload_2 dX9_law_11 ?_
      refine ng_iload_3 dX9_law_12 ?_
      refine ng_iload_4 dX9_law_13 ?_
      refine ng_iload_5 dX9_law_15 ?_
      refine ng_callV_5i (y2 := mi_X9_given) dX9_law_17 lk_X9_119 ms_X9_given my_X9_given (by first | exact ⟨_, rfl⟩ | assumption | exact ng_fld_obj (f := 0) (by assumption)) mc_X9 (by first | decide | exact Nat.le_of_ble_eq_true rfl) (s_X9_given0 ht.1.1 ht.2.1) (by decide) (fun v M2 hv => ?_)
      refine ng_goto 29 dX9_law_20 (by decide +kernel) ?_
      exact ng_ireturn dX9_law_29 ⟨_, rfl, by rw [if_pos h6, if_pos rfl]; exact hv⟩
  · by_cases h1 : u = 1
    · subst h1
      refine ng_iload_1 dX9_law_0 ?_
      refine ng_iconst_0 dX9_law_1 ?_
      refine ng_iconst_1 dX9_law_2 ?_
      refine ng_callS_3x (y2 := mi_X9_within) dX9_law_3 lk_X9_80 ms_X9_within my_X9_within (by first | decide | exact Nat.le_of_ble_eq_true rfl) (s_X9_within) (by decide) ?_
      refine ng_ifb_eq 23 dX9_law_6 (by decide +kernel) (fun h6 => ?_) (fun h6 => ?_)
      · exact absurd h6 (by decide)
      · refine ng_aload_0 dX9_law_9 ?_
        refine ng_iload_1 dX9_law_10 ?_
        refine ng_iload_2 dX9_law_11 ?_
        refine ng_iload_3 dX9_law_12 ?_
        refine ng_iload_4 dX9_law_13 ?_
        refine ng_iload_5 dX9_law_15 ?_
        refine ng_callV_5i (y2 := mi_X9_given) dX9_law_17 lk_X9_119 ms_X9_given my_X9_given (by first | exact ⟨_, rfl⟩ | assumption | exact ng_fld_obj (f := 0) (by assumption)) mc_X9 (by first | decide | exact Nat.le_of_ble_eq_true rfl) (s_X9_given1 ht.1.2 ht.2.2) (by decide) (fun v M2 hv => ?_)
        refine ng_goto 29 dX9_law_20 (by decide +kernel) ?_
        exact ng_ireturn dX9_law_29 ⟨_, rfl, by rw [if_pos h6, if_neg h0]; exact hv⟩
    · have hf : ng_in u 0 1 = false := ng_inF.mpr (by have := ng_neI h0 ng_0; have := ng_neI h1 ng_1; rw [ng_0, ng_1]; omega)
      refine ng_iload_1 dX9_law_0 ?_
      refine ng_iconst_0 dX9_law_1 ?_
      refine ng_iconst_1 dX9_law_2 ?_
      refine ng_callS_3x (y2 := mi_X9_within) dX9_law_3 lk_X9_80 ms_X9_within my_X9_within (by first | decide | exact Nat.le_of_ble_eq_true rfl) (s_X9_within) (by decide) ?_
      refine ng_ifb_eq 23 dX9_law_6 (by decide +kernel) (fun h6 => ?_) (fun h6 => ?_)
      · refine ng_aload_0 dX9_law_23 ?_
        refine ng_ldc dX9_law_24 kc_X9_91 ?_
        refine ng_callV_1x (y2 := mi_X9_finding) dX9_law_26 lk_X9_92 ms_X9_finding my_X9_finding (by first | exact ⟨_, rfl⟩ | assumption | exact ng_fld_obj (f := 0) (by assumption)) mc_X9 (by first | decide | exact Nat.le_of_ble_eq_true rfl) (s_X9_finding (k := 1) (by decide) (by decide) (by decide)) (by decide) ?_
        exact ng_ireturn dX9_law_29 ⟨_, rfl, by rw [if_neg (by rw [hf]; decide)]; exact ⟨rfl, rfl⟩⟩
      · rw [hf] at h6; exact absurd h6 (by decide)
theorem pr_law {X : Nat × (Nat → Int32)} {M : ng_M} {u a b c d : Int32} (h : ng_inv M) : ng_pair X mi_X8_law mi_X9_law [.int u, .int a, .int b, .int c, .int d] M := by
  have hI := h.1.1.rl
  obtain ⟨⟨q1, q2⟩, -⟩ := id h.1.2.2
  have h74 : ∀ v M1, (if ng_in u 0 1 then (v = (if u = 0 then ng_pw (M 8) (M 7 1) a b c d else ng_fm (M 12) (M 11 1) a b c d) ∧ ng_off [9, 10, 13, 14] M M1) else (v = -1000000001 ∧ M1 = ng_cfl M 1)) → M1 74 = M 74 := by
    intro v M1 h1
    split at h1
    · exact h1.2 74 (by decide)
    · rw [h1.2]; rfl
  refine ng_pair.of (d8 := 4) (d9 := 4) (c_law (ng_tr_fok hI.1.2.2.2.1 q1) (ng_tr_fok hI.1.2.2.2.2 q2)) (by decide) (by decide) (fun v M1 h1 => r_law (by rw [h74 v M1 h1]; exact h.1.2.2)) (fun r1 M1 h1 r2 M2 h2 => ?_)
  rw [h74 r1 M1 h1] at h2
  by_cases hok : ng_in u 0 1 = true
  · rw [if_pos hok] at h1 h2
    refine ⟨?_, ng_inv_junk h (fun k hk => ?_)⟩
    · rw [h1.1, h2.1, ng_tr_pw hI.1.2.2.2.1, ng_tr_fm hI.1.2.2.2.2]
    · simp at hk
      rw [h2.2 k (by simp <;> omega), h1.2 k (by simp <;> omega)]
  · rw [if_neg hok] at h1 h2
    obtain ⟨e1, e2⟩ := h1
    subst r1
    subst M1
    obtain ⟨e1, e2⟩ := h2
    subst r2
    subst M2
    exact ⟨rfl, ng_inv_err h⟩
abbrev ok_year (t b : Int32) : Bool := ng_in t 0 9 && ng_in b 0 99
theorem c_year {X : Nat × (Nat → Int32)} {M : ng_M} {t b : Int32} (h : ng_I1 M) : ng_EvI X 6 mi_X8_year [.ref 0, .int t, .int b] M (fun r M1 => if ok_year t b then (if M 1 6 + 1 ≤ 199 then (r = ng_ysd (M 74) t b ng_all ∧ ng_off [1, 9, 10, 13, 14, 15, 16, 17] M M1 ∧ M1 1 = upd (M 1) 6 (M 1 6 + 1) ∧ ng_sv M1 15 (ng_yr (M 74) t b ng_all)) else (r = -1000000003 ∧ M1 = ng_cfl M 3)) else (r = -1000000001 ∧ M1 = ng_cfl M 1)) := by
  refine ng_EvI.of (lv := [some (.ref 0), some (.int t), some (.int b)]) (ty := .int) (by decide) (Nat.le_of_ble_eq_true rfl) rfl rfl (fun _ _ _ => rfl) ?_
  refine ng_iload_1 dX8_year_0 ?_
  refine ng_callS_1x (y2 := mi_X8_isStep) dX8_year_1 lk_X8_57 ms_X8_isStep my_X8_isStep (by first | decide | exact Nat.le_of_ble_eq_true rfl) (s_X8_isStep) (by decide) ?_
  refine ng_ifb_eq 17 dX8_year_4 (by decide +kernel) (fun h4 => ?_) (fun h4 => ?_)
  · refine ng_aload_0 dX8_year_17 ?_
    refine ng_ldc dX8_year_18 kc_X8_65 ?_
    refine ng_callV_1x (y2 := mi_X8_fails) dX8_year_20 lk_X8_66 ms_X8_fails my_X8_fails (by first | exact ⟨_, rfl⟩ | assumption | exact ng_fld_obj (f := 0) (by assumption)) mc_X8 (by first | decide | exact Nat.le_of_ble_eq_true rfl) (s_X8_fails (k := 1) (by decide) (by decide) (by decide)) (by decide) ?_
    exact ng_ireturn dX8_year_23 ⟨_, rfl, by rw [if_neg (by simp_all [ok_year])]; exact ⟨rfl, rfl⟩⟩
  · refine ng_iload_2 dX8_year_7 ?_
    refine ng_iconst_0 dX8_year_8 ?_
    refine ng_bipush (v := 99) dX8_year_9 (by decide) ?_
    refine ng_callS_3x (y2 := mi_X8_isWithin) dX8_year_11 lk_X8_61 ms_X8_isWithin my_X8_isWithin (by first | decide | exact Nat.le_of_ble_eq_true rfl) (s_X8_isWithin) (by decide) ?_
    refine ng_ifb_ne 24 dX8_year_14 (by decide +kernel) (fun h14 => ?_) (fun h14 => ?_)
    · refine ng_aload_0 dX8_year_24 ?_
      refine ng_gR dX8_year_25 fl_X8_12 (by first | rfl | assumption) ?_
      refine ng_gI dX8_year_28 fl_X8_188 (by first | rfl | assumption) ?_
      refine ng_iconst_1 dX8_year_31 ?_
      refine ng_iadd dX8_year_32 ?_
      refine ng_sipush (v := 199) dX8_year_33 (by decide) ?_
      refine ng_icmp_le 46 dX8_year_36 (by decide +kernel) (fun h36 => ?_) (fun h36 => ?_)
      · refine ng_aload_0 dX8_year_46 ?_
        refine ng_gR dX8_year_47 fl_X8_12 (by first | rfl | assumption) ?_
        refine ng_dup dX8_year_50 rfl ?_
        refine ng_gI dX8_year_51 fl_X8_188 (by first | rfl | assumption) ?_
        refine ng_iconst_1 dX8_year_54 ?_
        refine ng_iadd dX8_year_55 ?_
        refine ng_pI dX8_year_56 fp_X8_188 (by first | rfl | assumption) rfl rfl ?_
        have hI := h.1.rl
        have hok := h.2.wfr.1.1
        have ht := (ng_vin h4 (n := 10) (by decide)).1
        refine ng_aload_0 dX8_year_59 ?_
        refine ng_gR dX8_year_60 fl_X8_12 (by first | rfl | assumption) ?_
        refine ng_gR dX8_year_63 fl_X8_81 (by first | rfl | assumption) ?_
        refine ng_iload_1 dX8_year_66 ?_
        refine ng_iload_2 dX8_year_67 ?_
        refine ng_sipush (v := 255) dX8_year_68 (by decide) ?_
        refine ng_callV_3w (y2 := mi_X5_goes) dX8_year_71 lk_X8_192 ms_X5_goes my_X5_goes (by first | exact ⟨_, rfl⟩ | assumption | exact ng_fld_obj (f := 0) (by assumption)) mc_X5 (by first | decide | exact Nat.le_of_ble_eq_true rfl) (s_X5_goes (s := 15) (a := M 74) (Or.inl rfl) (hI.1.kept (fun k hk => ng_row_ne (by simp at hk; omega)) (fun _ _ => rfl)) hI.2.1 hok ht) (by decide) (fun M2 hg => ?_)
        refine ng_aload_0 dX8_year_74 ?_
        refine ng_gR dX8_year_75 fl_X8_12 (by first | rfl | assumption) ?_
        refine ng_gR dX8_year_78 fl_X8_81 (by first | rfl | assumption) ?_
        refine ng_gI dX8_year_81 fl_X8_196 (by first | rfl | assumption) ?_
        exact ng_ireturn dX8_year_84 ⟨_, rfl, by
  rw [if_pos (by simp [ok_year, h4, h14]), if_pos h36]
  obtain ⟨g1, g2, g3, -⟩ := hg
  have e := ng_yr_255 (t := t) (b := b) hok
  rw [e.1] at g2
  rw [e.2.1] at g3
  refine ⟨g3, fun k hk => ?_, ?_, g2⟩
  · simp at hk
    rw [g1 k (by simp <;> omega), ng_row_ne (by omega)]
  · rw [g1 1 (by decide), ng_row_eq]⟩
      · refine ng_aload_0 dX8_year_39 ?_
        refine ng_ldc dX8_year_40 kc_X8_191 ?_
        refine ng_callV_1x (y2 := mi_X8_fails) dX8_year_42 lk_X8_66 ms_X8_fails my_X8_fails (by first | exact ⟨_, rfl⟩ | assumption | exact ng_fld_obj (f := 0) (by assumption)) mc_X8 (by first | decide | exact Nat.le_of_ble_eq_true rfl) (s_X8_fails (k := 3) (by decide) (by decide) (by decide)) (by decide) ?_
        exact ng_ireturn dX8_year_45 ⟨_, rfl, by rw [if_pos (by simp [ok_year, h4, h14]), if_neg h36]; exact ⟨rfl, rfl⟩⟩
    · refine ng_aload_0 dX8_year_17 ?_
      refine ng_ldc dX8_year_18 kc_X8_65 ?_
      refine ng_callV_1x (y2 := mi_X8_fails) dX8_year_20 lk_X8_66 ms_X8_fails my_X8_fails (by first | exact ⟨_, rfl⟩ | assumption | exact ng_fld_obj (f := 0) (by assumption)) mc_X8 (by first | decide | exact Nat.le_of_ble_eq_true rfl) (s_X8_fails (k := 1) (by decide) (by decide) (by decide)) (by decide) ?_
      exact ng_ireturn dX8_year_23 ⟨_, rfl, by rw [if_neg (by simp_all [ok_year])]; exact ⟨rfl, rfl⟩⟩
theorem r_year {X : Nat × (Nat → Int32)} {M : ng_M} {t b : Int32} (hw : ng_wfr (M 74)) : ng_EvI X 8 mi_X9_year [.ref 73, .int t, .int b] M (fun r M1 => if ok_year t b then (if M 74 0 + 1 ≤ 199 then (r = ng_ysd (M 74) t b ng_all ∧ M1 74 = ng_yr (M 74) t b ng_all ∧ ng_off [74, 81, 82, 83] M M1) else (r = -1000000003 ∧ M1 = ng_rfl M 3)) else (r = -1000000001 ∧ M1 = ng_rfl M 1)) := by
  refine ng_EvI.of (lv := [some (.ref 73), some (.int t), some (.int b)]) (ty := .int) (by decide) (Nat.le_of_ble_eq_true rfl) rfl rfl (fun _ _ _ => rfl) ?_
  refine ng_iload_1 dX9_year_0 ?_
  refine ng_callS_1x (y2 := mi_X9_isStep) dX9_year_1 lk_X9_84 ms_X9_isStep my_X9_isStep (by first | decide | exact Nat.le_of_ble_eq_true rfl) (s_X9_isStep) (by decide) ?_
  refine ng_ifb_eq 17 dX9_year_4 (by decide +kernel) (fun h4 => ?_) (fun h4 => ?_)
  · refine ng_aload_0 dX9_year_17 ?_
    refine ng_ldc dX9_year_18 kc_X9_91 ?_
    refine ng_callV_1x (y2 := mi_X9_finding) dX9_year_20 lk_X9_92 ms_X9_finding my_X9_finding (by first | exact ⟨_, rfl⟩ | assumption | exact ng_fld_obj (f := 0) (by assumption)) mc_X9 (by first | decide | exact Nat.le_of_ble_eq_true rfl) (s_X9_finding (k := 1) (by decide) (by decide) (by decide)) (by decide) ?_
    exact ng_ireturn dX9_year_23 ⟨_, rfl, by rw [if_neg (by simp_all [ok_year])]; exact ⟨rfl, rfl⟩⟩
  · refine ng_iload_2 dX9_year_7 ?_
    refine ng_iconst_0 dX9_year_8 ?_
    refine ng_bipush (v := 99) dX9_year_9 (by decide) ?_
    refine ng_callS_3x (y2 := mi_X9_within) dX9_year_11 lk_X9_80 ms_X9_within my_X9_within (by first | decide | exact Nat.le_of_ble_eq_true rfl) (s_X9_within) (by decide) ?_
    refine ng_ifb_ne 24 dX9_year_14 (by decide +kernel) (fun h14 => ?_) (fun h14 => ?_)
    · refine ng_aload_0 dX9_year_24 ?_
      refine ng_gR dX9_year_25 fl_X9_9 (by first | rfl | assumption) ?_
      refine ng_iconst_0 dX9_year_28 ?_
      refine ng_ialdL (j := 0) dX9_year_29 (by first | rfl | assumption) (by first | assumption | (unfold vp_in; decide)) (by decide) ?_
      refine ng_iconst_1 dX9_year_30 ?_
      refine ng_iadd dX9_year_31 ?_
      refine ng_sipush (v := 199) dX9_year_32 (by decide) ?_
      refine ng_icmp_le 47 dX9_year_35 (by decide +kernel) (fun h35 => ?_) (fun h35 => ?_)
      · refine ng_aload_0 dX9_year_47 ?_
        refine ng_iload_1 dX9_year_48 ?_
        refine ng_iload_2 dX9_year_49 ?_
        refine ng_iconst_0 dX9_year_50 ?_
        refine ng_callV_3i (y2 := mi_X9_goes) dX9_year_51 lk_X9_219 ms_X9_goes my_X9_goes (by first | exact ⟨_, rfl⟩ | assumption | exact ng_fld_obj (f := 0) (by assumption)) mc_X9 (by first | decide | exact Nat.le_of_ble_eq_true rfl) (s_X9_goes (dr := false) hw (ng_vin h4 (n := 10) (by decide)).1 (by have := ng_inT.mp h14; rw [ng_0] at this; exact this.1) (by have := ng_inT.mp h14; exact this.2)) (by decide) (fun v M2 hg => ?_)
        exact ng_ireturn dX9_year_54 ⟨_, rfl, by first | (rw [if_pos (by simp [ok_year, h4, h14]), if_neg h35]; exact ⟨rfl, rfl⟩) | (rw [if_pos (by simp [ok_year, h4, h14]), if_pos h35]; obtain ⟨g1, g2, g3, -⟩ := hg; rw [ng_yz_false.1] at g2; rw [ng_yz_false.2.1] at g1; exact ⟨g1, g2, g3⟩)⟩
      · refine ng_aload_0 dX9_year_38 ?_
        refine ng_ldc dX9_year_39 kc_X9_218 ?_
        refine ng_callV_1x (y2 := mi_X9_finding) dX9_year_41 lk_X9_92 ms_X9_finding my_X9_finding (by first | exact ⟨_, rfl⟩ | assumption | exact ng_fld_obj (f := 0) (by assumption)) mc_X9 (by first | decide | exact Nat.le_of_ble_eq_true rfl) (s_X9_finding (k := 3) (by decide) (by decide) (by decide)) (by decide) ?_
        refine ng_goto 54 dX9_year_44 (by decide +kernel) ?_
        exact ng_ireturn dX9_year_54 ⟨_, rfl, by first | (rw [if_pos (by simp [ok_year, h4, h14]), if_neg h35]; exact ⟨rfl, rfl⟩) | (rw [if_pos (by simp [ok_year, h4, h14]), if_pos h35]; obtain ⟨g1, g2, g3, -⟩ := hg; rw [ng_yz_false.1] at g2; rw [ng_yz_false.2.1] at g1; exact ⟨g1, g2, g3⟩)⟩
    · refine ng_aload_0 dX9_year_17 ?_
      refine ng_ldc dX9_year_18 kc_X9_91 ?_
      refine ng_callV_1x (y2 := mi_X9_finding) dX9_year_20 lk_X9_92 ms_X9_finding my_X9_finding (by first | exact ⟨_, rfl⟩ | assumption | exact ng_fld_obj (f := 0) (by assumption)) mc_X9 (by first | decide | exact Nat.le_of_ble_eq_true rfl) (s_X9_finding (k := 1) (by decide) (by decide) (by decide)) (by decide) ?_
      exact ng_ireturn dX9_year_23 ⟨_, rfl, by rw [if_neg (by simp_all [ok_year])]; exact ⟨rfl, rfl⟩⟩
theorem ng_inv_year {M M1 M2 : ng_M} {t b : Int32} (h : ng_inv M) (ht : vp_in t 10) (hb0 : 0 ≤ b.toInt) (hb1 : b.toInt ≤ 99) (hn : M 74 0 + 1 ≤ 199) (h1 : ng_off [1, 9, 10, 13, 14, 15, 16, 17] M M1) (h2 : M1 1 = upd (M 1) 6 (M 1 6 + 1)) (h3 : ng_sv M1 15 (ng_yr (M 74) t b ng_all)) (g1 : M2 74 = ng_yr (M 74) t b ng_all) (g2 : ng_off [74, 81, 82, 83] M1 M2) : ng_inv M2 := by
  have hI := h.1.1.rl
  have e : ∀ k, k ∉ [1, 9, 10, 13, 14, 15, 16, 17, 74, 81, 82, 83] → M2 k = M k := fun k hk => by
    simp at hk
    rw [g2 k (by simp <;> omega), h1 k (by simp <;> omega)]
  have e1 : M2 1 = upd (M 1) 6 (M 1 6 + 1) := by rw [g2 1 (by decide), h2]
  have b0 := h.1.2.1 0 (by decide)
  have b0' : (0 : Int) ≤ (M 74 0).toInt ∧ (M 74 0).toInt ≤ 199 := b0
  have ea : (M 74 0 + 1).toInt = (M 74 0).toInt + 1 := by rw [ng_addI (by rw [ng_1]; omega) (by rw [ng_1]; omega), ng_1]
  refine ng_inv_I1 h ⟨?_, ?_⟩ (fun k hk => ?_) ?_ ?_
  · rw [g1]
    refine ng_rep.mk (hI.1.kept (fun k hk => e k (by simp at hk ⊢; omega)) (fun k hk => ng_yr_hi (by omega))) ?_ ?_ ?_ ?_ ?_ (fun j hj => ?_) (fun j hj => ?_)
    · obtain ⟨s1, s2, s3, s4, s5, s6, s7⟩ := h3
      have q : M2 15 = M1 15 := g2 15 (by decide)
      have q' : M2 (15 + 1) = M1 (15 + 1) := g2 16 (by decide)
      exact ⟨fun j hj => by rw [q']; exact s1 j hj, by rw [q]; exact s2, by rw [q]; exact s3, by rw [q]; exact s4, by rw [q]; exact s5, by rw [q]; exact s6, by rw [q]; exact s7⟩
    · rw [e1, ng_upd_eq, hI.2.2.1]; rfl
    · rw [e1, ng_upd_ne (by decide), hI.2.2.2.1, ng_yr_hi (by omega)]
    · rw [e1, ng_upd_ne (by decide), hI.2.2.2.2.1, ng_yr_hi (by omega)]
    · rw [e1, ng_upd_ne (by decide), hI.2.2.2.2.2.1, ng_yr_hi (by omega)]
    · rw [e 18 (by decide), ng_yr_hi (by omega)]; exact hI.2.2.2.2.2.2.1 j hj
    · rw [e 19 (by decide), ng_yr_hi (by omega)]; exact hI.2.2.2.2.2.2.2 j hj
  · rw [g1]
    refine (h.1.2.Y.yr ht hb0 hb1).ok ?_ ?_
    · show 0 ≤ (M 74 0 + 1).toInt
      omega
    · show (M 74 0 + 1).toInt ≤ 199
      rw [ng_le, show (199 : Int32).toInt = 199 by decide] at hn
      exact hn
  · unfold ng_oth at hk; exact e k (by simp <;> omega)
  · rw [e 73 (by decide)]
  · rw [e 73 (by decide)]
theorem pr_year {X : Nat × (Nat → Int32)} {M : ng_M} {t b : Int32} (h : ng_inv M) : ng_pair X mi_X8_year mi_X9_year [.int t, .int b] M := by
  have hI := h.1.1.rl
  have h74 : ∀ v M1, (if ok_year t b then (if M 1 6 + 1 ≤ 199 then (v = ng_ysd (M 74) t b ng_all ∧ ng_off [1, 9, 10, 13, 14, 15, 16, 17] M M1 ∧ M1 1 = upd (M 1) 6 (M 1 6 + 1) ∧ ng_sv M1 15 (ng_yr (M 74) t b ng_all)) else (v = -1000000003 ∧ M1 = ng_cfl M 3)) else (v = -1000000001 ∧ M1 = ng_cfl M 1)) → M1 74 = M 74 := by
    intro v M1 h1
    split at h1
    · split at h1
      · exact h1.2.1 74 (by decide)
      · rw [h1.2]; rfl
    · rw [h1.2]; rfl
  refine ng_pair.of (d8 := 6) (d9 := 8) (c_year h.1) (by decide) (by decide) (fun v M1 h1 => r_year (by rw [h74 v M1 h1]; exact h.1.2.wfr)) (fun r1 M1 h1 r2 M2 h2 => ?_)
  rw [h74 r1 M1 h1] at h2
  rw [hI.2.2.1] at h1
  by_cases hok : ok_year t b = true
  · rw [if_pos hok] at h1 h2
    obtain ⟨q1, q2⟩ := Bool.and_eq_true_iff.mp hok
    have qb := ng_inT.mp q2
    rw [ng_0, show (99 : Int32).toInt = 99 by decide] at qb
    by_cases hn : M 74 0 + 1 ≤ 199
    · rw [if_pos hn] at h1 h2
      obtain ⟨a1, a2, a3, a4⟩ := h1
      obtain ⟨b1, b2, b3⟩ := h2
      rw [← hI.2.2.1] at a3
      exact ⟨by rw [a1, b1], ng_inv_year h (ng_vin q1 (n := 10) (by decide)).1 qb.1 qb.2 hn a2 a3 a4 b2 b3⟩
    · rw [if_neg hn] at h1 h2
      obtain ⟨e1, e2⟩ := h1
      subst r1
      subst M1
      obtain ⟨e1, e2⟩ := h2
      subst r2
      subst M2
      exact ⟨rfl, ng_inv_err h⟩
  · rw [if_neg hok] at h1 h2
    obtain ⟨e1, e2⟩ := h1
    subst r1
    subst M1
    obtain ⟨e1, e2⟩ := h2
    subst r2
    subst M2
    exact ⟨rfl, ng_inv_err h⟩
