theorem ng_b_c : ∀ s, s < 10 → ng_bl (11 + s) = 1 ∧ ng_bh (11 + s) = 9999 := by decide +kernel
theorem ng_b_ki : ∀ s, s < 8 → ng_bl (21 + 4 * s) = 0 ∧ ng_bh (21 + 4 * s) = 6 := by decide +kernel
theorem ng_b_wa : ∀ s, s < 8 → ng_bl (22 + 4 * s) = 0 ∧ ng_bh (22 + 4 * s) = 9999 := by decide +kernel
theorem ng_b_ta : ∀ s, s < 8 → ng_bl (23 + 4 * s) = 0 ∧ ng_bh (23 + 4 * s) = 9 := by decide +kernel
theorem ng_b_ha : ∀ s, s < 8 → ng_bl (24 + 4 * s) = 0 ∧ ng_bh (24 + 4 * s) = 9999 := by decide +kernel
theorem ng_b_tp : ∀ s, s < 50 → ng_bl (53 + s) = 0 ∧ ng_bh (53 + s) = 255 := by decide +kernel
theorem ng_b_wt : ∀ s, s < 20 → ng_bl (103 + s) = -2147483648 ∧ ng_bh (103 + s) = 2147483647 := by decide +kernel
/-- one number of the row becomes another, in class and reference -/
theorem ng_inv_set {M : ng_M} (h : ng_inv M) {r j i : Nat} {v : Int32} (hr : 1 ≤ r ∧ r ≤ 19 ∧ r ≠ 7 ∧ r ≠ 8 ∧ r ≠ 11 ∧ r ≠ 12) (hl : ∀ k, k < 123 → (ng_loc 1 k = (r, j) ↔ k = i)) (hi : i < 123) (h1 : ng_bl i ≤ v.toInt) (h2 : v.toInt ≤ ng_bh i) : ng_inv (ng_row (ng_row M r (upd (M r) j v)) 74 (upd (M 74) i v)) := by
  refine ng_inv_I1 h ⟨?_, ?_⟩ (fun k hk => ?_) ?_ ?_
  · rw [ng_row_eq]
    refine (h.1.1.upd (i := i) (v := v) hi (ng_cvr_upd hl) ?_ ?_ ?_ ?_).congr (fun k k1 k2 => ng_row_ne (by omega))
    · rw [ng_row_ne (by omega)]
    · rw [ng_row_ne (by omega)]
    · rw [ng_row_ne (by omega)]
    · rw [ng_row_ne (by omega)]
  · rw [ng_row_eq]; exact h.1.2.upd hi h1 h2
  · unfold ng_oth at hk
    rw [ng_row_ne (by omega), ng_row_ne (by omega)]
  · rw [ng_row_ne (by omega), ng_row_ne (by omega)]
  · rw [ng_row_ne (by omega), ng_row_ne (by omega)]
theorem ng_neI {q k : Int32} {z : Int} (h : ¬ q = k) (e : k.toInt = z) : ¬ q.toInt = z := fun g => h (ng_i_eq (g.trans e.symm))
theorem ng_vp_I {q : Int32} {n : Nat} (h : vp_in q n) : 0 ≤ q.toInt ∧ q.toInt < n := by
  have h1 : ¬ q < 0 := fun g => h (Or.inl g)
  have h2 := ng_vp_lt h
  rw [ng_lt, ng_0] at h1
  rw [ng_clamp] at h2
  omega
theorem ng_five {q : Int32} (h : vp_in q 6) (h0 : ¬ q = 0) (h1 : ¬ q = 1) (h2 : ¬ q = 2) (h3 : ¬ q = 3) (h4 : ¬ q = 4) : q = 5 := by
  have := ng_vp_I h
  have g0 := ng_neI h0 ng_0
  have g1 := ng_neI h1 ng_1
  have g2 := ng_neI h2 ng_2
  have g3 := ng_neI h3 ng_3
  have g4 := ng_neI h4 (show (4 : Int32).toInt = 4 by decide)
  exact ng_i_eq (by rw [ng_5]; omega)
theorem ng_vp_n {s : Int32} {n : Nat} {N : Int32} (h : ng_in s 0 (N - 1) = true) (hN : N = nI n) (hn : n ≤ 8) : vp_in s 8 ∧ s.toNatClampNeg < n ∧ s = nI s.toNatClampNeg := by
  subst hN
  have := ng_inT.mp h
  have e : (nI n - 1).toInt = (n : Int) - 1 := by rw [ng_subI (by rw [nI_toInt (by omega), ng_1]; omega) (by rw [nI_toInt (by omega), ng_1]; omega), nI_toInt (by omega), ng_1]
  rw [ng_0, e] at this
  have v : vp_in s 8 := ng_vp this.1 (by omega)
  refine ⟨v, ?_, ng_nat v⟩
  rw [ng_clamp]; omega
theorem s_X5_setting {X : Nat × (Nat → Int32)} {M : ng_M} {q : Int32} (hq : vp_in q 6) : ng_EvX X 1 mi_X5_setting [.ref 15, .int q] (M) (some (.int (M 15 (q.toNatClampNeg + 3)))) (M) := by
  refine ng_EvX.ofI (lv := [some (.ref 15), some (.int q)]) (ty := .int) (by decide) (Nat.le_of_ble_eq_true rfl) rfl rfl rfl ?_
  refine ng_iload_1 dX5_setting_0 ?_
  refine sw_X5_setting_1 (fun h1 => ?_) (fun h1 => ?_) (fun h1 => ?_) (fun h1 => ?_) (fun h1 => ?_) (fun h1n0 h1n1 h1n2 h1n3 h1n4 => ?_)
  · refine ng_aload_0 dX5_setting_36 ?_
    refine ng_gI dX5_setting_37 fl_X5_35 (by first | rfl | assumption) ?_
    exact ng_ireturn dX5_setting_40 ⟨by first | (rw [h1]; rfl) | (rw [ng_five hq h1n0 h1n1 h1n2 h1n3 h1n4]; rfl), rfl⟩
  · refine ng_aload_0 dX5_setting_41 ?_
    refine ng_gI dX5_setting_42 fl_X5_18 (by first | rfl | assumption) ?_
    exact ng_ireturn dX5_setting_45 ⟨by first | (rw [h1]; rfl) | (rw [ng_five hq h1n0 h1n1 h1n2 h1n3 h1n4]; rfl), rfl⟩
  · refine ng_aload_0 dX5_setting_46 ?_
    refine ng_gI dX5_setting_47 fl_X5_22 (by first | rfl | assumption) ?_
    exact ng_ireturn dX5_setting_50 ⟨by first | (rw [h1]; rfl) | (rw [ng_five hq h1n0 h1n1 h1n2 h1n3 h1n4]; rfl), rfl⟩
  · refine ng_aload_0 dX5_setting_51 ?_
    refine ng_gI dX5_setting_52 fl_X5_38 (by first | rfl | assumption) ?_
    exact ng_ireturn dX5_setting_55 ⟨by first | (rw [h1]; rfl) | (rw [ng_five hq h1n0 h1n1 h1n2 h1n3 h1n4]; rfl), rfl⟩
  · refine ng_aload_0 dX5_setting_56 ?_
    refine ng_gI dX5_setting_57 fl_X5_41 (by first | rfl | assumption) ?_
    exact ng_ireturn dX5_setting_60 ⟨by first | (rw [h1]; rfl) | (rw [ng_five hq h1n0 h1n1 h1n2 h1n3 h1n4]; rfl), rfl⟩
  · refine ng_aload_0 dX5_setting_61 ?_
    refine ng_gI dX5_setting_62 fl_X5_44 (by first | rfl | assumption) ?_
    exact ng_ireturn dX5_setting_65 ⟨by first | (rw [h1]; rfl) | (rw [ng_five hq h1n0 h1n1 h1n2 h1n3 h1n4]; rfl), rfl⟩
theorem s_X5_change {X : Nat × (Nat → Int32)} {M : ng_M} {q v : Int32} (hq : vp_in q 6) : ng_EvX X 1 mi_X5_change [.ref 15, .int q, .int v] (M) none (ng_row M 15 (upd (M 15) (q.toNatClampNeg + 3) v)) := by
  refine ng_EvX.ofV (lv := [some (.ref 15), some (.int q), some (.int v)]) (by decide) (Nat.le_of_ble_eq_true rfl) rfl rfl ?_
  refine ng_iload_1 dX5_change_0 ?_
  refine sw_X5_change_1 (fun h1 => ?_) (fun h1 => ?_) (fun h1 => ?_) (fun h1 => ?_) (fun h1 => ?_) (fun h1n0 h1n1 h1n2 h1n3 h1n4 => ?_)
  · refine ng_aload_0 dX5_change_36 ?_
    refine ng_iload_2 dX5_change_37 ?_
    refine ng_pI dX5_change_38 fp_X5_35 (by first | rfl | assumption) rfl rfl ?_
    refine ng_goto 81 dX5_change_41 (by decide +kernel) ?_
    exact ng_return dX5_change_81 ⟨rfl, by first | (rw [h1]; rfl) | (rw [ng_five hq h1n0 h1n1 h1n2 h1n3 h1n4]; rfl)⟩
  · refine ng_aload_0 dX5_change_44 ?_
    refine ng_iload_2 dX5_change_45 ?_
    refine ng_pI dX5_change_46 fp_X5_18 (by first | rfl | assumption) rfl rfl ?_
    refine ng_goto 81 dX5_change_49 (by decide +kernel) ?_
    exact ng_return dX5_change_81 ⟨rfl, by first | (rw [h1]; rfl) | (rw [ng_five hq h1n0 h1n1 h1n2 h1n3 h1n4]; rfl)⟩
  · refine ng_aload_0 dX5_change_52 ?_
    refine ng_iload_2 dX5_change_53 ?_
    refine ng_pI dX5_change_54 fp_X5_22 (by first | rfl | assumption) rfl rfl ?_
    refine ng_goto 81 dX5_change_57 (by decide +kernel) ?_
    exact ng_return dX5_change_81 ⟨rfl, by first | (rw [h1]; rfl) | (rw [ng_five hq h1n0 h1n1 h1n2 h1n3 h1n4]; rfl)⟩
  · refine ng_aload_0 dX5_change_60 ?_
    refine ng_iload_2 dX5_change_61 ?_
    refine ng_pI dX5_change_62 fp_X5_38 (by first | rfl | assumption) rfl rfl ?_
    refine ng_goto 81 dX5_change_65 (by decide +kernel) ?_
    exact ng_return dX5_change_81 ⟨rfl, by first | (rw [h1]; rfl) | (rw [ng_five hq h1n0 h1n1 h1n2 h1n3 h1n4]; rfl)⟩
  · refine ng_aload_0 dX5_change_68 ?_
    refine ng_iload_2 dX5_change_69 ?_
    refine ng_pI dX5_change_70 fp_X5_41 (by first | rfl | assumption) rfl rfl ?_
    refine ng_goto 81 dX5_change_73 (by decide +kernel) ?_
    exact ng_return dX5_change_81 ⟨rfl, by first | (rw [h1]; rfl) | (rw [ng_five hq h1n0 h1n1 h1n2 h1n3 h1n4]; rfl)⟩
  · refine ng_aload_0 dX5_change_76 ?_
    refine ng_iload_2 dX5_change_77 ?_
    refine ng_pI dX5_change_78 fp_X5_44 (by first | rfl | assumption) rfl rfl ?_
    exact ng_return dX5_change_81 ⟨rfl, by first | (rw [h1]; rfl) | (rw [ng_five hq h1n0 h1n1 h1n2 h1n3 h1n4]; rfl)⟩
abbrev ng_slo (q : Int32) : Int32 := ([0, 0, 0, 0, -99999999, 0] : List Int32).getD q.toNatClampNeg 0
abbrev ng_shi (q : Int32) : Int32 := ([9, 12, 20, 60, 99999999, 999] : List Int32).getD q.toNatClampNeg 0
abbrev ok_set (q v : Int32) : Bool := ng_in q 0 5 && ng_in v (ng_slo q) (ng_shi q)
theorem c_set {X : Nat × (Nat → Int32)} {M : ng_M} {q v : Int32} : ng_EvI X 3 mi_X8_set [.ref 0, .int q, .int v] M (fun r M1 => if ok_set q v then (r = M 15 (q.toNatClampNeg + 3) ∧ M1 = ng_row M 15 (upd (M 15) (q.toNatClampNeg + 3) v)) else (r = -1000000001 ∧ M1 = ng_cfl M 1)) := by
  refine ng_EvI.of (lv := [some (.ref 0), some (.int q), some (.int v), none]) (ty := .int) (by decide) (Nat.le_of_ble_eq_true rfl) rfl rfl (fun _ _ _ => rfl) ?_
  refine ng_iload_1 dX8_set_0 ?_
  refine ng_iconst_0 dX8_set_1 ?_
  refine ng_gets (v := .ref 1000) dX8_set_2 (by decide) fs_X8_75 ?_
  refine ng_klen (k := 0) dX8_set_5 rfl ?_
  refine ng_iconst_1 dX8_set_6 ?_
  refine ng_isub dX8_set_7 ?_
  refine ng_callS_3x (y2 := mi_X8_isWithin) dX8_set_8 lk_X8_61 ms_X8_isWithin my_X8_isWithin (by first | decide | exact Nat.le_of_ble_eq_true rfl) (s_X8_isWithin) (by decide) ?_
  rw [show (Int32.ofNat 6 - 1 : Int32) = 5 from by decide]
  refine ng_ifb_eq 31 dX8_set_11 (by decide +kernel) (fun h11 => ?_) (fun h11 => ?_)
  · refine ng_aload_0 dX8_set_31 ?_
    refine ng_ldc dX8_set_32 kc_X8_65 ?_
    refine ng_callV_1x (y2 := mi_X8_fails) dX8_set_34 lk_X8_66 ms_X8_fails my_X8_fails (by first | exact ⟨_, rfl⟩ | assumption | exact ng_fld_obj (f := 0) (by assumption)) mc_X8 (by first | decide | exact Nat.le_of_ble_eq_true rfl) (s_X8_fails (k := 1) (by decide) (by decide) (by decide)) (by decide) ?_
    exact ng_ireturn dX8_set_37 ⟨_, rfl, by first | (simp only [ok_set, h11, Bool.false_and, if_false]; exact ⟨rfl, rfl⟩) | (rw [if_neg (by simp only [ok_set, h11, Bool.true_and]; rw [Bool.not_eq_true]; exact h28)]; exact ⟨rfl, rfl⟩) | (rw [if_pos (by simp only [ok_set, h11, Bool.true_and]; exact h28)]; exact ⟨rfl, rfl⟩) | simp [ok_set, h11]⟩
  · refine ng_iload_2 dX8_set_14 ?_
    refine ng_gets (v := .ref 1000) dX8_set_15 (by decide) fs_X8_75 ?_
    refine ng_iload_1 dX8_set_18 ?_
    refine ng_kld (k := 0) dX8_set_19 rfl (by exact (ng_vin h11 (n := 6) (by decide)).1) ?_
    refine ng_gets (v := .ref 1001) dX8_set_20 (by decide) fs_X8_78 ?_
    refine ng_iload_1 dX8_set_23 ?_
    refine ng_kld (k := 1) dX8_set_24 rfl (by exact (ng_vin h11 (n := 6) (by decide)).1) ?_
    refine ng_callS_3x (y2 := mi_X8_isWithin) dX8_set_25 lk_X8_61 ms_X8_isWithin my_X8_isWithin (by first | decide | exact Nat.le_of_ble_eq_true rfl) (s_X8_isWithin) (by decide) ?_
    refine ng_ifb_ne 38 dX8_set_28 (by decide +kernel) (fun h28 => ?_) (fun h28 => ?_)
    · refine ng_aload_0 dX8_set_38 ?_
      refine ng_gR dX8_set_39 fl_X8_12 (by first | rfl | assumption) ?_
      refine ng_gR dX8_set_42 fl_X8_81 (by first | rfl | assumption) ?_
      refine ng_iload_1 dX8_set_45 ?_
      refine ng_callV_1x (y2 := mi_X5_setting) dX8_set_46 lk_X8_85 ms_X5_setting my_X5_setting (by first | exact ⟨_, rfl⟩ | assumption | exact ng_fld_obj (f := 0) (by assumption)) mc_X5 (by first | decide | exact Nat.le_of_ble_eq_true rfl) (s_X5_setting (ng_vin h11 (n := 6) (by decide)).1) (by decide) ?_
      refine ng_istore_3 dX8_set_49 (by first | rfl | assumption) ?_
      refine ng_aload_0 dX8_set_50 ?_
      refine ng_gR dX8_set_51 fl_X8_12 (by first | rfl | assumption) ?_
      refine ng_gR dX8_set_54 fl_X8_81 (by first | rfl | assumption) ?_
      refine ng_iload_1 dX8_set_57 ?_
      refine ng_iload_2 dX8_set_58 ?_
      refine ng_callV_2v (y2 := mi_X5_change) dX8_set_59 lk_X8_90 ms_X5_change my_X5_change (by first | exact ⟨_, rfl⟩ | assumption | exact ng_fld_obj (f := 0) (by assumption)) mc_X5 (by first | decide | exact Nat.le_of_ble_eq_true rfl) (s_X5_change (ng_vin h11 (n := 6) (by decide)).1) (by decide) ?_
      refine ng_iload_3 dX8_set_62 ?_
      exact ng_ireturn dX8_set_63 ⟨_, rfl, by first | (simp only [ok_set, h11, Bool.false_and, if_false]; exact ⟨rfl, rfl⟩) | (rw [if_neg (by simp only [ok_set, h11, Bool.true_and]; rw [Bool.not_eq_true]; exact h28)]; exact ⟨rfl, rfl⟩) | (rw [if_pos (by simp only [ok_set, h11, Bool.true_and]; exact h28)]; exact ⟨rfl, rfl⟩) | simp [ok_set, h11]⟩
    · refine ng_aload_0 dX8_set_31 ?_
      refine ng_ldc dX8_set_32 kc_X8_65 ?_
      refine ng_callV_1x (y2 := mi_X8_fails) dX8_set_34 lk_X8_66 ms_X8_fails my_X8_fails (by first | exact ⟨_, rfl⟩ | assumption | exact ng_fld_obj (f := 0) (by assumption)) mc_X8 (by first | decide | exact Nat.le_of_ble_eq_true rfl) (s_X8_fails (k := 1) (by decide) (by decide) (by decide)) (by decide) ?_
      exact ng_ireturn dX8_set_37 ⟨_, rfl, by first | (simp only [ok_set, h11, Bool.false_and, if_false]; exact ⟨rfl, rfl⟩) | (rw [if_neg (by simp only [ok_set, h11, Bool.true_and]; rw [Bool.not_eq_true]; exact h28)]; exact ⟨rfl, rfl⟩) | (rw [if_pos (by simp only [ok_set, h11, Bool.true_and]; exact h28)]; exact ⟨rfl, rfl⟩) | simp [ok_set, h11]⟩
theorem ng_slo_eq {q : Int32} (h : vp_in q 6) : ng_slo q = if q = 4 then -99999999 else 0 := by
  by_cases h0 : q = 0
  · subst h0; decide
  · by_cases h1 : q = 1
    · subst h1; decide
    · by_cases h2 : q = 2
      · subst h2; decide
      · by_cases h3 : q = 3
        · subst h3; decide
        · by_cases h4 : q = 4
          · subst h4; decide
          · rw [ng_five h h0 h1 h2 h3 h4]; decide
theorem ng_b_s : ∀ w, w < 6 → ng_bl (2 + w) = (([0, 0, 0, 0, -99999999, 0] : List Int32).getD w 0).toInt ∧ ng_bh (2 + w) = (([9, 12, 20, 60, 99999999, 999] : List Int32).getD w 0).toInt := by decide +kernel
abbrev ok_setR (M : ng_M) (q v : Int32) : Bool := ng_in q 0 5 && ng_in v (if q = 4 then -99999999 else 0) (M 78 q.toNatClampNeg)
theorem ng_setR {M : ng_M} {q v : Int32} (h6 : ng_I6 M) : ok_setR M q v = ok_set q v := by
  unfold ok_setR ok_set
  by_cases h : ng_in q 0 5 = true
  · have g := ng_vin h (n := 6) (by decide)
    rw [ng_slo_eq g.1, h6 _ g.2]
  · rw [Bool.not_eq_true] at h
    rw [h, Bool.false_and, Bool.false_and]
theorem r_set {X : Nat × (Nat → Int32)} {M : ng_M} {q v : Int32} : ng_EvI X 3 mi_X9_set [.ref 73, .int q, .int v] M (fun r M1 => if ok_setR M q v then (r = M 74 (2 + q.toNatClampNeg) ∧ M1 = ng_row M 74 (upd (M 74) (2 + q.toNatClampNeg) v)) else (r = -1000000001 ∧ M1 = ng_rfl M 1)) := by
  refine ng_EvI.of (lv := [some (.ref 73), some (.int q), some (.int v), none]) (ty := .int) (by decide) (Nat.le_of_ble_eq_true rfl) rfl rfl (fun _ _ _ => rfl) ?_
  refine ng_iload_1 dX9_set_0 ?_
  refine ng_iconst_0 dX9_set_1 ?_
  refine ng_iconst_5 dX9_set_2 ?_
  refine ng_callS_3x (y2 := mi_X9_within) dX9_set_3 lk_X9_80 ms_X9_within my_X9_within (by first | decide | exact Nat.le_of_ble_eq_true rfl) (s_X9_within) (by decide) ?_
  refine ng_ifb_eq 37 dX9_set_6 (by decide +kernel) (fun h6 => ?_) (fun h6 => ?_)
  · refine ng_iconst_0 dX9_set_37 ?_
    refine ng_istore_3 dX9_set_38 (by first | rfl | assumption) ?_
    refine ng_iload_3 dX9_set_39 ?_
    refine ng_if_eq 54 dX9_set_40 (by decide +kernel) (fun h40 => ?_) (fun h40 => ?_)
    · refine ng_aload_0 dX9_set_54 ?_
      refine ng_ldc dX9_set_55 kc_X9_91 ?_
      refine ng_callV_1x (y2 := mi_X9_finding) dX9_set_57 lk_X9_92 ms_X9_finding my_X9_finding (by first | exact ⟨_, rfl⟩ | assumption | exact ng_fld_obj (f := 0) (by assumption)) mc_X9 (by first | decide | exact Nat.le_of_ble_eq_true rfl) (s_X9_finding (k := 1) (by decide) (by decide) (by decide)) (by decide) ?_
      exact ng_ireturn dX9_set_60 ⟨_, rfl, by first | (rw [if_pos (show ok_setR M q v = true by unfold ok_setR; first | (rw [h6, if_pos h12, h30]; rfl) | (rw [h6, if_neg h12, h30]; rfl))]; exact ⟨rfl, rfl⟩) | (rw [if_neg (show ¬ ok_setR M q v = true by unfold ok_setR; first | (rw [h6, if_pos h12, h30]; decide) | (rw [h6, if_neg h12, h30]; decide))]; exact ⟨rfl, rfl⟩) | (rw [if_neg (show ¬ ok_setR M q v = true by unfold ok_setR; rw [h6, Bool.false_and]; decide)]; exact ⟨rfl, rfl⟩)⟩
    · exact absurd (by decide) h40
  · refine ng_iload_2 dX9_set_9 ?_
    refine ng_iload_1 dX9_set_10 ?_
    refine ng_iconst_4 dX9_set_11 ?_
    refine ng_icmp_ne 20 dX9_set_12 (by decide +kernel) (fun h12 => ?_) (fun h12 => ?_)
    · refine ng_iconst_0 dX9_set_20 ?_
      refine ng_aload_0 dX9_set_21 ?_
      refine ng_gR dX9_set_22 fl_X9_23 (by first | rfl | assumption) ?_
      refine ng_iload_1 dX9_set_25 ?_
      refine ng_ialdL (j := q.toNatClampNeg) dX9_set_26 (by first | rfl | assumption) (by exact (ng_vin h6 (n := 6) (by decide)).1) (by rfl) ?_
      refine ng_callS_3x (y2 := mi_X9_within) dX9_set_27 lk_X9_80 ms_X9_within my_X9_within (by first | decide | exact Nat.le_of_ble_eq_true rfl) (s_X9_within) (by decide) ?_
      refine ng_ifb_eq 37 dX9_set_30 (by decide +kernel) (fun h30 => ?_) (fun h30 => ?_)
      · refine ng_iconst_0 dX9_set_37 ?_
        refine ng_istore_3 dX9_set_38 (by first | rfl | assumption) ?_
        refine ng_iload_3 dX9_set_39 ?_
        refine ng_if_eq 54 dX9_set_40 (by decide +kernel) (fun h40 => ?_) (fun h40 => ?_)
        · refine ng_aload_0 dX9_set_54 ?_
          refine ng_ldc dX9_set_55 kc_X9_91 ?_
          refine ng_callV_1x (y2 := mi_X9_finding) dX9_set_57 lk_X9_92 ms_X9_finding my_X9_finding (by first | exact ⟨_, rfl⟩ | assumption | exact ng_fld_obj (f := 0) (by assumption)) mc_X9 (by first | decide | exact Nat.le_of_ble_eq_true rfl) (s_X9_finding (k := 1) (by decide) (by decide) (by decide)) (by decide) ?_
          exact ng_ireturn dX9_set_60 ⟨_, rfl, by first | (rw [if_pos (show ok_setR M q v = true by unfold ok_setR; first | (rw [h6, if_pos h12, h30]; rfl) | (rw [h6, if_neg h12, h30]; rfl))]; exact ⟨rfl, rfl⟩) | (rw [if_neg (show ¬ ok_setR M q v = true by unfold ok_setR; first | (rw [h6, if_pos h12, h30]; decide) | (rw [h6, if_neg h12, h30]; decide))]; exact ⟨rfl, rfl⟩) | (rw [if_neg (show ¬ ok_setR M q v = true by unfold ok_setR; rw [h6, Bool.false_and]; decide)]; exact ⟨rfl, rfl⟩)⟩
        · exact absurd (by decide) h40
      · refine ng_iconst_1 dX9_set_33 ?_
        refine ng_goto 38 dX9_set_34 (by decide +kernel) ?_
        refine ng_istore_3 dX9_set_38 (by first | rfl | assumption) ?_
        refine ng_iload_3 dX9_set_39 ?_
        refine ng_if_eq 54 dX9_set_40 (by decide +kernel) (fun h40 => ?_) (fun h40 => ?_)
        · exact absurd h40 (by decide)
        · refine ng_aload_0 dX9_set_43 ?_
          refine ng_iconst_2 dX9_set_44 ?_
          refine ng_iload_1 dX9_set_45 ?_
          refine ng_iadd dX9_set_46 ?_
          refine ng_iload_2 dX9_set_47 ?_
          refine ng_callV_2x (y2 := mi_X9_become) dX9_set_48 lk_X9_88 ms_X9_become my_X9_become (by first | exact ⟨_, rfl⟩ | assumption | exact ng_fld_obj (f := 0) (by assumption)) mc_X9 (by first | decide | exact Nat.le_of_ble_eq_true rfl) (s_X9_become (k := 2 + q.toNatClampNeg) (ng_ix_add 2 (ng_vin h6 (n := 6) (by decide)).1) (by have := (ng_vin h6 (n := 6) (by decide)).2; omega)) (by decide) ?_
          refine ng_goto 60 dX9_set_51 (by decide +kernel) ?_
          exact ng_ireturn dX9_set_60 ⟨_, rfl, by first | (rw [if_pos (show ok_setR M q v = true by unfold ok_setR; first | (rw [h6, if_pos h12, h30]; rfl) | (rw [h6, if_neg h12, h30]; rfl))]; exact ⟨rfl, rfl⟩) | (rw [if_neg (show ¬ ok_setR M q v = true by unfold ok_setR; first | (rw [h6, if_pos h12, h30]; decide) | (rw [h6, if_neg h12, h30]; decide))]; exact ⟨rfl, rfl⟩) | (rw [if_neg (show ¬ ok_setR M q v = true by unfold ok_setR; rw [h6, Bool.false_and]; decide)]; exact ⟨rfl, rfl⟩)⟩
    · refine ng_ldc dX9_set_15 kc_X9_96 ?_
      refine ng_goto 21 dX9_set_17 (by decide +kernel) ?_
      refine ng_aload_0 dX9_set_21 ?_
      refine ng_gR dX9_set_22 fl_X9_23 (by first | rfl | assumption) ?_
      refine ng_iload_1 dX9_set_25 ?_
      refine ng_ialdL (j := q.toNatClampNeg) dX9_set_26 (by first | rfl | assumption) (by exact (ng_vin h6 (n := 6) (by decide)).1) (by rfl) ?_
      refine ng_callS_3x (y2 := mi_X9_within) dX9_set_27 lk_X9_80 ms_X9_within my_X9_within (by first | decide | exact Nat.le_of_ble_eq_true rfl) (s_X9_within) (by decide) ?_
      refine ng_ifb_eq 37 dX9_set_30 (by decide +kernel) (fun h30 => ?_) (fun h30 => ?_)
      · refine ng_iconst_0 dX9_set_37 ?_
        refine ng_istore_3 dX9_set_38 (by first | rfl | assumption) ?_
        refine ng_iload_3 dX9_set_39 ?_
        refine ng_if_eq 54 dX9_set_40 (by decide +kernel) (fun h40 => ?_) (fun h40 => ?_)
        · refine ng_aload_0 dX9_set_54 ?_
          refine ng_ldc dX9_set_55 kc_X9_91 ?_
          refine ng_callV_1x (y2 := mi_X9_finding) dX9_set_57 lk_X9_92 ms_X9_finding my_X9_finding (by first | exact ⟨_, rfl⟩ | assumption | exact ng_fld_obj (f := 0) (by assumption)) mc_X9 (by first | decide | exact Nat.le_of_ble_eq_true rfl) (s_X9_finding (k := 1) (by decide) (by decide) (by decide)) (by decide) ?_
          exact ng_ireturn dX9_set_60 ⟨_, rfl, by first | (rw [if_pos (show ok_setR M q v = true by unfold ok_setR; first | (rw [h6, if_pos h12, h30]; rfl) | (rw [h6, if_neg h12, h30]; rfl))]; exact ⟨rfl, rfl⟩) | (rw [if_neg (show ¬ ok_setR M q v = true by unfold ok_setR; first | (rw [h6, if_pos h12, h30]; decide) | (rw [h6, if_neg h12, h30]; decide))]; exact ⟨rfl, rfl⟩) | (rw [if_neg (show ¬ ok_setR M q v = true by unfold ok_setR; rw [h6, Bool.false_and]; decide)]; exact ⟨rfl, rfl⟩)⟩
        · exact absurd (by decide) h40
      · refine ng_iconst_1 dX9_set_33 ?_
        refine ng_goto 38 dX9_set_34 (by decide +kernel) ?_
        refine ng_istore_3 dX9_set_38 (by first | rfl | assumption) ?_
        refine ng_iload_3 dX9_set_39 ?_
        refine ng_if_eq 54 dX9_set_40 (by decide +kernel) (fun h40 => ?_) (fun h40 => ?_)
        · exact absurd h40 (by decide)
        · refine ng_aload_0 dX9_set_43 ?_
          refine ng_iconst_2 dX9_set_44 ?_
          refine ng_iload_1 dX9_set_45 ?_
          refine ng_iadd dX9_set_46 ?_
          refine ng_iload_2 dX9_set_47 ?_
          refine ng_callV_2x (y2 := mi_X9_become) dX9_set_48 lk_X9_88 ms_X9_become my_X9_become (by first | exact ⟨_, rfl⟩ | assumption | exact ng_fld_obj (f := 0) (by assumption)) mc_X9 (by first | decide | exact Nat.le_of_ble_eq_true rfl) (s_X9_become (k := 2 + q.toNatClampNeg) (ng_ix_add 2 (ng_vin h6 (n := 6) (by decide)).1) (by have := (ng_vin h6 (n := 6) (by decide)).2; omega)) (by decide) ?_
          refine ng_goto 60 dX9_set_51 (by decide +kernel) ?_
          exact ng_ireturn dX9_set_60 ⟨_, rfl, by first | (rw [if_pos (show ok_setR M q v = true by unfold ok_setR; first | (rw [h6, if_pos h12, h30]; rfl) | (rw [h6, if_neg h12, h30]; rfl))]; exact ⟨rfl, rfl⟩) | (rw [if_neg (show ¬ ok_setR M q v = true by unfold ok_setR; first | (rw [h6, if_pos h12, h30]; decide) | (rw [h6, if_neg h12, h30]; decide))]; exact ⟨rfl, rfl⟩) | (rw [if_neg (show ¬ ok_setR M q v = true by unfold ok_setR; rw [h6, Bool.false_and]; decide)]; exact ⟨rfl, rfl⟩)⟩
theorem pr_set {X : Nat × (Nat → Int32)} {M : ng_M} {q v : Int32} (h : ng_inv M) : ng_pair X mi_X8_set mi_X9_set [.int q, .int v] M := by
  have hI := h.1.1.rl
  refine ng_pair.of (d8 := 3) (d9 := 3) (c_set) (by decide) (by decide) (fun _ M1 _ => r_set) (fun r1 M1 h1 r2 M2 h2 => ?_)
  by_cases hok : ok_set q v = true
  · rw [if_pos hok] at h1
    obtain ⟨rfl, rfl⟩ := h1
    change if ok_setR M q v then _ else _ at h2
    rw [ng_setR h.2.2.2.2.2] at h2
    rw [if_pos hok] at h2
    obtain ⟨rfl, rfl⟩ := h2
    obtain ⟨h4, h15⟩ := Bool.and_eq_true_iff.mp hok
    have hs := (ng_vin h4 (n := 6) (by decide)).2
    have hv := ng_inT.mp h15
    have hb := ng_b_s _ hs
    have hl := ng_loc_st (q.toNatClampNeg + 3) (by omega) (by omega)
    have e : ng_row (ng_row M 15 (upd (M 15) (q.toNatClampNeg + 3) v)) 74 (upd (M 74) (2 + q.toNatClampNeg) v) = ng_row (ng_row M 15 (upd (M 15) (q.toNatClampNeg + 3) v)) 74 (upd (M 74) (q.toNatClampNeg + 3 - 1) v) := by rw [show q.toNatClampNeg + 3 - 1 = 2 + q.toNatClampNeg by omega]
    refine ⟨?_, ?_⟩
    · have := h.1.1.1 (2 + q.toNatClampNeg) (by omega)
      rw [ng_cvr_at ((hl _ (by omega)).mpr (by omega))] at this
      exact this.symm
    · have := ng_inv_set h (v := v) (by decide) hl (by omega) (by rw [show q.toNatClampNeg + 3 - 1 = 2 + q.toNatClampNeg by omega, hb.1]; exact hv.1) (by rw [show q.toNatClampNeg + 3 - 1 = 2 + q.toNatClampNeg by omega, hb.2]; exact hv.2)
      rw [← e] at this
      exact this
  · rw [if_neg hok] at h1
    obtain ⟨rfl, rfl⟩ := h1
    change if ok_setR M q v then _ else _ at h2
    rw [ng_setR h.2.2.2.2.2] at h2
    rw [if_neg hok] at h2
    obtain ⟨rfl, rfl⟩ := h2
    exact ⟨rfl, ng_inv_err h⟩
theorem c_seed {X : Nat × (Nat → Int32)} {M : ng_M} {v : Int32} : ng_EvI X 1 mi_X8_seed [.ref 0, .int v] M (fun r M1 => r = M 1 7 ∧ M1 = ng_row M 1 (upd (M 1) 7 v)) := by
  refine ng_EvI.of (lv := [some (.ref 0), some (.int v), none]) (ty := .int) (by decide) (Nat.le_of_ble_eq_true rfl) rfl rfl (fun _ _ _ => rfl) ?_
  refine ng_aload_0 dX8_seed_0 ?_
  refine ng_gR dX8_seed_1 fl_X8_12 (by first | rfl | assumption) ?_
  refine ng_gI dX8_seed_4 fl_X8_256 (by first | rfl | assumption) ?_
  refine ng_istore_2 dX8_seed_7 (by first | rfl | assumption) ?_
  refine ng_aload_0 dX8_seed_8 ?_
  refine ng_gR dX8_seed_9 fl_X8_12 (by first | rfl | assumption) ?_
  refine ng_iload_1 dX8_seed_12 ?_
  refine ng_pI dX8_seed_13 fp_X8_256 (by first | rfl | assumption) rfl rfl ?_
  refine ng_iload_2 dX8_seed_16 ?_
  exact ng_ireturn dX8_seed_17 ⟨_, rfl, rfl, rfl⟩
theorem r_seed {X : Nat × (Nat → Int32)} {M : ng_M} {v : Int32} : ng_EvI X 2 mi_X9_seed [.ref 73, .int v] M (fun r M1 => r = M 74 10 ∧ M1 = ng_row M 74 (upd (M 74) 10 v)) := by
  refine ng_EvI.of (lv := [some (.ref 73), some (.int v)]) (ty := .int) (by decide) (Nat.le_of_ble_eq_true rfl) rfl rfl (fun _ _ _ => rfl) ?_
  refine ng_aload_0 dX9_seed_0 ?_
  refine ng_bipush (v := 10) dX9_seed_1 (by decide) ?_
  refine ng_iload_1 dX9_seed_3 ?_
  refine ng_callV_2x (y2 := mi_X9_become) dX9_seed_4 lk_X9_88 ms_X9_become my_X9_become (by first | exact ⟨_, rfl⟩ | assumption | exact ng_fld_obj (f := 0) (by assumption)) mc_X9 (by first | decide | exact Nat.le_of_ble_eq_true rfl) (s_X9_become (k := 10) (by decide) (by decide)) (by decide) ?_
  exact ng_ireturn dX9_seed_7 ⟨_, rfl, rfl, rfl⟩
theorem pr_seed {X : Nat × (Nat → Int32)} {M : ng_M} {v : Int32} (h : ng_inv M) : ng_pair X mi_X8_seed mi_X9_seed [.int v] M := by
  refine ng_pair.of (d8 := 1) (d9 := 2) c_seed (by decide) (by decide) (fun _ M1 _ => r_seed) (fun r1 M1 h1 r2 M2 h2 => ?_)
  obtain ⟨rfl, rfl⟩ := h1
  obtain ⟨rfl, rfl⟩ := h2
  have hr := ng_rng v
  exact ⟨h.1.1.rl.2.2.2.2.2.1.symm, ng_inv_set h (v := v) (by decide) (fun k hk => (ng_loc_w k hk).2.2.2) (by decide) (show (-2147483648 : Int) ≤ _ by omega) (show _ ≤ (2147483647 : Int) by omega)⟩
abbrev ok_told (k : Int32) : Bool := ng_in k 1 5
theorem c_told {X : Nat × (Nat → Int32)} {M : ng_M} {k : Int32} : ng_EvI X 3 mi_X8_told [.ref 0, .int k] M (fun r M1 => if ok_told k then (r = M 72 k.toNatClampNeg ∧ M1 = M) else (r = -1000000001 ∧ M1 = ng_cfl M 1)) := by
  refine ng_EvI.of (lv := [some (.ref 0), some (.int k)]) (ty := .int) (by decide) (Nat.le_of_ble_eq_true rfl) rfl rfl (fun _ _ _ => rfl) ?_
  refine ng_iload_1 dX8_told_0 ?_
  refine ng_iconst_1 dX8_told_1 ?_
  refine ng_iconst_5 dX8_told_2 ?_
  refine ng_callS_3x (y2 := mi_X8_isWithin) dX8_told_3 lk_X8_61 ms_X8_isWithin my_X8_isWithin (by first | decide | exact Nat.le_of_ble_eq_true rfl) (s_X8_isWithin) (by decide) ?_
  refine ng_ifb_eq 18 dX8_told_6 (by decide +kernel) (fun h6 => ?_) (fun h6 => ?_)
  · refine ng_aload_0 dX8_told_18 ?_
    refine ng_ldc dX8_told_19 kc_X8_65 ?_
    refine ng_callV_1x (y2 := mi_X8_fails) dX8_told_21 lk_X8_66 ms_X8_fails my_X8_fails (by first | exact ⟨_, rfl⟩ | assumption | exact ng_fld_obj (f := 0) (by assumption)) mc_X8 (by first | decide | exact Nat.le_of_ble_eq_true rfl) (s_X8_fails (k := 1) (by decide) (by decide) (by decide)) (by decide) ?_
    exact ng_ireturn dX8_told_24 ⟨_, rfl, by simp [ok_told, *]⟩
  · refine ng_aload_0 dX8_told_9 ?_
    refine ng_gR dX8_told_10 fl_X8_52 (by first | rfl | assumption) ?_
    refine ng_iload_1 dX8_told_13 ?_
    refine ng_iald dX8_told_14 (by first | rfl | assumption) (by exact ng_vp (by have := ng_inT.mp h6; rw [ng_1, ng_5] at this; omega) (by have := ng_inT.mp h6; rw [ng_1, ng_5] at this; omega)) ?_
    refine ng_goto 24 dX8_told_15 (by decide +kernel) ?_
    exact ng_ireturn dX8_told_24 ⟨_, rfl, by simp [ok_told, *]⟩
theorem r_told {X : Nat × (Nat → Int32)} {M : ng_M} {k : Int32} : ng_EvI X 2 mi_X9_told [.ref 73, .int k] M (fun r M1 => if ok_told k then (r = M 77 k.toNatClampNeg ∧ M1 = M) else (r = -1000000001 ∧ M1 = ng_rfl M 1)) := by
  refine ng_EvI.of (lv := [some (.ref 73), some (.int k)]) (ty := .int) (by decide) (Nat.le_of_ble_eq_true rfl) rfl rfl (fun _ _ _ => rfl) ?_
  refine ng_iload_1 dX9_told_0 ?_
  refine ng_iconst_1 dX9_told_1 ?_
  refine ng_iconst_5 dX9_told_2 ?_
  refine ng_callS_3x (y2 := mi_X9_within) dX9_told_3 lk_X9_80 ms_X9_within my_X9_within (by first | decide | exact Nat.le_of_ble_eq_true rfl) (s_X9_within) (by decide) ?_
  refine ng_ifb_eq 18 dX9_told_6 (by decide +kernel) (fun h6 => ?_) (fun h6 => ?_)
  · refine ng_aload_0 dX9_told_18 ?_
    refine ng_ldc dX9_told_19 kc_X9_91 ?_
    refine ng_callV_1x (y2 := mi_X9_finding) dX9_told_21 lk_X9_92 ms_X9_finding my_X9_finding (by first | exact ⟨_, rfl⟩ | assumption | exact ng_fld_obj (f := 0) (by assumption)) mc_X9 (by first | decide | exact Nat.le_of_ble_eq_true rfl) (s_X9_finding (k := 1) (by decide) (by decide) (by decide)) (by decide) ?_
    exact ng_ireturn dX9_told_24 ⟨_, rfl, by simp [ok_told, *]⟩
  · refine ng_aload_0 dX9_told_9 ?_
    refine ng_gR dX9_told_10 fl_X9_19 (by first | rfl | assumption) ?_
    refine ng_iload_1 dX9_told_13 ?_
    refine ng_iald dX9_told_14 (by first | rfl | assumption) (by exact ng_vp (by have := ng_inT.mp h6; rw [ng_1, ng_5] at this; omega) (by have := ng_inT.mp h6; rw [ng_1, ng_5] at this; omega)) ?_
    refine ng_goto 24 dX9_told_15 (by decide +kernel) ?_
    exact ng_ireturn dX9_told_24 ⟨_, rfl, by simp [ok_told, *]⟩
theorem pr_told {X : Nat × (Nat → Int32)} {M : ng_M} {k : Int32} (h : ng_inv M) : ng_pair X mi_X8_told mi_X9_told [.int k] M := by
  have hI := h.1.1.rl
  refine ng_pair.of (d8 := 3) (d9 := 2) (c_told) (by decide) (by decide) (fun _ M1 _ => r_told) (fun r1 M1 h1 r2 M2 h2 => ?_)
  by_cases hok : ok_told k = true
  · rw [if_pos hok] at h1
    obtain ⟨rfl, rfl⟩ := h1
    change if ok_told k then _ else _ at h2
    rw [if_pos hok] at h2
    obtain ⟨rfl, rfl⟩ := h2
    have := ng_inT.mp hok
    rw [ng_1, ng_5] at this
    exact ⟨(h.2.2.1 _ (by rw [ng_clamp]; omega) (by rw [ng_clamp]; omega)).symm, h⟩
  · rw [if_neg hok] at h1
    obtain ⟨rfl, rfl⟩ := h1
    change if ok_told k then _ else _ at h2
    rw [if_neg hok] at h2
    obtain ⟨rfl, rfl⟩ := h2
    exact ⟨rfl, ng_inv_err h⟩
theorem ng_vp_m {s N : Int32} {n m : Nat} (h : ng_in s 0 (N - 1) = true) (hN : N = nI n) (hn : n ≤ m) (hm : m < 1000) : vp_in s m ∧ s.toNatClampNeg < n ∧ s = nI s.toNatClampNeg := by
  subst hN
  have := ng_inT.mp h
  have e : (nI n - 1).toInt = (n : Int) - 1 := by rw [ng_subI (by rw [nI_toInt (by omega), ng_1]; omega) (by rw [nI_toInt (by omega), ng_1]; omega), nI_toInt (by omega), ng_1]
  rw [ng_0, e] at this
  have v : vp_in s m := ng_vp this.1 (by omega)
  refine ⟨v, ?_, ng_nat v⟩
  rw [ng_clamp]; omega
theorem c_trace {X : Nat × (Nat → Int32)} {M : ng_M} {k : Int32} {n : Nat} (hn : M 58 1 = nI n) (hn40 : n ≤ 40) : ng_EvI X 3 mi_X8_trace [.ref 0, .int k] M (fun r M1 => if ng_in k 0 (M 58 1 - 1) then (r = M 59 k.toNatClampNeg ∧ M1 = M) else (r = -1000000002 ∧ M1 = ng_cfl M 2)) := by
  refine ng_EvI.of (lv := [some (.ref 0), some (.int k)]) (ty := .int) (by decide) (Nat.le_of_ble_eq_true rfl) rfl rfl (fun _ _ _ => rfl) ?_
  refine ng_iload_1 dX8_trace_0 ?_
  refine ng_iconst_0 dX8_trace_1 ?_
  refine ng_aload_0 dX8_trace_2 ?_
  refine ng_gR dX8_trace_3 fl_X8_35 (by first | rfl | assumption) ?_
  refine ng_gI dX8_trace_6 fl_X8_263 (by first | rfl | assumption) ?_
  refine ng_iconst_1 dX8_trace_9 ?_
  refine ng_isub dX8_trace_10 ?_
  refine ng_callS_3x (y2 := mi_X8_isWithin) dX8_trace_11 lk_X8_61 ms_X8_isWithin my_X8_isWithin (by first | decide | exact Nat.le_of_ble_eq_true rfl) (s_X8_isWithin) (by decide) ?_
  refine ng_ifb_eq 29 dX8_trace_14 (by decide +kernel) (fun h14 => ?_) (fun h14 => ?_)
  · refine ng_aload_0 dX8_trace_29 ?_
    refine ng_ldc dX8_trace_30 kc_X8_130 ?_
    refine ng_callV_1x (y2 := mi_X8_fails) dX8_trace_32 lk_X8_66 ms_X8_fails my_X8_fails (by first | exact ⟨_, rfl⟩ | assumption | exact ng_fld_obj (f := 0) (by assumption)) mc_X8 (by first | decide | exact Nat.le_of_ble_eq_true rfl) (s_X8_fails (k := 2) (by decide) (by decide) (by decide)) (by decide) ?_
    exact ng_ireturn dX8_trace_35 ⟨_, rfl, by simp [h14]⟩
  · refine ng_aload_0 dX8_trace_17 ?_
    refine ng_gR dX8_trace_18 fl_X8_35 (by first | rfl | assumption) ?_
    refine ng_gR dX8_trace_21 fl_X8_266 (by first | rfl | assumption) ?_
    refine ng_iload_1 dX8_trace_24 ?_
    refine ng_iald dX8_trace_25 (by first | rfl | assumption) (by exact (ng_vp_m h14 hn hn40 (by decide)).1) ?_
    refine ng_goto 35 dX8_trace_26 (by decide +kernel) ?_
    exact ng_ireturn dX8_trace_35 ⟨_, rfl, by simp [h14]⟩
theorem r_trace {X : Nat × (Nat → Int32)} {M : ng_M} {k : Int32} {n : Nat} (hn : M 73 19 = nI n) (hn40 : n ≤ 40) : ng_EvI X 2 mi_X9_trace [.ref 73, .int k] M (fun r M1 => if ng_in k 0 (M 73 19 - 1) then (r = M 85 k.toNatClampNeg ∧ M1 = M) else (r = -1000000002 ∧ M1 = ng_rfl M 2)) := by
  refine ng_EvI.of (lv := [some (.ref 73), some (.int k)]) (ty := .int) (by decide) (Nat.le_of_ble_eq_true rfl) rfl rfl (fun _ _ _ => rfl) ?_
  refine ng_iload_1 dX9_trace_0 ?_
  refine ng_iconst_0 dX9_trace_1 ?_
  refine ng_aload_0 dX9_trace_2 ?_
  refine ng_gI dX9_trace_3 fl_X9_253 (by first | rfl | assumption) ?_
  refine ng_iconst_1 dX9_trace_6 ?_
  refine ng_isub dX9_trace_7 ?_
  refine ng_callS_3x (y2 := mi_X9_within) dX9_trace_8 lk_X9_80 ms_X9_within my_X9_within (by first | decide | exact Nat.le_of_ble_eq_true rfl) (s_X9_within) (by decide) ?_
  refine ng_ifb_eq 23 dX9_trace_11 (by decide +kernel) (fun h11 => ?_) (fun h11 => ?_)
  · refine ng_aload_0 dX9_trace_23 ?_
    refine ng_ldc dX9_trace_24 kc_X9_118 ?_
    refine ng_callV_1x (y2 := mi_X9_finding) dX9_trace_26 lk_X9_92 ms_X9_finding my_X9_finding (by first | exact ⟨_, rfl⟩ | assumption | exact ng_fld_obj (f := 0) (by assumption)) mc_X9 (by first | decide | exact Nat.le_of_ble_eq_true rfl) (s_X9_finding (k := 2) (by decide) (by decide) (by decide)) (by decide) ?_
    exact ng_ireturn dX9_trace_29 ⟨_, rfl, by simp [h11]⟩
  · refine ng_aload_0 dX9_trace_14 ?_
    refine ng_gR dX9_trace_15 fl_X9_51 (by first | rfl | assumption) ?_
    refine ng_iload_1 dX9_trace_18 ?_
    refine ng_iald dX9_trace_19 (by first | rfl | assumption) (by exact (ng_vp_m h11 hn hn40 (by decide)).1) ?_
    refine ng_goto 29 dX9_trace_20 (by decide +kernel) ?_
    exact ng_ireturn dX9_trace_29 ⟨_, rfl, by simp [h11]⟩
theorem pr_trace {X : Nat × (Nat → Int32)} {M : ng_M} {k : Int32} (h : ng_inv M) : ng_pair X mi_X8_trace mi_X9_trace [.int k] M := by
  obtain ⟨e1, n, hn, hn40, hj⟩ := id h.2.2.2.1
  refine ng_pair.of (d8 := 3) (d9 := 2) (c_trace (e1.trans hn) hn40) (by decide) (by decide) (Qq := fun M1 r M2 => if ng_in k 0 (M 73 19 - 1) then (r = M 85 k.toNatClampNeg ∧ M2 = M1) else (r = -1000000002 ∧ M2 = ng_rfl M1 2)) (fun _ M1 h1 => ?_) (fun r1 M1 h1 r2 M2 h2 => ?_)
  · by_cases hok : ng_in k 0 (M 58 1 - 1) = true
    · rw [if_pos hok] at h1
      rw [h1.2]
      exact r_trace hn hn40
    · rw [if_neg hok] at h1
      rw [h1.2]
      exact r_trace (M := ng_cfl M 2) hn hn40
  · rw [e1] at h1
    by_cases hok : ng_in k 0 (M 73 19 - 1) = true
    · rw [if_pos hok] at h1 h2
      obtain ⟨rfl, rfl⟩ := h1
      obtain ⟨rfl, rfl⟩ := h2
      exact ⟨(hj _ (ng_vp_m hok hn hn40 (by decide)).2.1).symm, h⟩
    · rw [if_neg hok] at h1 h2
      obtain ⟨rfl, rfl⟩ := h1
      obtain ⟨rfl, rfl⟩ := h2
      exact ⟨rfl, ng_inv_err h⟩
