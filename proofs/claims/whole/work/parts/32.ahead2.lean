/-! ===== pairs: more, rests, clear ===== -/
abbrev ng_J : List Nat := [9, 10, 13, 14, 41, 42, 43]
theorem ng_keep {M M' : ng_M} {a : ng_R} (h : ng_off ng_J M M') (hr : ng_rl M a) (hv : ng_sv M 15 a) : ng_rl M' a ∧ ng_sv M' 15 a := by
  have e15 : M' 15 = M 15 := h 15 (by decide)
  have e16 : M' (15 + 1) = M (15 + 1) := h 16 (by decide)
  refine ⟨hr.kept (fun k hk => h k (by simp at hk ⊢; omega)) (fun _ _ => rfl), ?_⟩
  unfold ng_sv
  rw [e15, e16]
  exact hv
theorem s_X5_takeA {X : Nat × (Nat → Int32)} {M0 M : ng_M} {a : ng_R} (ho : ng_off ng_J M0 M) (hr : ng_rl M0 a) (hv : ng_sv M0 15 a) (hok : ng_okY a) : ng_EvV X 1 mi_X5_take [.ref 41, .ref 15] M (fun M' => ng_ca M0 M' 41 a) := by
  obtain ⟨k1, k2⟩ := ng_keep ho hr hv
  refine (s_X5_take (s := 41) (s2 := 15) (by unfold ng_isT; omega) (by unfold ng_isT; omega) (by omega)).imp (fun M' ht => ?_)
  exact ⟨ho.tr (fun k hk => ht.1 k (by simp at hk ⊢; omega)), k1.kept (fun k hk => ht.1 k (by simp at hk ⊢; omega)) (fun _ _ => rfl), k2.took ht, hok⟩
theorem s_X5_endsA {X : Nat × (Nat → Int32)} {M : ng_M} {s : Nat} {a : ng_R} (hs : ng_isS s) (hr : ng_rl M a) (hv : ng_sv M s a) (hok : ng_okY a) : ng_EvX X 1 mi_X5_ends [.ref s] M (some (.int (ng_ends a))) M := by
  obtain ⟨v1, v2, v3, v4, v5, v6, v7⟩ := id hv
  have hl2 := hok.wfr.1.1.2.1
  have hl : vp_in (M s 3) 10 := by rw [v2]; exact hl2
  have he : M s 7 + M s 6 * M 3 (M s 3).toNatClampNeg / 2 = ng_ends a := by rw [ng_ends, v2, v5, v6, hr.1 _ (ng_vp_lt hl2)]
  exact (s_X5_ends hs hl).cast (by rw [he]) rfl
theorem ng_okY.upd {a : ng_R} (h : ng_okY a) {i : Nat} {v : Int32} (hi : i < 123) (h1 : ng_bl i ≤ v.toInt) (h2 : v.toInt ≤ ng_bh i) : ng_okY (upd a i v) := by
  refine ⟨fun k k1 hk => ?_, h.2.upd hi⟩
  by_cases e : k = i
  · subst e; rw [ng_upd_eq]; exact ⟨h1, h2⟩
  · rw [ng_upd_ne e]; exact h.1 k k1 hk
theorem ng_okY.yrs {a : ng_R} {t : Int32} (h : ng_okY a) (ht : vp_in t 10) : ∀ n, ng_okY (ng_yrs a t n)
  | 0 => h
  | n + 1 => (ng_okY.yrs h ht n).yr ht (by decide) (by decide)
abbrev ng_asd (M : ng_M) : ng_M := ng_row M 76 (ng_cp (M 74) (M 76))
theorem ng_ra.again {M M1 : ng_M} {a : ng_R} (h : ng_ra (ng_asd M) M1 a) (hok : ng_okY (M 74)) : ng_ra (ng_asd M) (ng_row M1 74 (ng_cp (M1 76) (M1 74))) (M 74) := by
  refine ⟨fun k hk => ?_, h.back.1, fun k _ => congrFun (ng_row_ne (by decide)).symm k, hok⟩
  simp at hk
  rw [ng_row_ne (by omega)]
  exact h.1 k (by simp; omega)
theorem ng_ra.set {M M1 : ng_M} {a : ng_R} {i : Nat} {v : Int32} (h : ng_ra (ng_asd M) M1 a) (hi : i < 123) (hok : ng_okY (upd a i v)) : ng_ra (ng_asd M) (ng_row M1 74 (upd (M1 74) i v)) (upd a i v) := by
  refine ⟨fun k hk => ?_, by rw [ng_row_eq, h.2.1], fun k hk => by rw [ng_upd_ne (by omega)]; exact h.2.2.1 k hk, hok⟩
  simp at hk
  rw [ng_row_ne (by omega)]
  exact h.1 k (by simp; omega)
def ng_mk (a : ng_R) (d : Int32) : ng_R := upd a 4 (ng_held (a 4 + d) 0 20)
theorem ng_mk_ok {a : ng_R} {d : Int32} (h : ng_okY a) : ng_okY (ng_mk a d) := by
  have e20 : (20 : Int32).toInt = 20 := by decide
  refine h.upd (by decide) ?_ ?_
  · rw [ng_heldI, ng_0, e20]; show (0 : Int) ≤ _; omega
  · rw [ng_heldI, ng_0, e20]; show _ ≤ (20 : Int); omega
theorem ng_mk0 {a : ng_R} (h : ng_okY a) : ng_mk a 0 = a := by
  have b : (0 : Int) ≤ (a 4).toInt ∧ (a 4).toInt ≤ 20 := h.1 4 (by decide) (by decide)
  have e20 : (20 : Int32).toInt = 20 := by decide
  have e : ng_held (a 4 + 0) 0 20 = a 4 := by
    apply ng_i_eq
    rw [ng_heldI, ng_0, e20, Int32.add_zero]
    omega
  unfold ng_mk
  rw [e]
  funext k
  by_cases q : k = 4
  · subst q; rw [ng_upd_eq]
  · rw [ng_upd_ne q]
theorem ng_ca.mk {M0 M : ng_M} {a : ng_R} {d : Int32} (h : ng_ca M0 M 41 a) : ng_ca M0 (ng_row M 41 (upd (M 41) 5 (ng_held (a 4 + d) 0 20))) 41 (ng_mk a d) := by
  obtain ⟨h1, h2, h3, h4⟩ := h
  obtain ⟨v1, v2, v3, v4, v5, v6, v7⟩ := h3
  refine ⟨h1.row (by simp), h2.kept (fun k hk => ng_row_ne (by simp at hk; omega)) (fun k hk => ng_upd_ne (by omega)), ⟨fun j hj => ?_, ?_, ?_, ?_, ?_, ?_, ?_⟩, ng_mk_ok h4⟩
  · rw [ng_row_ne (by decide), ng_mk, ng_upd_ne (by omega)]; exact v1 j hj
  · rw [ng_row_eq, ng_upd_ne (by decide), ng_mk, ng_upd_ne (by decide)]; exact v2
  · rw [ng_row_eq, ng_upd_ne (by decide), ng_mk, ng_upd_ne (by decide)]; exact v3
  · rw [ng_row_eq, ng_upd_eq, ng_mk, ng_upd_eq]
  · rw [ng_row_eq, ng_upd_ne (by decide), ng_mk, ng_upd_ne (by decide)]; exact v5
  · rw [ng_row_eq, ng_upd_ne (by decide), ng_mk, ng_upd_ne (by decide)]; exact v6
  · rw [ng_row_eq, ng_upd_ne (by decide), ng_mk, ng_upd_ne (by decide)]; exact v7
theorem s_X1_endsWithMore {X : Nat × (Nat → Int32)} {M : ng_M} {a : ng_R} {d n t : Int32} {N : Nat} (hr : ng_rl M a) (hv : ng_sv M 15 a) (hok : ng_okY a) (ht : vp_in t 10) (hn : n = nI N) (hN : N ≤ 40) : ng_EvI X 7 mi_X1_endsWithMore [.ref 39, .ref 15, .int d, .int n, .int t] M (fun r M1 => r = ng_ends (ng_yrs (ng_mk a d) t N) ∧ ng_off ng_J M M1) := by
  refine ng_EvI.of (lv := [some (.ref 39), some (.ref 15), some (.int d), some (.int n), some (.int t)]) (ty := .int) (by decide) (Nat.le_of_ble_eq_true rfl) rfl rfl (fun _ _ _ => rfl) ?_
  refine ng_aload_0 dX1_endsWithMore_0 ?_
  refine ng_gR dX1_endsWithMore_1 fl_X1_27 (by first | rfl | assumption) ?_
  refine ng_aload_1 dX1_endsWithMore_4 ?_
  refine ng_callV_1w (y2 := mi_X5_take) dX1_endsWithMore_5 lk_X1_31 ms_X5_take my_X5_take (by first | exact ⟨_, rfl⟩ | assumption | exact ng_fld_obj (f := 0) (by assumption)) mc_X5 (by first | decide | exact Nat.le_of_ble_eq_true rfl) (s_X5_takeA ng_off.rf hr hv hok) (by decide) (fun M2 hf => ?_)
  have e4 : M2 15 5 = a 4 := (congrFun (hf.1 15 (by decide)) 5).trans hv.2.2.2.1
  refine ng_aload_0 dX1_endsWithMore_8 ?_
  refine ng_gR dX1_endsWithMore_9 fl_X1_27 (by first | rfl | assumption) ?_
  refine ng_aload_1 dX1_endsWithMore_12 ?_
  refine ng_gI dX1_endsWithMore_13 fl_X1_104 (by first | rfl | assumption) ?_
  refine ng_iload_2 dX1_endsWithMore_16 ?_
  refine ng_iadd dX1_endsWithMore_17 ?_
  refine ng_iconst_0 dX1_endsWithMore_18 ?_
  refine ng_bipush (v := 20) dX1_endsWithMore_19 (by decide) ?_
  refine ng_callSN_3x (y2 := mi_X8_held) dX1_endsWithMore_21 (by decide : (RX1, 107, yX8_held, "NinePots") ∈ ng_nm) ms_X8_held my_X8_held (by first | decide | exact Nat.le_of_ble_eq_true rfl) (s_X8_held) (by decide) ?_
  refine ng_pI dX1_endsWithMore_24 fp_X1_104 (by first | rfl | assumption) rfl rfl ?_
  rw [e4]
  refine ng_aload_0 dX1_endsWithMore_27 ?_
  refine ng_gR dX1_endsWithMore_28 fl_X1_27 (by first | rfl | assumption) ?_
  refine ng_iload_3 dX1_endsWithMore_31 ?_
  refine ng_iload_4 dX1_endsWithMore_32 ?_
  refine ng_callV_2w (y2 := mi_X5_goesYears) dX1_endsWithMore_34 lk_X1_88 ms_X5_goesYears my_X5_goesYears (by first | exact ⟨_, rfl⟩ | assumption | exact ng_fld_obj (f := 0) (by assumption)) mc_X5 (by first | decide | exact Nat.le_of_ble_eq_true rfl) (s_X5_goesYears ng_isS41 (hf.mk (d := d)) ht hn hN) (by decide) (fun M3 hg => ?_)
  refine ng_aload_0 dX1_endsWithMore_37 ?_
  refine ng_gR dX1_endsWithMore_38 fl_X1_27 (by first | rfl | assumption) ?_
  refine ng_callV_0x (y2 := mi_X5_ends) dX1_endsWithMore_41 lk_X1_64 ms_X5_ends my_X5_ends (by first | exact ⟨_, rfl⟩ | assumption | exact ng_fld_obj (f := 0) (by assumption)) mc_X5 (by first | decide | exact Nat.le_of_ble_eq_true rfl) (s_X5_endsA ng_isS41 hg.2.1 hg.2.2.1 hg.2.2.2) (by decide) ?_
  exact ng_ireturn dX1_endsWithMore_44 ⟨_, rfl, rfl, hg.1⟩
abbrev ok_more (d n t : Int32) : Bool := ng_in d (-20) 20 && (ng_in n 0 40 && ng_in t 0 9)
theorem c_more {X : Nat × (Nat → Int32)} {M : ng_M} {n t d : Int32} (h : ng_I1 M) : ng_EvI X 8 mi_X8_more [.ref 0, .int d, .int n, .int t] M (fun r M1 => ng_a8 M (if ok_more d n t then .inr (ng_ends (ng_yrs (ng_mk (M 74) d) t n.toNatClampNeg) - ng_ends (ng_yrs (M 74) t n.toNatClampNeg)) else .inl 1) r M1) := by
  refine ng_EvI.of (lv := [some (.ref 0), some (.int d), some (.int n), some (.int t)]) (ty := .int) (by decide) (Nat.le_of_ble_eq_true rfl) rfl rfl (fun _ _ _ => rfl) ?_
  refine ng_iload_1 dX8_more_0 ?_
  refine ng_bipush (v := (-20)) dX8_more_1 (by decide) ?_
  refine ng_bipush (v := 20) dX8_more_3 (by decide) ?_
  refine ng_callS_3x (y2 := mi_X8_isWithin) dX8_more_5 lk_X8_61 ms_X8_isWithin my_X8_isWithin (by first | decide | exact Nat.le_of_ble_eq_true rfl) (s_X8_isWithin) (by decide) ?_
  refine ng_ifb_eq 28 dX8_more_8 (by decide +kernel) (fun h8 => ?_) (fun h8 => ?_)
  · refine ng_aload_0 dX8_more_28 ?_
    refine ng_ldc dX8_more_29 kc_X8_65 ?_
    refine ng_callV_1x (y2 := mi_X8_fails) dX8_more_31 lk_X8_66 ms_X8_fails my_X8_fails (by first | exact ⟨_, rfl⟩ | assumption | exact ng_fld_obj (f := 0) (by assumption)) mc_X8 (by first | decide | exact Nat.le_of_ble_eq_true rfl) (s_X8_fails (k := 1) (by decide) (by decide) (by decide)) (by decide) ?_
    exact ng_ireturn dX8_more_34 ⟨_, rfl, by rw [if_neg (by simp_all [ok_more])]; exact ⟨M, fun _ _ => rfl, by decide, rfl⟩⟩
  · refine ng_iload_2 dX8_more_11 ?_
    refine ng_iconst_0 dX8_more_12 ?_
    refine ng_bipush (v := 40) dX8_more_13 (by decide) ?_
    refine ng_callS_3x (y2 := mi_X8_isWithin) dX8_more_15 lk_X8_61 ms_X8_isWithin my_X8_isWithin (by first | decide | exact Nat.le_of_ble_eq_true rfl) (s_X8_isWithin) (by decide) ?_
    refine ng_ifb_eq 28 dX8_more_18 (by decide +kernel) (fun h18 => ?_) (fun h18 => ?_)
    · refine ng_aload_0 dX8_more_28 ?_
      refine ng_ldc dX8_more_29 kc_X8_65 ?_
      refine ng_callV_1x (y2 := mi_X8_fails) dX8_more_31 lk_X8_66 ms_X8_fails my_X8_fails (by first | exact ⟨_, rfl⟩ | assumption | exact ng_fld_obj (f := 0) (by assumption)) mc_X8 (by first | decide | exact Nat.le_of_ble_eq_true rfl) (s_X8_fails (k := 1) (by decide) (by decide) (by decide)) (by decide) ?_
      exact ng_ireturn dX8_more_34 ⟨_, rfl, by rw [if_neg (by simp_all [ok_more])]; exact ⟨M, fun _ _ => rfl, by decide, rfl⟩⟩
    · refine ng_iload_3 dX8_more_21 ?_
      refine ng_callS_1x (y2 := mi_X8_isStep) dX8_more_22 lk_X8_57 ms_X8_isStep my_X8_isStep (by first | decide | exact Nat.le_of_ble_eq_true rfl) (s_X8_isStep) (by decide) ?_
      refine ng_ifb_ne 35 dX8_more_25 (by decide +kernel) (fun h25 => ?_) (fun h25 => ?_)
      · have hI := h.1.rl
        have ht := (ng_vin h25 (n := 10) (by decide)).1
        have hnv := ng_vin h18 (n := 41) (by decide)
        refine ng_aload_0 dX8_more_35 ?_
        refine ng_gR dX8_more_36 fl_X8_28 (by first | rfl | assumption) ?_
        refine ng_aload_0 dX8_more_39 ?_
        refine ng_gR dX8_more_40 fl_X8_12 (by first | rfl | assumption) ?_
        refine ng_gR dX8_more_43 fl_X8_81 (by first | rfl | assumption) ?_
        refine ng_iload_1 dX8_more_46 ?_
        refine ng_iload_2 dX8_more_47 ?_
        refine ng_iload_3 dX8_more_48 ?_
        refine ng_callV_4i (y2 := mi_X1_endsWithMore) dX8_more_49 lk_X8_245 ms_X1_endsWithMore my_X1_endsWithMore (by first | exact ⟨_, rfl⟩ | assumption | exact ng_fld_obj (f := 0) (by assumption)) mc_X1 (by first | decide | exact Nat.le_of_ble_eq_true rfl) (s_X1_endsWithMore hI.1 hI.2.1 h.2.Y ht (ng_nat hnv.1) (by omega)) (by decide) (fun v1 M2 hf => ?_)
        refine ng_aload_0 dX8_more_52 ?_
        refine ng_gR dX8_more_53 fl_X8_28 (by first | rfl | assumption) ?_
        refine ng_aload_0 dX8_more_56 ?_
        refine ng_gR dX8_more_57 fl_X8_12 (by first | rfl | assumption) ?_
        refine ng_gR dX8_more_60 fl_X8_81 (by first | rfl | assumption) ?_
        refine ng_iconst_0 dX8_more_63 ?_
        refine ng_iload_2 dX8_more_64 ?_
        refine ng_iload_3 dX8_more_65 ?_
        refine ng_callV_4i (y2 := mi_X1_endsWithMore) dX8_more_66 lk_X8_245 ms_X1_endsWithMore my_X1_endsWithMore (by first | exact ⟨_, rfl⟩ | assumption | exact ng_fld_obj (f := 0) (by assumption)) mc_X1 (by first | decide | exact Nat.le_of_ble_eq_true rfl) (s_X1_endsWithMore (ng_keep hf.2 hI.1 hI.2.1).1 (ng_keep hf.2 hI.1 hI.2.1).2 h.2.Y ht (ng_nat hnv.1) (by omega)) (by decide) (fun v2 M3 hg => ?_)
        refine ng_isub dX8_more_69 ?_
        exact ng_ireturn dX8_more_70 ⟨_, rfl, by rw [if_pos (by simp [ok_more, h8, h18, h25])]; exact ⟨M3, (ng_out.of hf.2 (by decide)).tr (ng_out.of hg.2 (by decide)), by rw [hf.1, hg.1, ng_mk0 h.2.Y], rfl⟩⟩
      · refine ng_aload_0 dX8_more_28 ?_
        refine ng_ldc dX8_more_29 kc_X8_65 ?_
        refine ng_callV_1x (y2 := mi_X8_fails) dX8_more_31 lk_X8_66 ms_X8_fails my_X8_fails (by first | exact ⟨_, rfl⟩ | assumption | exact ng_fld_obj (f := 0) (by assumption)) mc_X8 (by first | decide | exact Nat.le_of_ble_eq_true rfl) (s_X8_fails (k := 1) (by decide) (by decide) (by decide)) (by decide) ?_
        exact ng_ireturn dX8_more_34 ⟨_, rfl, by rw [if_neg (by simp_all [ok_more])]; exact ⟨M, fun _ _ => rfl, by decide, rfl⟩⟩
theorem r_more {X : Nat × (Nat → Int32)} {M : ng_M} {n t d : Int32} (h : ng_ok (M 74)) : ng_EvI X 9 mi_X9_more [.ref 73, .int d, .int n, .int t] M (fun r M1 => ng_a9 M (if ok_more d n t then .inr (ng_ends (ng_yrs (ng_mk (M 74) d) t n.toNatClampNeg) - ng_ends (ng_yrs (M 74) t n.toNatClampNeg)) else .inl 1) r M1) := by
  refine ng_EvI.of (lv := [some (.ref 73), some (.int d), some (.int n), some (.int t), none]) (ty := .int) (by decide) (Nat.le_of_ble_eq_true rfl) rfl rfl (fun _ _ _ => rfl) ?_
  refine ng_iload_1 dX9_more_0 ?_
  refine ng_bipush (v := (-20)) dX9_more_1 (by decide) ?_
  refine ng_bipush (v := 20) dX9_more_3 (by decide) ?_
  refine ng_callS_3x (y2 := mi_X9_within) dX9_more_5 lk_X9_80 ms_X9_within my_X9_within (by first | decide | exact Nat.le_of_ble_eq_true rfl) (s_X9_within) (by decide) ?_
  refine ng_ifb_eq 25 dX9_more_8 (by decide +kernel) (fun h8 => ?_) (fun h8 => ?_)
  · refine ng_aload_0 dX9_more_25 ?_
    refine ng_ldc dX9_more_26 kc_X9_91 ?_
    refine ng_callV_1x (y2 := mi_X9_finding) dX9_more_28 lk_X9_92 ms_X9_finding my_X9_finding (by first | exact ⟨_, rfl⟩ | assumption | exact ng_fld_obj (f := 0) (by assumption)) mc_X9 (by first | decide | exact Nat.le_of_ble_eq_true rfl) (s_X9_finding (k := 1) (by decide) (by decide) (by decide)) (by decide) ?_
    exact ng_ireturn dX9_more_31 ⟨_, rfl, by rw [if_neg (by simp_all [ok_more])]; exact ⟨M, ng_rout.rf, by decide, rfl⟩⟩
  · refine ng_iload_2 dX9_more_11 ?_
    refine ng_callS_1x (y2 := mi_X9_isAhead) dX9_more_12 lk_X9_230 ms_X9_isAhead my_X9_isAhead (by first | decide | exact Nat.le_of_ble_eq_true rfl) (s_X9_isAhead) (by decide) ?_
    refine ng_ifb_eq 25 dX9_more_15 (by decide +kernel) (fun h15 => ?_) (fun h15 => ?_)
    · refine ng_aload_0 dX9_more_25 ?_
      refine ng_ldc dX9_more_26 kc_X9_91 ?_
      refine ng_callV_1x (y2 := mi_X9_finding) dX9_more_28 lk_X9_92 ms_X9_finding my_X9_finding (by first | exact ⟨_, rfl⟩ | assumption | exact ng_fld_obj (f := 0) (by assumption)) mc_X9 (by first | decide | exact Nat.le_of_ble_eq_true rfl) (s_X9_finding (k := 1) (by decide) (by decide) (by decide)) (by decide) ?_
      exact ng_ireturn dX9_more_31 ⟨_, rfl, by rw [if_neg (by simp_all [ok_more])]; exact ⟨M, ng_rout.rf, by decide, rfl⟩⟩
    · refine ng_iload_3 dX9_more_18 ?_
      refine ng_callS_1x (y2 := mi_X9_isStep) dX9_more_19 lk_X9_84 ms_X9_isStep my_X9_isStep (by first | decide | exact Nat.le_of_ble_eq_true rfl) (s_X9_isStep) (by decide) ?_
      refine ng_ifb_ne 32 dX9_more_22 (by decide +kernel) (fun h22 => ?_) (fun h22 => ?_)
      · have ht := (ng_vin h22 (n := 10) (by decide)).1
        have hnv := ng_vin h15 (n := 41) (by decide)
        refine ng_aload_0 dX9_more_32 ?_
        refine ng_gR dX9_more_33 fl_X9_9 (by first | rfl | assumption) ?_
        refine ng_aload_0 dX9_more_36 ?_
        refine ng_gR dX9_more_37 fl_X9_16 (by first | rfl | assumption) ?_
        refine ng_callS_2v (y2 := mi_X9_copy) dX9_more_40 lk_X9_76 ms_X9_copy my_X9_copy (by first | decide | exact Nat.le_of_ble_eq_true rfl) (s_X9_copy rfl rfl (by decide)) (by decide) ?_
        refine ng_aload_0 dX9_more_43 ?_
        refine ng_iload_2 dX9_more_44 ?_
        refine ng_iload_3 dX9_more_45 ?_
        refine ng_callV_2w (y2 := mi_X9_yearsGo) dX9_more_46 lk_X9_233 ms_X9_yearsGo my_X9_yearsGo (by first | exact ⟨_, rfl⟩ | assumption | exact ng_fld_obj (f := 0) (by assumption)) mc_X9 (by first | decide | exact Nat.le_of_ble_eq_true rfl) (s_X9_yearsGo (ng_ra.start h.Y) ht (ng_nat hnv.1) (by omega)) (by decide) (fun M3 hg => ?_)
        refine ng_aload_0 dX9_more_49 ?_
        refine ng_aload_0 dX9_more_50 ?_
        refine ng_callV_0x (y2 := mi_X9_ends) dX9_more_51 lk_X9_227 ms_X9_ends my_X9_ends (by first | exact ⟨_, rfl⟩ | assumption | exact ng_fld_obj (f := 0) (by assumption)) mc_X9 (by first | decide | exact Nat.le_of_ble_eq_true rfl) (s_X9_ends (by rw [hg.2.1]; exact hg.2.2.2.wfr.1.1.2.1)) (by decide) ?_
        refine ng_callV_1x (y2 := mi_X9_putBack) dX9_more_54 lk_X9_240 ms_X9_putBack my_X9_putBack (by first | exact ⟨_, rfl⟩ | assumption | exact ng_fld_obj (f := 0) (by assumption)) mc_X9 (by first | decide | exact Nat.le_of_ble_eq_true rfl) (s_X9_putBack) (by decide) ?_
        refine ng_istore_4 dX9_more_57 (by first | rfl | assumption) ?_
        have ha := hg.again h.Y
        have e74 := ha.2.1
        generalize ng_row M3 74 (ng_cp (M3 76) (M3 74)) = M4 at ha e74 ⊢
        refine ng_aload_0 dX9_more_59 ?_
        refine ng_gR dX9_more_60 fl_X9_9 (by first | rfl | assumption) ?_
        refine ng_iconst_4 dX9_more_63 ?_
        refine ng_aload_0 dX9_more_64 ?_
        refine ng_gR dX9_more_65 fl_X9_9 (by first | rfl | assumption) ?_
        refine ng_iconst_4 dX9_more_68 ?_
        refine ng_ialdL (j := 4) dX9_more_69 (by first | rfl | assumption) (by first | assumption | (unfold vp_in; decide)) (by decide) ?_
        refine ng_iload_1 dX9_more_70 ?_
        refine ng_iadd dX9_more_71 ?_
        refine ng_iconst_0 dX9_more_72 ?_
        refine ng_bipush (v := 20) dX9_more_73 (by decide) ?_
        refine ng_callS_3x (y2 := mi_X9_held) dX9_more_75 lk_X9_203 ms_X9_held my_X9_held (by first | decide | exact Nat.le_of_ble_eq_true rfl) (s_X9_held) (by decide) ?_
        refine ng_iastL (j := 4) dX9_more_78 (by first | rfl | assumption) (by first | assumption | (unfold vp_in; decide)) (by decide) ?_
        have hb := ha.set (i := 4) (v := ng_held (M4 74 4 + d) 0 20) (by decide) (by rw [e74]; exact ng_mk_ok h.Y)
        refine ng_aload_0 dX9_more_79 ?_
        refine ng_iload_2 dX9_more_80 ?_
        refine ng_iload_3 dX9_more_81 ?_
        refine ng_callV_2w (y2 := mi_X9_yearsGo) dX9_more_82 lk_X9_233 ms_X9_yearsGo my_X9_yearsGo (by first | exact ⟨_, rfl⟩ | assumption | exact ng_fld_obj (f := 0) (by assumption)) mc_X9 (by first | decide | exact Nat.le_of_ble_eq_true rfl) (s_X9_yearsGo hb ht (ng_nat hnv.1) (by omega)) (by decide) (fun M5 hc => ?_)
        refine ng_aload_0 dX9_more_85 ?_
        refine ng_aload_0 dX9_more_86 ?_
        refine ng_callV_0x (y2 := mi_X9_ends) dX9_more_87 lk_X9_227 ms_X9_ends my_X9_ends (by first | exact ⟨_, rfl⟩ | assumption | exact ng_fld_obj (f := 0) (by assumption)) mc_X9 (by first | decide | exact Nat.le_of_ble_eq_true rfl) (s_X9_ends (by rw [hc.2.1]; exact hc.2.2.2.wfr.1.1.2.1)) (by decide) ?_
        refine ng_callV_1x (y2 := mi_X9_putBack) dX9_more_90 lk_X9_240 ms_X9_putBack my_X9_putBack (by first | exact ⟨_, rfl⟩ | assumption | exact ng_fld_obj (f := 0) (by assumption)) mc_X9 (by first | decide | exact Nat.le_of_ble_eq_true rfl) (s_X9_putBack) (by decide) ?_
        refine ng_iload_4 dX9_more_93 ?_
        refine ng_isub dX9_more_95 ?_
        exact ng_ireturn dX9_more_96 ⟨_, rfl, by rw [if_pos (by simp [ok_more, h8, h15, h22])]; exact ⟨_, hc.rout, by rw [hg.2.1, hc.2.1, e74]; rfl, rfl⟩⟩
      · refine ng_aload_0 dX9_more_25 ?_
        refine ng_ldc dX9_more_26 kc_X9_91 ?_
        refine ng_callV_1x (y2 := mi_X9_finding) dX9_more_28 lk_X9_92 ms_X9_finding my_X9_finding (by first | exact ⟨_, rfl⟩ | assumption | exact ng_fld_obj (f := 0) (by assumption)) mc_X9 (by first | decide | exact Nat.le_of_ble_eq_true rfl) (s_X9_finding (k := 1) (by decide) (by decide) (by decide)) (by decide) ?_
        exact ng_ireturn dX9_more_31 ⟨_, rfl, by rw [if_neg (by simp_all [ok_more])]; exact ⟨M, ng_rout.rf, by decide, rfl⟩⟩
theorem pr_more {X : Nat × (Nat → Int32)} {M : ng_M} {d n t : Int32} (h : ng_inv M) : ng_pair X mi_X8_more mi_X9_more [.int d, .int n, .int t] M :=
  ng_pair.A h (c_more h.1) (by decide) (d9 := 9) (by decide) (fun M1 e => by rw [← e 74 (by decide)]; exact r_more (by rw [e 74 (by decide)]; exact h.1.2))
/-! rests -/
def ng_rst (t : Int32) : Nat → Nat → ng_R → Int32
  | 0, _, _ => -1
  | m + 1, k, a => if ng_yr a t 0 ng_all 3 = a 3 ∧ ng_yr a t 0 ng_all 5 = a 5 then nI k else ng_rst t m (k + 1) (ng_yr a t 0 ng_all)
theorem ng_rst_v {t : Int32} : ∀ m k a, ng_rst t m k a = -1 ∨ ∃ j, k ≤ j ∧ j < k + m ∧ ng_rst t m k a = nI j
  | 0, _, _ => Or.inl rfl
  | m + 1, k, a => by
    unfold ng_rst
    split
    · exact Or.inr ⟨k, by omega, by omega, rfl⟩
    · rcases ng_rst_v m (k + 1) (ng_yr a t 0 ng_all) with q | ⟨j, j1, j2, q⟩
      · exact Or.inl q
      · exact Or.inr ⟨j, by omega, by omega, q⟩
theorem ng_nI_lt {i n : Nat} (h : i ≤ n) (hn : n < 1000) : ¬ nI n < nI i := by
  rw [ng_lt, nI_toInt (by omega), nI_toInt (by omega)]
  omega
theorem l_X1_yearsToRest {X : Nat × (Nat → Int32)} {M0 : ng_M} {t : Int32} (ht : vp_in t 10) : ∀ (m k : Nat) (a : ng_R) (M : ng_M) (x4 x5 : Option Value), k + m = 41 → ng_ca M0 M 41 a →
    ng_Go X mi_X1_yearsToRest 6 10 [some (.ref 39), some (.ref 15), some (.int t), some (.int (nI k)), x4, x5] [] M (fun r' M' => ∃ v, r' = some (.int v) ∧ v = ng_rst t m k a ∧ ng_off ng_J M0 M') := by
  intro m
  induction m with
  | zero =>
    intro k a M x4 x5 hk h
    have hk2 : k = 41 := by omega
    subst hk2
    refine ng_iload_3 dX1_yearsToRest_10 ?_
    refine ng_bipush (v := 40) dX1_yearsToRest_11 (by decide) ?_
    refine ng_icmp_gt 78 dX1_yearsToRest_13 (by decide +kernel) (fun h13 => ?_) (fun h13 => ?_)
    · refine ng_iconst_m1 dX1_yearsToRest_78 ?_
      exact ng_ireturn dX1_yearsToRest_79 ⟨_, rfl, rfl, h.1⟩
    · exact absurd (show (40 : Int32) < nI 41 by decide) h13
  | succ m ih =>
    intro k a M x4 x5 hk h
    obtain ⟨v1, v2, v3, v4, v5, v6, v7⟩ := id h.2.2.1
    refine ng_iload_3 dX1_yearsToRest_10 ?_
    refine ng_bipush (v := 40) dX1_yearsToRest_11 (by decide) ?_
    refine ng_icmp_gt 78 dX1_yearsToRest_13 (by decide +kernel) (fun h13 => ?_) (fun h13 => ?_)
    · exact absurd (show nI 40 < nI k from h13) (ng_nI_lt (by omega) (by omega))
    · refine ng_aload_0 dX1_yearsToRest_16 ?_
      refine ng_gR dX1_yearsToRest_17 fl_X1_27 (by first | rfl | assumption) ?_
      refine ng_gI dX1_yearsToRest_20 fl_X1_111 (by first | rfl | assumption) ?_
      refine ng_istore_4 dX1_yearsToRest_23 (by first | rfl | assumption) ?_
      refine ng_aload_0 dX1_yearsToRest_25 ?_
      refine ng_gR dX1_yearsToRest_26 fl_X1_27 (by first | rfl | assumption) ?_
      refine ng_gI dX1_yearsToRest_29 fl_X1_39 (by first | rfl | assumption) ?_
      refine ng_istore_5 dX1_yearsToRest_32 (by first | rfl | assumption) ?_
      refine ng_aload_0 dX1_yearsToRest_34 ?_
      refine ng_gR dX1_yearsToRest_35 fl_X1_27 (by first | rfl | assumption) ?_
      refine ng_iload_2 dX1_yearsToRest_38 ?_
      refine ng_iconst_0 dX1_yearsToRest_39 ?_
      refine ng_sipush (v := 255) dX1_yearsToRest_40 (by decide) ?_
      refine ng_callV_3w (y2 := mi_X5_goes) dX1_yearsToRest_43 lk_X1_85 ms_X5_goes my_X5_goes (by first | exact ⟨_, rfl⟩ | assumption | exact ng_fld_obj (f := 0) (by assumption)) mc_X5 (by first | decide | exact Nat.le_of_ble_eq_true rfl) (s_X5_goesA ng_isS41 h ht (by decide) (by decide)) (by decide) (fun M2 hg => ?_)
      have w3 := hg.1.2.2.1.2.2.1
      have w5 := hg.1.2.2.1.2.2.2.2.1
      refine ng_aload_0 dX1_yearsToRest_46 ?_
      refine ng_gR dX1_yearsToRest_47 fl_X1_27 (by first | rfl | assumption) ?_
      refine ng_gI dX1_yearsToRest_50 fl_X1_111 (by first | rfl | assumption) ?_
      refine ng_iload_4 dX1_yearsToRest_53 ?_
      refine ng_icmp_ne 72 dX1_yearsToRest_55 (by decide +kernel) (fun h55 => ?_) (fun h55 => ?_)
      · refine ng_iinc_3 (w := 1) dX1_yearsToRest_72 (by decide) rfl ?_
        refine ng_goto 10 dX1_yearsToRest_75 (by decide +kernel) ?_
        rw [nI_1]
        have q : ¬ (ng_yr a t 0 ng_all 3 = a 3 ∧ ng_yr a t 0 ng_all 5 = a 5) := by
          rw [w3, v3] at h55
          first
          | exact fun z => h55 z.1
          | (rw [w5, v5] at h67; exact fun z => h67 z.2)
        rw [ng_rst, if_neg q]
        exact ih (k + 1) _ M2 _ _ (by omega) hg.1
      · refine ng_aload_0 dX1_yearsToRest_58 ?_
        refine ng_gR dX1_yearsToRest_59 fl_X1_27 (by first | rfl | assumption) ?_
        refine ng_gI dX1_yearsToRest_62 fl_X1_39 (by first | rfl | assumption) ?_
        refine ng_iload_5 dX1_yearsToRest_65 ?_
        refine ng_icmp_ne 72 dX1_yearsToRest_67 (by decide +kernel) (fun h67 => ?_) (fun h67 => ?_)
        · refine ng_iinc_3 (w := 1) dX1_yearsToRest_72 (by decide) rfl ?_
          refine ng_goto 10 dX1_yearsToRest_75 (by decide +kernel) ?_
          rw [nI_1]
          have q : ¬ (ng_yr a t 0 ng_all 3 = a 3 ∧ ng_yr a t 0 ng_all 5 = a 5) := by
            rw [w3, v3] at h55
            first
            | exact fun z => h55 z.1
            | (rw [w5, v5] at h67; exact fun z => h67 z.2)
          rw [ng_rst, if_neg q]
          exact ih (k + 1) _ M2 _ _ (by omega) hg.1
        · refine ng_iload_3 dX1_yearsToRest_70 ?_
          exact ng_ireturn dX1_yearsToRest_71 ⟨_, rfl, by
  rw [w3, v3] at h55
  rw [w5, v5] at h67
  rw [ng_rst, if_pos ⟨h55, h67⟩], hg.1.1⟩
theorem s_X1_yearsToRest {X : Nat × (Nat → Int32)} {M : ng_M} {a : ng_R} {t : Int32} (hr : ng_rl M a) (hv : ng_sv M 15 a) (hok : ng_okY a) (ht : vp_in t 10) : ng_EvI X 6 mi_X1_yearsToRest [.ref 39, .ref 15, .int t] M (fun r M1 => r = ng_rst t 40 1 a ∧ ng_off ng_J M M1) := by
  refine ng_EvI.of (lv := [some (.ref 39), some (.ref 15), some (.int t), none, none, none]) (ty := .int) (by decide) (Nat.le_of_ble_eq_true rfl) rfl rfl (fun _ _ _ => rfl) ?_
  refine ng_aload_0 dX1_yearsToRest_0 ?_
  refine ng_gR dX1_yearsToRest_1 fl_X1_27 (by first | rfl | assumption) ?_
  refine ng_aload_1 dX1_yearsToRest_4 ?_
  refine ng_callV_1w (y2 := mi_X5_take) dX1_yearsToRest_5 lk_X1_31 ms_X5_take my_X5_take (by first | exact ⟨_, rfl⟩ | assumption | exact ng_fld_obj (f := 0) (by assumption)) mc_X5 (by first | decide | exact Nat.le_of_ble_eq_true rfl) (s_X5_takeA ng_off.rf hr hv hok) (by decide) (fun M2 hf => ?_)
  refine ng_iconst_1 dX1_yearsToRest_8 ?_
  refine ng_istore_3 dX1_yearsToRest_9 (by first | rfl | assumption) ?_
  exact l_X1_yearsToRest ht 40 1 a M2 _ _ (by omega) hf
theorem c_rests {X : Nat × (Nat → Int32)} {M : ng_M} {t : Int32} (h : ng_I1 M) : ng_EvI X 7 mi_X8_rests [.ref 0, .int t] M (fun r M1 => ng_a8 M (if ng_in t 0 9 then (if ng_rst t 40 1 (M 74) < 0 then .inl 2 else .inr (ng_rst t 40 1 (M 74))) else .inl 1) r M1) := by
  refine ng_EvI.of (lv := [some (.ref 0), some (.int t), none]) (ty := .int) (by decide) (Nat.le_of_ble_eq_true rfl) rfl rfl (fun _ _ _ => rfl) ?_
  refine ng_iload_1 dX8_rests_0 ?_
  refine ng_callS_1x (y2 := mi_X8_isStep) dX8_rests_1 lk_X8_57 ms_X8_isStep my_X8_isStep (by first | decide | exact Nat.le_of_ble_eq_true rfl) (s_X8_isStep) (by decide) ?_
  refine ng_ifb_ne 14 dX8_rests_4 (by decide +kernel) (fun h4 => ?_) (fun h4 => ?_)
  · have hI := h.1.rl
    have ht := (ng_vin h4 (n := 10) (by decide)).1
    refine ng_aload_0 dX8_rests_14 ?_
    refine ng_gR dX8_rests_15 fl_X8_28 (by first | rfl | assumption) ?_
    refine ng_aload_0 dX8_rests_18 ?_
    refine ng_gR dX8_rests_19 fl_X8_12 (by first | rfl | assumption) ?_
    refine ng_gR dX8_rests_22 fl_X8_81 (by first | rfl | assumption) ?_
    refine ng_iload_1 dX8_rests_25 ?_
    refine ng_callV_2i (y2 := mi_X1_yearsToRest) dX8_rests_26 lk_X8_249 ms_X1_yearsToRest my_X1_yearsToRest (by first | exact ⟨_, rfl⟩ | assumption | exact ng_fld_obj (f := 0) (by assumption)) mc_X1 (by first | decide | exact Nat.le_of_ble_eq_true rfl) (s_X1_yearsToRest hI.1 hI.2.1 h.2.Y ht) (by decide) (fun v M2 hf => ?_)
    obtain ⟨hf1, hf2⟩ := hf
    refine ng_istore_2 dX8_rests_29 (by first | rfl | assumption) ?_
    refine ng_iload_2 dX8_rests_30 ?_
    refine ng_if_ge 43 dX8_rests_31 (by decide +kernel) (fun h31 => ?_) (fun h31 => ?_)
    · refine ng_iload_2 dX8_rests_43 ?_
      exact ng_ireturn dX8_rests_44 ⟨_, rfl, by
  rw [if_pos h4, ← hf1]
  first
  | (rw [if_neg (Int32.not_lt.mpr h31)]; exact ⟨M2, ng_out.of hf2 (by decide), rfl, rfl⟩)
  | (rw [if_pos (Int32.not_le.mp h31)]; exact ⟨M2, ng_out.of hf2 (by decide), by decide, rfl⟩)⟩
    · refine ng_aload_0 dX8_rests_34 ?_
      refine ng_ldc dX8_rests_35 kc_X8_130 ?_
      refine ng_callV_1x (y2 := mi_X8_fails) dX8_rests_37 lk_X8_66 ms_X8_fails my_X8_fails (by first | exact ⟨_, rfl⟩ | assumption | exact ng_fld_obj (f := 0) (by assumption)) mc_X8 (by first | decide | exact Nat.le_of_ble_eq_true rfl) (s_X8_fails (k := 2) (by decide) (by decide) (by decide)) (by decide) ?_
      refine ng_goto 44 dX8_rests_40 (by decide +kernel) ?_
      exact ng_ireturn dX8_rests_44 ⟨_, rfl, by
  rw [if_pos h4, ← hf1]
  first
  | (rw [if_neg (Int32.not_lt.mpr h31)]; exact ⟨M2, ng_out.of hf2 (by decide), rfl, rfl⟩)
  | (rw [if_pos (Int32.not_le.mp h31)]; exact ⟨M2, ng_out.of hf2 (by decide), by decide, rfl⟩)⟩
  · refine ng_aload_0 dX8_rests_7 ?_
    refine ng_ldc dX8_rests_8 kc_X8_65 ?_
    refine ng_callV_1x (y2 := mi_X8_fails) dX8_rests_10 lk_X8_66 ms_X8_fails my_X8_fails (by first | exact ⟨_, rfl⟩ | assumption | exact ng_fld_obj (f := 0) (by assumption)) mc_X8 (by first | decide | exact Nat.le_of_ble_eq_true rfl) (s_X8_fails (k := 1) (by decide) (by decide) (by decide)) (by decide) ?_
    exact ng_ireturn dX8_rests_13 ⟨_, rfl, by rw [if_neg (by simp_all [h4])]; exact ⟨M, fun _ _ => rfl, by decide, rfl⟩⟩
theorem l_X9_rests {X : Nat × (Nat → Int32)} {M0 : ng_M} {t : Int32} {F : Option Value → ng_M → Prop} (ht : vp_in t 10) : ∀ (m k : Nat) (a : ng_R) (M : ng_M) (x4 x5 : Option Value), k + m = 41 → ng_ra M0 M a →
    (∀ (M' : ng_M) (a' : ng_R) (x3 x4 x5 : Option Value), ng_ra M0 M' a' → ng_Go X mi_X9_rests 9 95 [some (.ref 73), some (.int t), some (.int (ng_rst t m k a)), x3, x4, x5] [] M' F) →
    ng_Go X mi_X9_rests 9 29 [some (.ref 73), some (.int t), some (.int (-1)), some (.int (nI k)), x4, x5] [] M F := by
  intro m
  induction m with
  | zero =>
    intro k a M x4 x5 hk h kk
    have hk2 : k = 41 := by omega
    subst hk2
    refine ng_iload_3 dX9_rests_29 ?_
    refine ng_bipush (v := 40) dX9_rests_30 (by decide) ?_
    refine ng_icmp_gt 95 dX9_rests_32 (by decide +kernel) (fun h32 => ?_) (fun h32 => ?_)
    · exact kk M a _ _ _ h
    · exact absurd (show (40 : Int32) < nI 41 by decide) h32
  | succ m ih =>
    intro k a M x4 x5 hk h kk
    refine ng_iload_3 dX9_rests_29 ?_
    refine ng_bipush (v := 40) dX9_rests_30 (by decide) ?_
    refine ng_icmp_gt 95 dX9_rests_32 (by decide +kernel) (fun h32 => ?_) (fun h32 => ?_)
    · exact absurd (show nI 40 < nI k from h32) (ng_nI_lt (by omega) (by omega))
    · refine ng_iload_2 dX9_rests_35 ?_
      refine ng_if_ge 95 dX9_rests_36 (by decide +kernel) (fun h36 => ?_) (fun h36 => ?_)
      · exact absurd h36 (by decide)
      · refine ng_aload_0 dX9_rests_39 ?_
        refine ng_gR dX9_rests_40 fl_X9_9 (by first | rfl | assumption) ?_
        refine ng_iconst_3 dX9_rests_43 ?_
        refine ng_ialdL (j := 3) dX9_rests_44 (by first | rfl | assumption) (by first | assumption | (unfold vp_in; decide)) (by decide) ?_
        refine ng_istore_4 dX9_rests_45 (by first | rfl | assumption) ?_
        refine ng_aload_0 dX9_rests_47 ?_
        refine ng_gR dX9_rests_48 fl_X9_9 (by first | rfl | assumption) ?_
        refine ng_iconst_5 dX9_rests_51 ?_
        refine ng_ialdL (j := 5) dX9_rests_52 (by first | rfl | assumption) (by first | assumption | (unfold vp_in; decide)) (by decide) ?_
        refine ng_istore_5 dX9_rests_53 (by first | rfl | assumption) ?_
        refine ng_aload_0 dX9_rests_55 ?_
        refine ng_iconst_1 dX9_rests_56 ?_
        refine ng_iload_1 dX9_rests_57 ?_
        refine ng_callV_2w (y2 := mi_X9_yearsGo) dX9_rests_58 lk_X9_233 ms_X9_yearsGo my_X9_yearsGo (by first | exact ⟨_, rfl⟩ | assumption | exact ng_fld_obj (f := 0) (by assumption)) mc_X9 (by first | decide | exact Nat.le_of_ble_eq_true rfl) (s_X9_yearsGo (N := 1) h ht rfl (by decide)) (by decide) (fun M2 hg => ?_)
        have w3 : M2 74 = ng_yr a t 0 ng_all := hg.2.1
        rw [h.2.1]
        refine ng_aload_0 dX9_rests_61 ?_
        refine ng_gR dX9_rests_62 fl_X9_9 (by first | rfl | assumption) ?_
        refine ng_iconst_3 dX9_rests_65 ?_
        refine ng_ialdL (j := 3) dX9_rests_66 (by first | rfl | assumption) (by first | assumption | (unfold vp_in; decide)) (by decide) ?_
        refine ng_iload_4 dX9_rests_67 ?_
        refine ng_icmp_ne 87 dX9_rests_69 (by decide +kernel) (fun h69 => ?_) (fun h69 => ?_)
        · rw [w3] at h69
          rw [ng_rst, if_neg (fun z => h69 z.1)] at kk
          refine ng_iconst_m1 dX9_rests_87 ?_
          refine ng_istore_2 dX9_rests_88 (by first | rfl | assumption) ?_
          refine ng_iinc_3 (w := 1) dX9_rests_89 (by decide) rfl ?_
          refine ng_goto 29 dX9_rests_92 (by decide +kernel) ?_
          rw [nI_1]
          exact ih (k + 1) _ M2 _ _ (by omega) hg kk
        · refine ng_aload_0 dX9_rests_72 ?_
          refine ng_gR dX9_rests_73 fl_X9_9 (by first | rfl | assumption) ?_
          refine ng_iconst_5 dX9_rests_76 ?_
          refine ng_ialdL (j := 5) dX9_rests_77 (by first | rfl | assumption) (by first | assumption | (unfold vp_in; decide)) (by decide) ?_
          refine ng_iload_5 dX9_rests_78 ?_
          refine ng_icmp_ne 87 dX9_rests_80 (by decide +kernel) (fun h80 => ?_) (fun h80 => ?_)
          · rw [w3] at h80
            rw [ng_rst, if_neg (fun z => h80 z.2)] at kk
            refine ng_iconst_m1 dX9_rests_87 ?_
            refine ng_istore_2 dX9_rests_88 (by first | rfl | assumption) ?_
            refine ng_iinc_3 (w := 1) dX9_rests_89 (by decide) rfl ?_
            refine ng_goto 29 dX9_rests_92 (by decide +kernel) ?_
            rw [nI_1]
            exact ih (k + 1) _ M2 _ _ (by omega) hg kk
          · refine ng_iload_3 dX9_rests_83 ?_
            refine ng_goto 88 dX9_rests_84 (by decide +kernel) ?_
            refine ng_istore_2 dX9_rests_88 (by first | rfl | assumption) ?_
            refine ng_iinc_3 (w := 1) dX9_rests_89 (by decide) rfl ?_
            refine ng_goto 29 dX9_rests_92 (by decide +kernel) ?_
            rw [w3] at h69 h80
            rw [ng_rst, if_pos ⟨h69, h80⟩] at kk
            have g0 : (0 : Int32) ≤ nI k := by rw [ng_le, ng_0, nI_toInt (by omega)]; omega
            refine ng_iload_3 dX9_rests_29 ?_
            refine ng_bipush (v := 40) dX9_rests_30 (by decide) ?_
            refine ng_icmp_gt 95 dX9_rests_32 (by decide +kernel) (fun _ => ?_) (fun _ => ?_)
            · exact kk M2 _ _ _ _ hg
            · refine ng_iload_2 dX9_rests_35 ?_
              refine ng_if_ge 95 dX9_rests_36 (by decide +kernel) (fun _ => ?_) (fun q => ?_)
              · exact kk M2 _ _ _ _ hg
              · exact absurd g0 q
theorem r_rests {X : Nat × (Nat → Int32)} {M : ng_M} {t : Int32} (h : ng_ok (M 74)) : ng_EvI X 9 mi_X9_rests [.ref 73, .int t] M (fun r M1 => ng_a9 M (if ng_in t 0 9 then (if ng_rst t 40 1 (M 74) < 0 then .inl 2 else .inr (ng_rst t 40 1 (M 74))) else .inl 1) r M1) := by
  refine ng_EvI.of (lv := [some (.ref 73), some (.int t), none, none, none, none]) (ty := .int) (by decide) (Nat.le_of_ble_eq_true rfl) rfl rfl (fun _ _ _ => rfl) ?_
  refine ng_iload_1 dX9_rests_0 ?_
  refine ng_callS_1x (y2 := mi_X9_isStep) dX9_rests_1 lk_X9_84 ms_X9_isStep my_X9_isStep (by first | decide | exact Nat.le_of_ble_eq_true rfl) (s_X9_isStep) (by decide) ?_
  refine ng_ifb_ne 14 dX9_rests_4 (by decide +kernel) (fun h4 => ?_) (fun h4 => ?_)
  · have ht := (ng_vin h4 (n := 10) (by decide)).1
    refine ng_aload_0 dX9_rests_14 ?_
    refine ng_gR dX9_rests_15 fl_X9_9 (by first | rfl | assumption) ?_
    refine ng_aload_0 dX9_rests_18 ?_
    refine ng_gR dX9_rests_19 fl_X9_16 (by first | rfl | assumption) ?_
    refine ng_callS_2v (y2 := mi_X9_copy) dX9_rests_22 lk_X9_76 ms_X9_copy my_X9_copy (by first | decide | exact Nat.le_of_ble_eq_true rfl) (s_X9_copy rfl rfl (by decide)) (by decide) ?_
    refine ng_iconst_m1 dX9_rests_25 ?_
    refine ng_istore_2 dX9_rests_26 (by first | rfl | assumption) ?_
    refine ng_iconst_1 dX9_rests_27 ?_
    refine ng_istore_3 dX9_rests_28 (by first | rfl | assumption) ?_
    refine l_X9_rests ht 40 1 (M 74) _ _ _ (by omega) (ng_ra.start h.Y) (fun M2 a2 x3 x4 x5 hg => ?_)
    refine ng_aload_0 dX9_rests_95 ?_
    refine ng_iconst_0 dX9_rests_96 ?_
    refine ng_callV_1x (y2 := mi_X9_putBack) dX9_rests_97 lk_X9_240 ms_X9_putBack my_X9_putBack (by first | exact ⟨_, rfl⟩ | assumption | exact ng_fld_obj (f := 0) (by assumption)) mc_X9 (by first | decide | exact Nat.le_of_ble_eq_true rfl) (s_X9_putBack) (by decide) ?_
    refine ng_if_ne 111 dX9_rests_100 (by decide +kernel) (fun h100 => ?_) (fun h100 => ?_)
    · exact absurd rfl h100
    · refine ng_iload_2 dX9_rests_103 ?_
      refine ng_if_le 111 dX9_rests_104 (by decide +kernel) (fun h104 => ?_) (fun h104 => ?_)
      · refine ng_aload_0 dX9_rests_111 ?_
        refine ng_ldc dX9_rests_112 kc_X9_118 ?_
        refine ng_callV_1x (y2 := mi_X9_finding) dX9_rests_114 lk_X9_92 ms_X9_finding my_X9_finding (by first | exact ⟨_, rfl⟩ | assumption | exact ng_fld_obj (f := 0) (by assumption)) mc_X9 (by first | decide | exact Nat.le_of_ble_eq_true rfl) (s_X9_finding (k := 2) (by decide) (by decide) (by decide)) (by decide) ?_
        refine ng_ireturn dX9_rests_117 ⟨_, rfl, ?_⟩
        rw [if_pos h4]
        rcases ng_rst_v (t := t) 40 1 (M 74) with q | ⟨j, j1, j2, q⟩
        · rw [if_pos (by rw [q]; decide)]; exact ⟨_, hg.rout, by decide, rfl⟩
        · rw [q, ng_le, ng_0, nI_toInt (by omega)] at h104; omega
      · refine ng_iload_2 dX9_rests_107 ?_
        refine ng_goto 117 dX9_rests_108 (by decide +kernel) ?_
        refine ng_ireturn dX9_rests_117 ⟨_, rfl, ?_⟩
        rw [if_pos h4, if_neg (fun q => h104 (Int32.le_of_lt q))]
        exact ⟨_, hg.rout, rfl, rfl⟩
  · refine ng_aload_0 dX9_rests_7 ?_
    refine ng_ldc dX9_rests_8 kc_X9_91 ?_
    refine ng_callV_1x (y2 := mi_X9_finding) dX9_rests_10 lk_X9_92 ms_X9_finding my_X9_finding (by first | exact ⟨_, rfl⟩ | assumption | exact ng_fld_obj (f := 0) (by assumption)) mc_X9 (by first | decide | exact Nat.le_of_ble_eq_true rfl) (s_X9_finding (k := 1) (by decide) (by decide) (by decide)) (by decide) ?_
    exact ng_ireturn dX9_rests_13 ⟨_, rfl, by rw [if_neg (by simp_all [h4])]; exact ⟨M, ng_rout.rf, by decide, rfl⟩⟩
theorem pr_rests {X : Nat × (Nat → Int32)} {M : ng_M} {t : Int32} (h : ng_inv M) : ng_pair X mi_X8_rests mi_X9_rests [.int t] M :=
  ng_pair.A h (c_rests h.1) (by decide) (d9 := 9) (by decide) (fun M1 e => by rw [← e 74 (by decide)]; exact r_rests (by rw [e 74 (by decide)]; exact h.1.2))
