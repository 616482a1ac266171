/-! ===== pairs: image, restore, tell, count ===== -/
theorem ng_len {M : ng_M} {w : Nat} {a : ng_R} (h : ng_rep M w a) (hok : ng_ok a) : ∃ n1 n2, M (w + 6) 1 = nI n1 ∧ n1 ≤ 50 ∧ M (w + 10) 1 = nI n2 ∧ n2 ≤ 50 := by
  obtain ⟨n1, q1, q2, -⟩ := hok.2.1.1
  obtain ⟨n2, q3, q4, -⟩ := hok.2.1.2
  exact ⟨n1, n2, h.2.1.1.trans q1, q2, h.2.2.1.trans q3, q4⟩
theorem c_image {X : Nat × (Nat → Int32)} {M : ng_M} {n1 n2 : Nat} (h1 : M 7 1 = nI n1) (g1 : n1 ≤ 50) (h2 : M 11 1 = nI n2) (g2 : n2 ≤ 50) : ng_EvI X 6 mi_X8_image [.ref 0] M (fun r M1 => r = M 0 7 + 1 ∧ ∃ M2, ng_wtook M 20 1 n1 n2 M2 ∧ M1 = ng_row M2 0 (upd (M2 0) 7 (M2 0 7 + 1))) := by
  refine ng_EvI.of (lv := [some (.ref 0)]) (ty := .int) (by decide) (Nat.le_of_ble_eq_true rfl) rfl rfl (fun _ _ _ => rfl) ?_
  refine ng_aload_0 dX8_image_0 ?_
  refine ng_gR dX8_image_1 fl_X8_16 (by first | rfl | assumption) ?_
  refine ng_aload_0 dX8_image_4 ?_
  refine ng_gR dX8_image_5 fl_X8_12 (by first | rfl | assumption) ?_
  refine ng_callV_1w (y2 := mi_X7_take) dX8_image_8 lk_X8_288 ms_X7_take my_X7_take (by first | exact ⟨_, rfl⟩ | assumption | exact ng_fld_obj (f := 0) (by assumption)) mc_X7 (by first | decide | exact Nat.le_of_ble_eq_true rfl) (s_X7_take_20 h1 g1 h2 g2) (by decide) (fun M2 q => ?_)
  refine ng_aload_0 dX8_image_11 ?_
  refine ng_dup dX8_image_12 rfl ?_
  refine ng_gI dX8_image_13 fl_X8_291 (by first | rfl | assumption) ?_
  refine ng_iconst_1 dX8_image_16 ?_
  refine ng_iadd dX8_image_17 ?_
  refine ng_pI dX8_image_18 fp_X8_291 (by first | rfl | assumption) rfl rfl ?_
  refine ng_aload_0 dX8_image_21 ?_
  refine ng_gI dX8_image_22 fl_X8_291 (by first | rfl | assumption) ?_
  exact ng_ireturn dX8_image_25 ⟨_, rfl, by rw [ng_row_eq, ng_upd_eq, q.1 0 (by decide)], M2, q, rfl⟩
theorem r_image {X : Nat × (Nat → Int32)} {M : ng_M}  : ng_EvI X 2 mi_X9_image [.ref 73] M (fun r M1 => r = M 73 3 + 1 ∧ M1 = ng_row (ng_row M 75 (ng_cp (M 74) (M 75))) 73 (upd (M 73) 3 (M 73 3 + 1))) := by
  refine ng_EvI.of (lv := [some (.ref 73)]) (ty := .int) (by decide) (Nat.le_of_ble_eq_true rfl) rfl rfl (fun _ _ _ => rfl) ?_
  refine ng_aload_0 dX9_image_0 ?_
  refine ng_gR dX9_image_1 fl_X9_9 (by first | rfl | assumption) ?_
  refine ng_aload_0 dX9_image_4 ?_
  refine ng_gR dX9_image_5 fl_X9_13 (by first | rfl | assumption) ?_
  refine ng_callS_2v (y2 := mi_X9_copy) dX9_image_8 lk_X9_76 ms_X9_copy my_X9_copy (by first | decide | exact Nat.le_of_ble_eq_true rfl) (s_X9_copy rfl rfl (by decide)) (by decide) ?_
  refine ng_aload_0 dX9_image_11 ?_
  refine ng_dup dX9_image_12 rfl ?_
  refine ng_gI dX9_image_13 fl_X9_275 (by first | rfl | assumption) ?_
  refine ng_iconst_1 dX9_image_16 ?_
  refine ng_iadd dX9_image_17 ?_
  refine ng_pI dX9_image_18 fp_X9_275 (by first | rfl | assumption) rfl rfl ?_
  refine ng_aload_0 dX9_image_21 ?_
  refine ng_gI dX9_image_22 fl_X9_275 (by first | rfl | assumption) ?_
  exact ng_ireturn dX9_image_25 ⟨_, rfl, by simp [ng_row, upd], rfl⟩
theorem pr_image {X : Nat × (Nat → Int32)} {M : ng_M} (h : ng_inv M) : ng_pair X mi_X8_image mi_X9_image [] M := by
  obtain ⟨n1, n2, h1, g1, h2, g2⟩ := ng_len h.1.1 h.1.2
  obtain ⟨i1, i2, i3, i4, i5, i6⟩ := id h
  refine ng_pair.of (d8 := 6) (d9 := 2) (c_image h1 g1 h2 g2) (by decide) (by decide) (fun _ M1 _ => r_image) (fun r1 M1 q1 r2 M2 q2 => ?_)
  obtain ⟨e1, M3, w, e2⟩ := q1
  obtain ⟨e3, e4⟩ := q2
  have hM1 : ∀ k, k ≠ 0 → ¬ (20 ≤ k ∧ k ≤ 38) → M1 k = M k := fun k k0 k1 => by rw [e2, ng_row_ne k0]; exact w.1 k (by omega)
  have hM10 : M1 0 7 = M 0 7 + 1 := by rw [e2, ng_row_eq, ng_upd_eq, w.1 0 (by decide)]
  have hM1p : ∀ k, 20 ≤ k → k ≤ 38 → M1 k = M3 k := fun k k0 k1 => by rw [e2, ng_row_ne (by omega)]
  have e : ∀ k, k ≠ 73 → k ≠ 75 → M2 k = M1 k := fun k k1 k2 => by rw [e4, ng_row_ne k1, ng_row_ne k2]
  have e73 : M2 73 = upd (M 73) 3 (M 73 3 + 1) := by rw [e4, ng_row_eq, hM1 73 (by decide) (by decide)]
  have e75 : M2 75 = ng_cp (M 74) (M 75) := by rw [e4, ng_row_ne (by decide), ng_row_eq, hM1 74 (by decide) (by decide), hM1 75 (by decide) (by decide)]
  refine ⟨by rw [e1, e3, hM1 73 (by decide) (by decide), i2.1], i1.congr (fun k k1 k2 => ?_) ?_, ⟨?_, fun _ => ⟨?_, ?_⟩⟩, i3.congr ?_ ?_, i4.congr ?_ ?_ ?_ ?_, i5.congr (fun k k1 k2 => ?_) ?_ ?_ ?_, i6.congr ?_⟩
  · rw [e k (by omega) (by omega), hM1 k (by omega) (by omega)]
  · rw [e 74 (by decide) (by decide), hM1 74 (by decide) (by decide)]
  · rw [e 0 (by decide) (by decide), hM10, e73, ng_upd_eq, i2.1]
  · rw [e75]
    have := ng_rep.wtook (w := 20) (w2 := 1) (Or.inr rfl) (Or.inl rfl) h.1.1 h1 g1 h2 g2 w
    exact (this.cp h.1.2).congr (fun k k1 k2 => by rw [e k (by omega) (by omega), hM1p k k1 (by omega)])
  · rw [e75]; exact h.1.2.cp
  · rw [e 72 (by decide) (by decide), hM1 72 (by decide) (by decide)]
  · rw [e 77 (by decide) (by decide), hM1 77 (by decide) (by decide)]
  · rw [e 58 (by decide) (by decide), hM1 58 (by decide) (by decide)]
  · rw [e 59 (by decide) (by decide), hM1 59 (by decide) (by decide)]
  · rw [e73, ng_upd_ne (by decide)]
  · rw [e 85 (by decide) (by decide), hM1 85 (by decide) (by decide)]
  · rw [e k (by omega) (by omega), hM1 k (by omega) (by omega)]
  · rw [e 86 (by decide) (by decide), hM1 86 (by decide) (by decide)]
  · rw [e 87 (by decide) (by decide), hM1 87 (by decide) (by decide)]
  · rw [e 88 (by decide) (by decide), hM1 88 (by decide) (by decide)]
  · rw [e 78 (by decide) (by decide), hM1 78 (by decide) (by decide)]
theorem c_restore {X : Nat × (Nat → Int32)} {M : ng_M} (hh : ¬ M 0 7 = 0 → ∃ n1 n2, M 26 1 = nI n1 ∧ n1 ≤ 50 ∧ M 30 1 = nI n2 ∧ n2 ≤ 50) : ng_EvI X 6 mi_X8_restore [.ref 0] M (fun r M1 => if M 0 7 = 0 then (r = -1000000002 ∧ M1 = ng_cfl M 2) else (r = M1 1 6 ∧ ∃ n1 n2, (M 26 1 = nI n1 ∧ n1 ≤ 50 ∧ M 30 1 = nI n2 ∧ n2 ≤ 50) ∧ ng_wtook M 1 20 n1 n2 M1)) := by
  refine ng_EvI.of (lv := [some (.ref 0)]) (ty := .int) (by decide) (Nat.le_of_ble_eq_true rfl) rfl rfl (fun _ _ _ => rfl) ?_
  refine ng_aload_0 dX8_restore_0 ?_
  refine ng_gI dX8_restore_1 fl_X8_291 (by first | rfl | assumption) ?_
  refine ng_if_ne 14 dX8_restore_4 (by decide +kernel) (fun h4 => ?_) (fun h4 => ?_)
  · obtain ⟨n1, n2, q1, q2, q3, q4⟩ := hh h4
    refine ng_aload_0 dX8_restore_14 ?_
    refine ng_gR dX8_restore_15 fl_X8_12 (by first | rfl | assumption) ?_
    refine ng_aload_0 dX8_restore_18 ?_
    refine ng_gR dX8_restore_19 fl_X8_16 (by first | rfl | assumption) ?_
    refine ng_callV_1w (y2 := mi_X7_take) dX8_restore_22 lk_X8_288 ms_X7_take my_X7_take (by first | exact ⟨_, rfl⟩ | assumption | exact ng_fld_obj (f := 0) (by assumption)) mc_X7 (by first | decide | exact Nat.le_of_ble_eq_true rfl) (s_X7_take_1 q1 q2 q3 q4) (by decide) (fun M2 q => ?_)
    refine ng_aload_0 dX8_restore_25 ?_
    refine ng_gR dX8_restore_26 fl_X8_12 (by first | rfl | assumption) ?_
    refine ng_gI dX8_restore_29 fl_X8_188 (by first | rfl | assumption) ?_
    exact ng_ireturn dX8_restore_32 ⟨_, rfl, by rw [if_neg h4]; exact ⟨rfl, n1, n2, ⟨q1, q2, q3, q4⟩, q⟩⟩
  · refine ng_aload_0 dX8_restore_7 ?_
    refine ng_ldc dX8_restore_8 kc_X8_130 ?_
    refine ng_callV_1x (y2 := mi_X8_fails) dX8_restore_10 lk_X8_66 ms_X8_fails my_X8_fails (by first | exact ⟨_, rfl⟩ | assumption | exact ng_fld_obj (f := 0) (by assumption)) mc_X8 (by first | decide | exact Nat.le_of_ble_eq_true rfl) (s_X8_fails (k := 2) (by decide) (by decide) (by decide)) (by decide) ?_
    exact ng_ireturn dX8_restore_13 ⟨_, rfl, by rw [if_pos h4]; exact ⟨rfl, rfl⟩⟩
theorem r_restore {X : Nat × (Nat → Int32)} {M : ng_M}  : ng_EvI X 2 mi_X9_restore [.ref 73] M (fun r M1 => if M 73 3 = 0 then (r = -1000000002 ∧ M1 = ng_rfl M 2) else (r = M 75 0 ∧ M1 = ng_row M 74 (ng_cp (M 75) (M 74)))) := by
  refine ng_EvI.of (lv := [some (.ref 73)]) (ty := .int) (by decide) (Nat.le_of_ble_eq_true rfl) rfl rfl (fun _ _ _ => rfl) ?_
  refine ng_aload_0 dX9_restore_0 ?_
  refine ng_gI dX9_restore_1 fl_X9_275 (by first | rfl | assumption) ?_
  refine ng_if_ne 14 dX9_restore_4 (by decide +kernel) (fun h4 => ?_) (fun h4 => ?_)
  · refine ng_aload_0 dX9_restore_14 ?_
    refine ng_gR dX9_restore_15 fl_X9_13 (by first | rfl | assumption) ?_
    refine ng_aload_0 dX9_restore_18 ?_
    refine ng_gR dX9_restore_19 fl_X9_9 (by first | rfl | assumption) ?_
    refine ng_callS_2v (y2 := mi_X9_copy) dX9_restore_22 lk_X9_76 ms_X9_copy my_X9_copy (by first | decide | exact Nat.le_of_ble_eq_true rfl) (s_X9_copy rfl rfl (by decide)) (by decide) ?_
    refine ng_aload_0 dX9_restore_25 ?_
    refine ng_gR dX9_restore_26 fl_X9_9 (by first | rfl | assumption) ?_
    refine ng_iconst_0 dX9_restore_29 ?_
    refine ng_ialdL (j := 0) dX9_restore_30 (by first | rfl | assumption) (by first | assumption | (unfold vp_in; decide)) (by decide) ?_
    exact ng_ireturn dX9_restore_31 ⟨_, rfl, by rw [if_neg h4]; exact ⟨by rw [ng_row_eq, ng_cp_at (by decide)], rfl⟩⟩
  · refine ng_aload_0 dX9_restore_7 ?_
    refine ng_ldc dX9_restore_8 kc_X9_118 ?_
    refine ng_callV_1x (y2 := mi_X9_finding) dX9_restore_10 lk_X9_92 ms_X9_finding my_X9_finding (by first | exact ⟨_, rfl⟩ | assumption | exact ng_fld_obj (f := 0) (by assumption)) mc_X9 (by first | decide | exact Nat.le_of_ble_eq_true rfl) (s_X9_finding (k := 2) (by decide) (by decide) (by decide)) (by decide) ?_
    exact ng_ireturn dX9_restore_13 ⟨_, rfl, by rw [if_pos h4]; exact ⟨rfl, rfl⟩⟩
theorem pr_restore {X : Nat × (Nat → Int32)} {M : ng_M} (h : ng_inv M) : ng_pair X mi_X8_restore mi_X9_restore [] M := by
  obtain ⟨i1, i2, i3, i4, i5, i6⟩ := id h
  refine ng_pair.of (d8 := 6) (d9 := 2) (c_restore (fun q => ng_len (w := 20) (i2.2 (by rw [← i2.1]; exact q)).1 (i2.2 (by rw [← i2.1]; exact q)).2)) (by decide) (by decide) (fun _ M1 _ => r_restore) (fun r1 M1 h1 r2 M2 h2 => ?_)
  by_cases hok : M 0 7 = 0
  · rw [if_pos hok] at h1
    obtain ⟨e1, e2⟩ := h1
    subst r1
    subst M1
    change if M 73 3 = 0 then _ else _ at h2
    rw [if_pos (by rw [← i2.1]; exact hok)] at h2
    obtain ⟨e1, e2⟩ := h2
    subst r2
    subst M2
    exact ⟨rfl, ng_inv_err h⟩
  · rw [if_neg hok] at h1
    have hok2 : ¬ M 73 3 = 0 := by rw [← i2.1]; exact hok
    obtain ⟨e1, n1, n2, ⟨q1, q2, q3, q4⟩, w⟩ := h1
    have o : ∀ k, ¬ (1 ≤ k ∧ k ≤ 19) → M1 k = M k := fun k hk => w.1 k (by omega)
    rw [o 73 (by decide), o 74 (by decide), o 75 (by decide), if_neg hok2] at h2
    obtain ⟨e3, e4⟩ := h2
    obtain ⟨p1, p2⟩ := i2.2 hok2
    have hr := ng_rep.wtook (w := 1) (w2 := 20) (Or.inl rfl) (Or.inr rfl) p1 q1 q2 q3 q4 w
    refine ⟨?_, ?_⟩
    · rw [e1, e3]; exact hr.rl.2.2.1.symm
    · rw [e4]
      exact ng_inv_new h (hr.cp p2) p2.cp (fun k hk => o k (by omega))
theorem ng_cnt {a : ng_R} {k : Nat} {u : Int} (h : ng_ok a) (hk : k < 123) (hl : ng_bl k = 0) (hu : ng_bh k = u) (hu2 : u < 1000) : ∃ n : Nat, a k = nI n ∧ (n : Int) ≤ u := by
  have := h.1 k hk
  rw [hl, hu] at this
  obtain ⟨n, hn, e⟩ := nI_of (x := a k) (by rw [ng_lt, ng_0]; omega)
  refine ⟨n, e, ?_⟩
  rw [e, nI_toInt hn] at this
  exact this.2
theorem c_tell {X : Nat × (Nat → Int32)} {M : ng_M} {v : Int32} {n : Nat} (hn : M 1 5 = nI n) (hn20 : n ≤ 20) : ng_EvI X 3 mi_X8_tell [.ref 0, .int v] M (fun r M1 => if n < 20 then (r = nI (n + 1) ∧ M1 = ng_row (ng_row M 19 (upd (M 19) n v)) 1 (upd (M 1) 5 (nI (n + 1)))) else (r = -1000000004 ∧ M1 = ng_cfl M 4)) := by
  refine ng_EvI.of (lv := [some (.ref 0), some (.int v)]) (ty := .int) (by decide) (Nat.le_of_ble_eq_true rfl) rfl rfl (fun _ _ _ => rfl) ?_
  refine ng_aload_0 dX8_tell_0 ?_
  refine ng_gR dX8_tell_1 fl_X8_12 (by first | rfl | assumption) ?_
  refine ng_gI dX8_tell_4 fl_X8_294 (by first | rfl | assumption) ?_
  refine ng_bipush (v := 20) dX8_tell_7 (by decide) ?_
  refine ng_icmp_lt 19 dX8_tell_9 (by decide +kernel) (fun h9 => ?_) (fun h9 => ?_)
  · have hlt : n < 20 := by
      rw [hn, ng_lt, nI_toInt (by omega), show (20 : Int32).toInt = 20 by decide] at h9
      omega
    have hv : vp_in (M 1 5) 20 := by rw [hn]; exact vp_in_nI hlt (by omega)
    have hc : (M 1 5).toNatClampNeg = n := by rw [hn, nI_clamp (by omega)]
    refine ng_aload_0 dX8_tell_19 ?_
    refine ng_gR dX8_tell_20 fl_X8_12 (by first | rfl | assumption) ?_
    refine ng_gR dX8_tell_23 fl_X8_297 (by first | rfl | assumption) ?_
    refine ng_aload_0 dX8_tell_26 ?_
    refine ng_gR dX8_tell_27 fl_X8_12 (by first | rfl | assumption) ?_
    refine ng_gI dX8_tell_30 fl_X8_294 (by first | rfl | assumption) ?_
    refine ng_iload_1 dX8_tell_33 ?_
    refine ng_iastL (j := n) dX8_tell_34 (by first | rfl | assumption) (by exact hv) (by exact hc) ?_
    refine ng_aload_0 dX8_tell_35 ?_
    refine ng_gR dX8_tell_36 fl_X8_12 (by first | rfl | assumption) ?_
    refine ng_dup dX8_tell_39 rfl ?_
    refine ng_gI dX8_tell_40 fl_X8_294 (by first | rfl | assumption) ?_
    refine ng_iconst_1 dX8_tell_43 ?_
    refine ng_iadd dX8_tell_44 ?_
    refine ng_pI dX8_tell_45 fp_X8_294 (by first | rfl | assumption) rfl rfl ?_
    refine ng_aload_0 dX8_tell_48 ?_
    refine ng_gR dX8_tell_49 fl_X8_12 (by first | rfl | assumption) ?_
    refine ng_gI dX8_tell_52 fl_X8_294 (by first | rfl | assumption) ?_
    exact ng_ireturn dX8_tell_55 ⟨_, rfl, by rw [if_pos hlt]; exact ⟨by simp [ng_row, upd, hn, nI_1], by simp [ng_row, hn, nI_1]⟩⟩
  · refine ng_aload_0 dX8_tell_12 ?_
    refine ng_ldc dX8_tell_13 kc_X8_101 ?_
    refine ng_callV_1x (y2 := mi_X8_fails) dX8_tell_15 lk_X8_66 ms_X8_fails my_X8_fails (by first | exact ⟨_, rfl⟩ | assumption | exact ng_fld_obj (f := 0) (by assumption)) mc_X8 (by first | decide | exact Nat.le_of_ble_eq_true rfl) (s_X8_fails (k := 4) (by decide) (by decide) (by decide)) (by decide) ?_
    exact ng_ireturn dX8_tell_18 ⟨_, rfl, by rw [if_neg (by rw [hn, ng_lt, nI_toInt (by omega), show (20 : Int32).toInt = 20 by decide] at h9; omega)]; exact ⟨rfl, rfl⟩⟩
theorem r_tell {X : Nat × (Nat → Int32)} {M : ng_M} {v : Int32} {n : Nat} (hn : M 74 9 = nI n) (hn20 : n ≤ 20) : ng_EvI X 3 mi_X9_tell [.ref 73, .int v] M (fun r M1 => if n < 20 then (r = nI (n + 1) ∧ M1 = ng_row M 74 (upd (upd (M 74) (103 + n) v) 9 (nI (n + 1)))) else (r = -1000000004 ∧ M1 = ng_rfl M 4)) := by
  refine ng_EvI.of (lv := [some (.ref 73), some (.int v)]) (ty := .int) (by decide) (Nat.le_of_ble_eq_true rfl) rfl rfl (fun _ _ _ => rfl) ?_
  refine ng_aload_0 dX9_tell_0 ?_
  refine ng_gR dX9_tell_1 fl_X9_9 (by first | rfl | assumption) ?_
  refine ng_bipush (v := 9) dX9_tell_4 (by decide) ?_
  refine ng_ialdL (j := 9) dX9_tell_6 (by first | rfl | assumption) (by first | assumption | (unfold vp_in; decide)) (by decide) ?_
  refine ng_bipush (v := 20) dX9_tell_7 (by decide) ?_
  refine ng_icmp_ne 19 dX9_tell_9 (by decide +kernel) (fun h9 => ?_) (fun h9 => ?_)
  · have hlt : n < 20 := by
      by_cases q : n = 20
      · exact absurd (by rw [hn, q]; decide) h9
      · omega
    have hix : 103 + M 74 9 = nI (103 + n) := by rw [hn]; exact nI_add 103 n
    refine ng_aload_0 dX9_tell_19 ?_
    refine ng_gR dX9_tell_20 fl_X9_9 (by first | rfl | assumption) ?_
    refine ng_bipush (v := 103) dX9_tell_23 (by decide) ?_
    refine ng_aload_0 dX9_tell_25 ?_
    refine ng_gR dX9_tell_26 fl_X9_9 (by first | rfl | assumption) ?_
    refine ng_bipush (v := 9) dX9_tell_29 (by decide) ?_
    refine ng_ialdL (j := 9) dX9_tell_31 (by first | rfl | assumption) (by first | assumption | (unfold vp_in; decide)) (by decide) ?_
    refine ng_iadd dX9_tell_32 ?_
    refine ng_iload_1 dX9_tell_33 ?_
    refine ng_iastL (j := (103 + n)) dX9_tell_34 (by first | rfl | assumption) (by rw [hix]; exact vp_in_nI (by omega) (by omega)) (by rw [hix, nI_clamp (by omega)]) ?_
    refine ng_aload_0 dX9_tell_35 ?_
    refine ng_gR dX9_tell_36 fl_X9_9 (by first | rfl | assumption) ?_
    refine ng_bipush (v := 9) dX9_tell_39 (by decide) ?_
    refine ng_dup2 dX9_tell_41 rfl rfl ?_
    refine ng_ialdL (j := 9) dX9_tell_42 (by first | rfl | assumption) (by first | assumption | (unfold vp_in; decide)) (by decide) ?_
    refine ng_iconst_1 dX9_tell_43 ?_
    refine ng_iadd dX9_tell_44 ?_
    refine ng_iastL (j := 9) dX9_tell_45 (by first | rfl | assumption) (by first | assumption | (unfold vp_in; decide)) (by decide) ?_
    refine ng_aload_0 dX9_tell_46 ?_
    refine ng_gR dX9_tell_47 fl_X9_9 (by first | rfl | assumption) ?_
    refine ng_bipush (v := 9) dX9_tell_50 (by decide) ?_
    refine ng_ialdL (j := 9) dX9_tell_52 (by first | rfl | assumption) (by first | assumption | (unfold vp_in; decide)) (by decide) ?_
    exact ng_ireturn dX9_tell_53 ⟨_, rfl, by
  rw [if_pos hlt]
  have e : upd (M 74) (103 + n) v 9 + 1 = nI (n + 1) := by rw [ng_upd_ne (by omega), hn, nI_1]
  simp only [ng_row_eq, ng_row_row, ng_upd_eq, e]
  exact ⟨trivial, trivial⟩⟩
  · refine ng_aload_0 dX9_tell_12 ?_
    refine ng_ldc dX9_tell_13 kc_X9_100 ?_
    refine ng_callV_1x (y2 := mi_X9_finding) dX9_tell_15 lk_X9_92 ms_X9_finding my_X9_finding (by first | exact ⟨_, rfl⟩ | assumption | exact ng_fld_obj (f := 0) (by assumption)) mc_X9 (by first | decide | exact Nat.le_of_ble_eq_true rfl) (s_X9_finding (k := 4) (by decide) (by decide) (by decide)) (by decide) ?_
    exact ng_ireturn dX9_tell_18 ⟨_, rfl, by rw [if_neg (by intro q; rw [hn] at h9; have := congrArg Int32.toInt h9; rw [nI_toInt (by omega), show (20 : Int32).toInt = 20 by decide] at this; omega)]; exact ⟨rfl, rfl⟩⟩
theorem pr_tell {X : Nat × (Nat → Int32)} {M : ng_M} {v : Int32} (h : ng_inv M) : ng_pair X mi_X8_tell mi_X9_tell [.int v] M := by
  have hI := h.1.1.rl
  obtain ⟨n, hn, hn20⟩ := ng_cnt (k := 9) (u := 20) h.1.2 (by decide) (by decide) (by decide) (by decide)
  have h9 : M 1 5 = nI n := hI.2.2.2.2.1.trans hn
  have hn20 : n ≤ 20 := by omega
  refine ng_pair.of (d8 := 3) (d9 := 3) (c_tell h9 hn20) (by decide) (by decide) (fun _ M1 h1 => r_tell (n := n) ?_ hn20) (fun r1 M1 h1 r2 M2 h2 => ?_)
  · split at h1
    · rw [h1.2]; exact hn
    · rw [h1.2]; exact hn
  by_cases hok : n < 20
  · rw [if_pos hok] at h1 h2
    obtain ⟨e1, e2⟩ := h1
    subst r1
    subst M1
    obtain ⟨e1, e2⟩ := h2
    subst r2
    subst M2
    refine ⟨rfl, ng_inv_new h (ng_rset (ng_rset h.1.1 (by decide) (ng_loc_wt n hok) (by omega)) (by decide) (fun k hk => (ng_loc_w k hk).2.2.1) (by decide)) ?_ (fun k hk => ?_)⟩
    · have b := ng_b_wt n hok
      have r := ng_rng v
      exact (h.1.2.upd (by omega) (by rw [b.1]; omega) (by rw [b.2]; omega)).upd (by decide) (by rw [nI_toInt (by omega)]; show (0 : Int) ≤ _; omega) (by rw [nI_toInt (by omega)]; show _ ≤ (20 : Int); omega)
    · rw [ng_row_ne (by omega), ng_row_ne (by omega)]
  · rw [if_neg hok] at h1 h2
    obtain ⟨e1, e2⟩ := h1
    subst r1
    subst M1
    obtain ⟨e1, e2⟩ := h2
    subst r2
    subst M2
    exact ⟨rfl, ng_inv_err h⟩
