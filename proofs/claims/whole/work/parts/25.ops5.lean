/-! ===== pairs: buyer, tell, count, image, restore ===== -/
theorem ng_rset {M : ng_M} {a : ng_R} {r j i : Nat} {v : Int32} (h : ng_rep M 1 a) (hr : 1 ≤ r ∧ r ≤ 19 ∧ r ≠ 7 ∧ r ≠ 8 ∧ r ≠ 11 ∧ r ≠ 12) (hl : ∀ k, k < 123 → (ng_loc 1 k = (r, j) ↔ k = i)) (hi : i < 123) : ng_rep (ng_row M r (upd (M r) j v)) 1 (upd a i v) := by
  refine h.upd hi (ng_cvr_upd hl) ?_ ?_ ?_ ?_
  · rw [ng_row_ne (by omega)]
  · rw [ng_row_ne (by omega)]
  · rw [ng_row_ne (by omega)]
  · rw [ng_row_ne (by omega)]
/-- a class that has a new row, and a reference that has it: nothing else has changed -/
theorem ng_inv_new {M M1 : ng_M} {a : ng_R} (h : ng_inv M) (h1 : ng_rep M1 1 a) (hok : ng_ok a) (ho : ∀ k, (k = 0 ∨ 20 ≤ k) → M1 k = M k) : ng_inv (ng_row M1 74 a) := by
  refine ng_inv_I1 h ⟨?_, ?_⟩ (fun k hk => ?_) ?_ ?_
  · rw [ng_row_eq]; exact h1.congr (fun k k1 k2 => ng_row_ne (by omega))
  · rw [ng_row_eq]; exact hok
  · unfold ng_oth at hk; rw [ng_row_ne (by omega)]; exact ho k (by omega)
  · rw [ng_row_ne (by decide), ho 73 (by omega)]
  · rw [ng_row_ne (by decide), ho 73 (by omega)]
def ng_come (M : ng_M) (n : Nat) (k w t : Int32) : ng_M := ng_row (ng_row (ng_row (ng_row (ng_row M 4 (upd (M 4) n k)) 5 (upd (M 5) n w)) 6 (upd (M 6) n t)) 16 (upd (M 16) n 0)) 2 (upd (M 2) 6 (M 2 6 + 1))
def ng_comeR (a : ng_R) (n : Nat) (k w t : Int32) : ng_R := upd (upd (upd (upd (upd a (21 + 4 * n) k) (22 + 4 * n) w) (23 + 4 * n) t) (24 + 4 * n) 0) 1 (a 1 + 1)
theorem c_comes {X : Nat × (Nat → Int32)} {M : ng_M} {k w t : Int32} {n : Nat} (hn : M 2 6 = nI n) (hn8 : n ≤ 8) : ng_EvI X 1 mi_X7_comes [.ref 1, .int k, .int w, .int t] M (fun r M1 => if M 2 6 < 8 then (r = nI n ∧ M1 = ng_come M n k w t) else (r = -1 ∧ M1 = M)) := by
  refine ng_EvI.of (lv := [some (.ref 1), some (.int k), some (.int w), some (.int t), none]) (ty := .int) (by decide) (Nat.le_of_ble_eq_true rfl) rfl rfl (fun _ _ _ => rfl) ?_
  refine ng_aload_0 dX7_comes_0 ?_
  refine ng_gR dX7_comes_1 fl_X7_12 (by first | rfl | assumption) ?_
  refine ng_gI dX7_comes_4 fl_X7_59 (by first | rfl | assumption) ?_
  refine ng_istore_4 dX7_comes_7 (by first | rfl | assumption) ?_
  refine ng_iload_4 dX7_comes_9 ?_
  refine ng_bipush (v := 8) dX7_comes_11 (by decide) ?_
  refine ng_icmp_lt 18 dX7_comes_13 (by decide +kernel) (fun h13 => ?_) (fun h13 => ?_)
  · have hv : vp_in (M 2 6) 8 := by
      rw [ng_lt, hn, show (8 : Int32).toInt = 8 by decide] at h13
      rw [hn]
      have q : n < 8 := by
        have := nI_toInt (n := n) (by omega)
        omega
      exact vp_in_nI q (by omega)
    have hc : (M 2 6).toNatClampNeg = n := by rw [hn, nI_clamp (by omega)]
    refine ng_aload_0 dX7_comes_18 ?_
    refine ng_gR dX7_comes_19 fl_X7_12 (by first | rfl | assumption) ?_
    refine ng_gR dX7_comes_22 fl_X7_62 (by first | rfl | assumption) ?_
    refine ng_iload_4 dX7_comes_25 ?_
    refine ng_iload_1 dX7_comes_27 ?_
    refine ng_iastL (j := n) dX7_comes_28 (by first | rfl | assumption) (by exact hv) (by exact hc) ?_
    refine ng_aload_0 dX7_comes_29 ?_
    refine ng_gR dX7_comes_30 fl_X7_12 (by first | rfl | assumption) ?_
    refine ng_gR dX7_comes_33 fl_X7_65 (by first | rfl | assumption) ?_
    refine ng_iload_4 dX7_comes_36 ?_
    refine ng_iload_2 dX7_comes_38 ?_
    refine ng_iastL (j := n) dX7_comes_39 (by first | rfl | assumption) (by exact hv) (by exact hc) ?_
    refine ng_aload_0 dX7_comes_40 ?_
    refine ng_gR dX7_comes_41 fl_X7_12 (by first | rfl | assumption) ?_
    refine ng_gR dX7_comes_44 fl_X7_68 (by first | rfl | assumption) ?_
    refine ng_iload_4 dX7_comes_47 ?_
    refine ng_iload_3 dX7_comes_49 ?_
    refine ng_iastL (j := n) dX7_comes_50 (by first | rfl | assumption) (by exact hv) (by exact hc) ?_
    refine ng_aload_0 dX7_comes_51 ?_
    refine ng_gR dX7_comes_52 fl_X7_23 (by first | rfl | assumption) ?_
    refine ng_gR dX7_comes_55 fl_X7_71 (by first | rfl | assumption) ?_
    refine ng_iload_4 dX7_comes_58 ?_
    refine ng_iconst_0 dX7_comes_60 ?_
    refine ng_iastL (j := n) dX7_comes_61 (by first | rfl | assumption) (by exact hv) (by exact hc) ?_
    refine ng_aload_0 dX7_comes_62 ?_
    refine ng_gR dX7_comes_63 fl_X7_12 (by first | rfl | assumption) ?_
    refine ng_iload_4 dX7_comes_66 ?_
    refine ng_iconst_1 dX7_comes_68 ?_
    refine ng_iadd dX7_comes_69 ?_
    refine ng_pI dX7_comes_70 fp_X7_59 (by first | rfl | assumption) rfl rfl ?_
    refine ng_iload_4 dX7_comes_73 ?_
    exact ng_ireturn dX7_comes_75 ⟨_, rfl, by rw [if_pos h13]; exact ⟨hn, rfl⟩⟩
  · refine ng_iconst_m1 dX7_comes_16 ?_
    exact ng_ireturn dX7_comes_17 ⟨_, rfl, by rw [if_neg h13]; exact ⟨rfl, rfl⟩⟩
theorem ng_row_row {M : ng_M} {k : Nat} {g f : Nat → Int32} : ng_row (ng_row M k g) k f = ng_row M k f := by
  funext j
  by_cases e : j = k
  · subst e; rw [ng_row_eq, ng_row_eq]
  · rw [ng_row_ne e, ng_row_ne e, ng_row_ne e]
theorem r_comes {X : Nat × (Nat → Int32)} {M : ng_M} {k w t : Int32} {n : Nat} (hn : M 74 1 = nI n) (hn8 : n < 8) : ng_EvI X 1 mi_X9_comes [.ref 73, .int k, .int w, .int t] M (fun r M1 => r = nI n ∧ M1 = ng_row M 74 (ng_comeR (M 74) n k w t)) := by
  refine ng_EvI.of (lv := [some (.ref 73), some (.int k), some (.int w), some (.int t), none, none]) (ty := .int) (by decide) (Nat.le_of_ble_eq_true rfl) rfl rfl (fun _ _ _ => rfl) ?_
  refine ng_aload_0 dX9_comes_0 ?_
  refine ng_gR dX9_comes_1 fl_X9_9 (by first | rfl | assumption) ?_
  refine ng_iconst_1 dX9_comes_4 ?_
  refine ng_ialdL (j := 1) dX9_comes_5 (by first | rfl | assumption) (by first | assumption | (unfold vp_in; decide)) (by decide) ?_
  refine ng_istore_4 dX9_comes_6 (by first | rfl | assumption) ?_
  refine ng_bipush (v := 21) dX9_comes_8 (by decide) ?_
  refine ng_iconst_4 dX9_comes_10 ?_
  refine ng_iload_4 dX9_comes_11 ?_
  refine ng_imul dX9_comes_13 ?_
  refine ng_iadd dX9_comes_14 ?_
  refine ng_istore_5 dX9_comes_15 (by first | rfl | assumption) ?_
  refine ng_aload_0 dX9_comes_17 ?_
  refine ng_gR dX9_comes_18 fl_X9_9 (by first | rfl | assumption) ?_
  refine ng_iload_5 dX9_comes_21 ?_
  refine ng_iconst_0 dX9_comes_23 ?_
  refine ng_iadd dX9_comes_24 ?_
  refine ng_iload_1 dX9_comes_25 ?_
  refine ng_iastL (j := (21 + 4 * n + 0)) dX9_comes_26 (by first | rfl | assumption) (by rw [ng_ix_of (f := 0) (j := 0) hn rfl]; exact vp_in_nI (by omega) (by omega)) (by rw [ng_ix_of (f := 0) (j := 0) hn rfl, nI_clamp (by omega)]) ?_
  refine ng_aload_0 dX9_comes_27 ?_
  refine ng_gR dX9_comes_28 fl_X9_9 (by first | rfl | assumption) ?_
  refine ng_iload_5 dX9_comes_31 ?_
  refine ng_iconst_1 dX9_comes_33 ?_
  refine ng_iadd dX9_comes_34 ?_
  refine ng_iload_2 dX9_comes_35 ?_
  refine ng_iastL (j := (21 + 4 * n + 1)) dX9_comes_36 (by first | rfl | assumption) (by rw [ng_ix_of (f := 1) (j := 1) hn rfl]; exact vp_in_nI (by omega) (by omega)) (by rw [ng_ix_of (f := 1) (j := 1) hn rfl, nI_clamp (by omega)]) ?_
  refine ng_aload_0 dX9_comes_37 ?_
  refine ng_gR dX9_comes_38 fl_X9_9 (by first | rfl | assumption) ?_
  refine ng_iload_5 dX9_comes_41 ?_
  refine ng_iconst_2 dX9_comes_43 ?_
  refine ng_iadd dX9_comes_44 ?_
  refine ng_iload_3 dX9_comes_45 ?_
  refine ng_iastL (j := (21 + 4 * n + 2)) dX9_comes_46 (by first | rfl | assumption) (by rw [ng_ix_of (f := 2) (j := 2) hn rfl]; exact vp_in_nI (by omega) (by omega)) (by rw [ng_ix_of (f := 2) (j := 2) hn rfl, nI_clamp (by omega)]) ?_
  refine ng_aload_0 dX9_comes_47 ?_
  refine ng_gR dX9_comes_48 fl_X9_9 (by first | rfl | assumption) ?_
  refine ng_iload_5 dX9_comes_51 ?_
  refine ng_iconst_3 dX9_comes_53 ?_
  refine ng_iadd dX9_comes_54 ?_
  refine ng_iconst_0 dX9_comes_55 ?_
  refine ng_iastL (j := (21 + 4 * n + 3)) dX9_comes_56 (by first | rfl | assumption) (by rw [ng_ix_of (f := 3) (j := 3) hn rfl]; exact vp_in_nI (by omega) (by omega)) (by rw [ng_ix_of (f := 3) (j := 3) hn rfl, nI_clamp (by omega)]) ?_
  refine ng_aload_0 dX9_comes_57 ?_
  refine ng_gR dX9_comes_58 fl_X9_9 (by first | rfl | assumption) ?_
  refine ng_iconst_1 dX9_comes_61 ?_
  refine ng_dup2 dX9_comes_62 rfl rfl ?_
  refine ng_ialdL (j := 1) dX9_comes_63 (by first | rfl | assumption) (by first | assumption | (unfold vp_in; decide)) (by decide) ?_
  refine ng_iconst_1 dX9_comes_64 ?_
  refine ng_iadd dX9_comes_65 ?_
  refine ng_iastL (j := 1) dX9_comes_66 (by first | rfl | assumption) (by first | assumption | (unfold vp_in; decide)) (by decide) ?_
  refine ng_iload_4 dX9_comes_67 ?_
  exact ng_ireturn dX9_comes_69 ⟨_, rfl, hn, by
  simp only [ng_row_eq, ng_row_row, Nat.add_zero]
  rw [ng_comeR, show 21 + 4 * n + 1 = 22 + 4 * n by omega, show 21 + 4 * n + 2 = 23 + 4 * n by omega, show 21 + 4 * n + 3 = 24 + 4 * n by omega]
  congr 2
  rw [ng_upd_ne (by omega), ng_upd_ne (by omega), ng_upd_ne (by omega), ng_upd_ne (by omega)]⟩
theorem c_buyer {X : Nat × (Nat → Int32)} {M : ng_M} {k w t : Int32} {n : Nat} (hn : M 2 6 = nI n) (hn8 : n ≤ 8) : ng_EvI X 3 mi_X8_buyer [.ref 0, .int k, .int w, .int t] M (fun r M1 => if ng_told k w t then (if M 2 6 < 8 then (r = nI n ∧ M1 = ng_come M n k w t) else (r = -1000000004 ∧ M1 = ng_cfl M 4)) else (r = -1000000001 ∧ M1 = ng_cfl M 1)) := by
  refine ng_EvI.of (lv := [some (.ref 0), some (.int k), some (.int w), some (.int t), none]) (ty := .int) (by decide) (Nat.le_of_ble_eq_true rfl) rfl rfl (fun _ _ _ => rfl) ?_
  refine ng_iload_1 dX8_buyer_0 ?_
  refine ng_iload_2 dX8_buyer_1 ?_
  refine ng_iload_3 dX8_buyer_2 ?_
  refine ng_callS_3x (y2 := mi_X8_isBuyerAsTold) dX8_buyer_3 lk_X8_94 ms_X8_isBuyerAsTold my_X8_isBuyerAsTold (by first | decide | exact Nat.le_of_ble_eq_true rfl) (s_X8_isBuyerAsTold) (by decide) ?_
  refine ng_ifb_ne 16 dX8_buyer_6 (by decide +kernel) (fun h6 => ?_) (fun h6 => ?_)
  · refine ng_aload_0 dX8_buyer_16 ?_
    refine ng_gR dX8_buyer_17 fl_X8_12 (by first | rfl | assumption) ?_
    refine ng_iload_1 dX8_buyer_20 ?_
    refine ng_iload_2 dX8_buyer_21 ?_
    refine ng_iload_3 dX8_buyer_22 ?_
    refine ng_callV_3i (y2 := mi_X7_comes) dX8_buyer_23 lk_X8_97 ms_X7_comes my_X7_comes (by first | exact ⟨_, rfl⟩ | assumption | exact ng_fld_obj (f := 0) (by assumption)) mc_X7 (by first | decide | exact Nat.le_of_ble_eq_true rfl) (c_comes hn hn8) (by decide) (fun v M2 hv => ?_)
    by_cases hlt : M 2 6 < 8
    · rw [if_pos hlt] at hv
      obtain ⟨e1, e2⟩ := hv
      subst v
      subst M2
      refine ng_istore_4 dX8_buyer_26 rfl ?_
      refine ng_iload_4 dX8_buyer_28 ?_
      refine ng_if_ge 42 dX8_buyer_30 (by decide +kernel) (fun h30 => ?_) (fun h30 => ?_)
      · refine ng_iload_4 dX8_buyer_42 ?_
        exact ng_ireturn dX8_buyer_44 ⟨_, rfl, by rw [if_pos h6, if_pos hlt]; exact ⟨rfl, rfl⟩⟩
      · exact absurd (nI_pos' (by omega)) h30
    rw [if_neg hlt] at hv
    obtain ⟨e1, e2⟩ := hv
    subst v
    subst M2
    refine ng_istore_4 dX8_buyer_26 (by first | rfl | assumption) ?_
    refine ng_iload_4 dX8_buyer_28 ?_
    refine ng_if_ge 42 dX8_buyer_30 (by decide +kernel) (fun h30 => ?_) (fun h30 => ?_)
    · exact absurd h30 (by decide)
    · refine ng_aload_0 dX8_buyer_33 ?_
      refine ng_ldc dX8_buyer_34 kc_X8_101 ?_
      refine ng_callV_1x (y2 := mi_X8_fails) dX8_buyer_36 lk_X8_66 ms_X8_fails my_X8_fails (by first | exact ⟨_, rfl⟩ | assumption | exact ng_fld_obj (f := 0) (by assumption)) mc_X8 (by first | decide | exact Nat.le_of_ble_eq_true rfl) (s_X8_fails (k := 4) (by decide) (by decide) (by decide)) (by decide) ?_
      refine ng_goto 44 dX8_buyer_39 (by decide +kernel) ?_
      exact ng_ireturn dX8_buyer_44 ⟨_, rfl, by rw [if_pos h6, if_neg hlt]; exact ⟨rfl, rfl⟩⟩
  · refine ng_aload_0 dX8_buyer_9 ?_
    refine ng_ldc dX8_buyer_10 kc_X8_65 ?_
    refine ng_callV_1x (y2 := mi_X8_fails) dX8_buyer_12 lk_X8_66 ms_X8_fails my_X8_fails (by first | exact ⟨_, rfl⟩ | assumption | exact ng_fld_obj (f := 0) (by assumption)) mc_X8 (by first | decide | exact Nat.le_of_ble_eq_true rfl) (s_X8_fails (k := 1) (by decide) (by decide) (by decide)) (by decide) ?_
    exact ng_ireturn dX8_buyer_15 ⟨_, rfl, by rw [if_neg (by rw [h6]; decide)]; exact ⟨rfl, rfl⟩⟩
theorem r_buyer {X : Nat × (Nat → Int32)} {M : ng_M} {k w t : Int32} {n : Nat} (hn : M 74 1 = nI n) (hn8 : n ≤ 8) : ng_EvI X 3 mi_X9_buyer [.ref 73, .int k, .int w, .int t] M (fun r M1 => if ng_told k w t then (if M 74 1 < 8 then (r = nI n ∧ M1 = ng_row M 74 (ng_comeR (M 74) n k w t)) else (r = -1000000004 ∧ M1 = ng_rfl M 4)) else (r = -1000000001 ∧ M1 = ng_rfl M 1)) := by
  refine ng_EvI.of (lv := [some (.ref 73), some (.int k), some (.int w), some (.int t)]) (ty := .int) (by decide) (Nat.le_of_ble_eq_true rfl) rfl rfl (fun _ _ _ => rfl) ?_
  refine ng_iload_1 dX9_buyer_0 ?_
  refine ng_iload_2 dX9_buyer_1 ?_
  refine ng_iload_3 dX9_buyer_2 ?_
  refine ng_callS_3x (y2 := mi_X9_isAsTold) dX9_buyer_3 lk_X9_97 ms_X9_isAsTold my_X9_isAsTold (by first | decide | exact Nat.le_of_ble_eq_true rfl) (s_X9_isAsTold) (by decide) ?_
  refine ng_ifb_ne 16 dX9_buyer_6 (by decide +kernel) (fun h6 => ?_) (fun h6 => ?_)
  · refine ng_aload_0 dX9_buyer_16 ?_
    refine ng_gR dX9_buyer_17 fl_X9_9 (by first | rfl | assumption) ?_
    refine ng_iconst_1 dX9_buyer_20 ?_
    refine ng_ialdL (j := 1) dX9_buyer_21 (by first | rfl | assumption) (by first | assumption | (unfold vp_in; decide)) (by decide) ?_
    refine ng_bipush (v := 8) dX9_buyer_22 (by decide) ?_
    refine ng_icmp_ne 36 dX9_buyer_24 (by decide +kernel) (fun h24 => ?_) (fun h24 => ?_)
    · have hlt : n < 8 := by
        by_cases q : n = 8
        · exact absurd (by rw [hn, q]; decide) h24
        · omega
      have hlt8 : M 74 1 < 8 := by
        rw [hn, ng_lt, nI_toInt (by omega), show (8 : Int32).toInt = 8 by decide]
        omega
      refine ng_aload_0 dX9_buyer_36 ?_
      refine ng_iload_1 dX9_buyer_37 ?_
      refine ng_iload_2 dX9_buyer_38 ?_
      refine ng_iload_3 dX9_buyer_39 ?_
      refine ng_callV_3i (y2 := mi_X9_comes) dX9_buyer_40 lk_X9_101 ms_X9_comes my_X9_comes (by first | exact ⟨_, rfl⟩ | assumption | exact ng_fld_obj (f := 0) (by assumption)) mc_X9 (by first | decide | exact Nat.le_of_ble_eq_true rfl) (r_comes hn hlt) (by decide) (fun v M2 hv => ?_)
      exact ng_ireturn dX9_buyer_43 ⟨_, rfl, by rw [if_pos h6]; first | (rw [if_pos hlt8]; exact hv) | (rw [h24, if_neg (by decide)]; exact ⟨rfl, rfl⟩)⟩
    · refine ng_aload_0 dX9_buyer_27 ?_
      refine ng_ldc dX9_buyer_28 kc_X9_100 ?_
      refine ng_callV_1x (y2 := mi_X9_finding) dX9_buyer_30 lk_X9_92 ms_X9_finding my_X9_finding (by first | exact ⟨_, rfl⟩ | assumption | exact ng_fld_obj (f := 0) (by assumption)) mc_X9 (by first | decide | exact Nat.le_of_ble_eq_true rfl) (s_X9_finding (k := 4) (by decide) (by decide) (by decide)) (by decide) ?_
      refine ng_goto 43 dX9_buyer_33 (by decide +kernel) ?_
      exact ng_ireturn dX9_buyer_43 ⟨_, rfl, by rw [if_pos h6]; first | (rw [if_pos hlt8]; exact hv) | (rw [h24, if_neg (by decide)]; exact ⟨rfl, rfl⟩)⟩
  · refine ng_aload_0 dX9_buyer_9 ?_
    refine ng_ldc dX9_buyer_10 kc_X9_91 ?_
    refine ng_callV_1x (y2 := mi_X9_finding) dX9_buyer_12 lk_X9_92 ms_X9_finding my_X9_finding (by first | exact ⟨_, rfl⟩ | assumption | exact ng_fld_obj (f := 0) (by assumption)) mc_X9 (by first | decide | exact Nat.le_of_ble_eq_true rfl) (s_X9_finding (k := 1) (by decide) (by decide) (by decide)) (by decide) ?_
    exact ng_ireturn dX9_buyer_15 ⟨_, rfl, by rw [if_neg (by rw [h6]; decide)]; exact ⟨rfl, rfl⟩⟩
theorem ng_inv_come {M : ng_M} {k w t : Int32} {n : Nat} (h : ng_inv M) (hn : M 74 1 = nI n) (hn8 : n < 8) (hk : ng_told k w t = true) : ng_inv (ng_row (ng_come M n k w t) 74 (ng_comeR (M 74) n k w t)) := by
  have hI := h.1.1.rl
  obtain ⟨k1, k2⟩ := Bool.and_eq_true_iff.mp hk
  obtain ⟨k2, k3⟩ := Bool.and_eq_true_iff.mp k2
  have q1 := ng_inT.mp k1
  have q2 := ng_inT.mp k2
  have q3 := ng_inT.mp k3
  rw [ng_0, ng_6] at q1
  rw [ng_0, ng_9999] at q2
  rw [ng_1, show (9 : Int32).toInt = 9 by decide] at q3
  have e1 : M 2 6 + 1 = M 74 1 + 1 := by rw [hI.1.2.2.1]
  have en : (M 74 1 + 1).toInt = n + 1 := by rw [hn, nI_1, nI_toInt (by omega)]; omega
  refine ng_inv_new h ?_ ?_ (fun j hj => ?_)
  · have g1 := ng_rset h.1.1 (r := 4) (j := n) (v := k) (by decide) (ng_loc_ki n hn8) (by omega)
    have g2 := ng_rset g1 (r := 5) (j := n) (v := w) (by decide) (ng_loc_wa n hn8) (by omega)
    have g3 := ng_rset g2 (r := 6) (j := n) (v := t) (by decide) (ng_loc_ta n hn8) (by omega)
    have g4 := ng_rset g3 (r := 16) (j := n) (v := 0) (by decide) (ng_loc_ha n hn8) (by omega)
    have g5 := ng_rset g4 (r := 2) (j := 6) (v := M 2 6 + 1) (by decide) ng_loc_n (by decide)
    unfold ng_comeR
    rw [← e1]
    exact g5
  · have b1 := ng_b_ki n hn8
    have b2 := ng_b_wa n hn8
    have b3 := ng_b_ta n hn8
    have b4 := ng_b_ha n hn8
    exact ((((h.1.2.upd (by omega) (by rw [b1.1]; omega) (by rw [b1.2]; omega)).upd (by omega) (by rw [b2.1]; omega) (by rw [b2.2]; omega)).upd (by omega) (by rw [b3.1]; omega) (by rw [b3.2]; omega)).upd (by omega) (by rw [b4.1, ng_0]; omega) (by rw [b4.2, ng_0]; omega)).upd (by decide) (by rw [en]; show (0 : Int) ≤ _; omega) (by rw [en]; show _ ≤ (8 : Int); omega)
  · unfold ng_come
    rw [ng_row_ne (by omega), ng_row_ne (by omega), ng_row_ne (by omega), ng_row_ne (by omega), ng_row_ne (by omega)]
theorem pr_buyer {X : Nat × (Nat → Int32)} {M : ng_M} {k w t : Int32} (h : ng_inv M) : ng_pair X mi_X8_buyer mi_X9_buyer [.int k, .int w, .int t] M := by
  have hI := h.1.1.rl
  obtain ⟨n, hn, hn8⟩ := h.1.2.wfr.1.1.1
  have hn2 : M 2 6 = M 74 1 := hI.1.2.2.1
  have h74 : ∀ v M1, (if ng_told k w t then (if M 2 6 < 8 then (v = nI n ∧ M1 = ng_come M n k w t) else (v = -1000000004 ∧ M1 = ng_cfl M 4)) else (v = -1000000001 ∧ M1 = ng_cfl M 1)) → M1 74 = M 74 := by
    intro v M1 h1
    split at h1
    · split at h1
      · rw [h1.2]; rfl
      · rw [h1.2]; rfl
    · rw [h1.2]; rfl
  refine ng_pair.of (d8 := 3) (d9 := 3) (c_buyer (hn2.trans hn) hn8) (by decide) (by decide) (fun v M1 h1 => r_buyer (show M1 74 1 = nI n by rw [h74 v M1 h1]; exact hn) hn8) (fun r1 M1 h1 r2 M2 h2 => ?_)
  rw [h74 r1 M1 h1] at h2
  rw [hn2] at h1
  by_cases hok : ng_told k w t = true
  · rw [if_pos hok] at h1 h2
    by_cases hlt : M 74 1 < 8
    · rw [if_pos hlt] at h1 h2
      obtain ⟨e1, e2⟩ := h1
      subst r1
      subst M1
      obtain ⟨e1, e2⟩ := h2
      subst r2
      subst M2
      refine ⟨rfl, ng_inv_come h hn ?_ hok⟩
      rw [hn, ng_lt, nI_toInt (by omega), show (8 : Int32).toInt = 8 by decide] at hlt
      omega
    · rw [if_neg hlt] at h1 h2
      obtain ⟨e1, e2⟩ := h1
      subst r1
      subst M1
      obtain ⟨e1, e2⟩ := h2
      subst r2
      subst M2
      exact ⟨rfl, ng_inv_err h⟩
  · rw [if_neg hok] at h1 h2
    obtain ⟨e1, e2⟩ := h1
    subst r1
    subst M1
    obtain ⟨e1, e2⟩ := h2
    subst r2
    subst M2
    exact ⟨rfl, ng_inv_err h⟩
