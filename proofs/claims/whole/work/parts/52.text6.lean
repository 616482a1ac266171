/-! ===== texts: pair text ===== -/
def ng_tH (a : ng_R) : Nat → Int32 := fun p => if p < (a 8).toNatClampNeg then a (53 + p) else -1
def ng_tR (a : ng_R) (u : Int32) : ng_Rs := ng_tt (ng_tH a) (ng_qq (ng_tH a) u 5) 0
def ng_tOK (a : ng_R) (u : Int32) : Prop := (ng_tR a u).1 = true ∧ (ng_tR a u).2.1 = (a 8).toNatClampNeg
theorem ng_bl_tp : ∀ k, k < 103 → 53 ≤ k → ng_bl k = 0 ∧ ng_bh k = 255 := by decide +kernel
theorem ng_tH_ok {a : ng_R} (h : ng_ok a) : ng_hH (ng_tH a) (a 8).toNatClampNeg ∧ a 8 = nI (a 8).toNatClampNeg := by
  obtain ⟨n, hn, hn50⟩ := ng_cnt (k := 8) (u := 50) h (by decide) (by decide) (by decide) (by decide)
  have hc : (a 8).toNatClampNeg = n := by rw [hn, nI_clamp (by omega)]
  rw [hc]
  refine ⟨⟨by omega, fun p hp => ?_, fun p hp => ?_⟩, hn⟩
  · unfold ng_tH
    rw [hc, if_neg (by omega)]
  · unfold ng_tH
    rw [hc, if_pos hp]
    have q := h.1 (53 + p) (by omega)
    have e := ng_bl_tp (53 + p) (by omega) (by omega)
    rw [e.1, e.2] at q
    exact q
theorem ng_tR_gd {a : ng_R} {u : Int32} (h : ng_ok a) : (ng_tR a u).2.1 ≤ (a 8).toNatClampNeg ∧ (a 8).toNatClampNeg ≤ 50 ∧ (ng_tR a u).2.2.length ≤ 50 ∧ ((ng_tR a u).1 = true → ng_hv (ng_tR a u).2.2) := by
  obtain ⟨hH, -⟩ := ng_tH_ok h
  obtain ⟨g1, g2, g3, g4⟩ := ng_gd.tt hH (ng_gd.qq (u := u) hH 5) 0 (by omega)
  have h50 := hH.1
  unfold ng_tR
  exact ⟨g2, h50, by omega, g4⟩
theorem ng_tno1 {a : ng_R} {u : Int32} (h : (ng_tR a u).1 = false) : ¬ ng_tOK a u := fun z => by
  rw [z.1] at h
  exact absurd h (by decide)
theorem ng_tno2 {a : ng_R} {u : Int32} (h : (!(ng_tR a u).1) = true) : ¬ ng_tOK a u := fun z => by
  rw [z.1] at h
  exact absurd h (by decide)
theorem ng_RD_self {M : ng_M} (h4 : M 60 4 = 0) (h1 : M 60 1 = 0) : ng_RD M 0 [] = M := by
  funext k
  by_cases q : k = 60
  · subst q
    rw [ng_RD_60]
    funext j
    unfold ng_fdr
    by_cases q4 : j = 4
    · subst q4; rw [if_pos rfl, h4]; rfl
    · rw [if_neg q4]
      by_cases q1 : j = 1
      · subst q1; rw [if_pos rfl, h1]; rfl
      · rw [if_neg q1]
  · by_cases q2 : k = 61
    · subst q2
      rw [ng_RD_c]
      funext j
      unfold ng_cu
      rw [if_neg (by simp)]
    · exact ng_RD_o k (by simp; omega)
theorem s_X2_reads {X : Nat × (Nat → Int32)} {M : ng_M} {u n : Int32} (hI : ng_I1 M) (hu : u = 0 ∨ u = 1) (hn : n = M 74 8) : ng_EvI X 51 mi_X2_reads [.ref 60, .ref 18, .int n, .int u] M (fun v M' => ng_off [60, 61, 62] M M' ∧ ((ng_tOK (M 74) u ∧ v = -1) ∨ (¬ ng_tOK (M 74) u ∧ v = nI (ng_tR (M 74) u).2.1)) ∧ M' 60 1 = nI (ng_tR (M 74) u).2.2.length ∧ ∀ j, j < (ng_tR (M 74) u).2.2.length → M' 61 j = ng_un ((ng_tR (M 74) u).2.2.getD j 0)) := by
  obtain ⟨hH, hL⟩ := ng_tH_ok hI.2
  have hL50 := hH.1
  obtain ⟨t1, t2, t3, t4⟩ := ng_tR_gd (u := u) hI.2
  have h18 := hI.1.rl.2.2.2.2.2.2.1
  have eH : ∀ p, p < (M 74 8).toNatClampNeg → ng_tH (M 74) p = M 74 (53 + p) := fun p hp => by unfold ng_tH; rw [if_pos hp]
  generalize hLN : (M 74 8).toNatClampNeg = L at *
  rw [hL] at hn
  subst hn
  have c0 : (0 : Int32).toNatClampNeg = 0 := by decide
  have e50 : ng_held (nI L) 0 (if Int32.ofNat 50 < Int32.ofNat 50 then Int32.ofNat 50 else Int32.ofNat 50) = nI L := by
    apply ng_i_eq
    rw [ng_heldI, if_neg (by decide), ng_0, show (Int32.ofNat 50).toInt = 50 by decide, nI_toInt (by omega)]
    omega
  have e3 : ng_row (ng_row M 60 (upd (M 60) 5 u)) 60 (upd (ng_row M 60 (upd (M 60) 5 u) 60) 3 (nI L)) 60 3 = nI L := by rw [ng_row_eq, ng_upd_eq]
  have key : ∀ Mb : ng_M, ng_RC Mb (ng_tH (M 74)) L u → Mb 60 4 = 0 → Mb 60 1 = 0 → ng_off [60, 62] M Mb → ng_Go X mi_X2_reads 51 48 [some (.ref 60), some (.ref 18), some (.int (nI L)), some (.int u), none] [] Mb (fun r' M' => ∃ v, r' = some (.int v) ∧ ng_off [60, 61, 62] M M' ∧ ((ng_tOK (M 74) u ∧ v = -1) ∨ (¬ ng_tOK (M 74) u ∧ v = nI (ng_tR (M 74) u).2.1)) ∧ M' 60 1 = nI (ng_tR (M 74) u).2.2.length ∧ ∀ j, j < (ng_tR (M 74) u).2.2.length → M' 61 j = ng_un ((ng_tR (M 74) u).2.2.getD j 0)) := by
    intro Mb hc h4 h1 ho
    have z : ng_EvX X 50 mi_X2_readsRule [.ref 60, .int 0, .int 0] Mb (some (.int (ng_bi (ng_tR (M 74) u).1))) (ng_RD Mb (ng_tR (M 74) u).2.1 (ng_tR (M 74) u).2.2) := by
      have z := s_X2_text (X := X) hc 0 [] (by omega) (by simp)
      rw [ng_RD_self h4 h1] at z
      exact z
    have fin : ∀ v : Int32, ((ng_tOK (M 74) u ∧ v = -1) ∨ (¬ ng_tOK (M 74) u ∧ v = nI (ng_tR (M 74) u).2.1)) → ng_off [60, 61, 62] M (ng_RD Mb (ng_tR (M 74) u).2.1 (ng_tR (M 74) u).2.2) ∧ ((ng_tOK (M 74) u ∧ v = -1) ∨ (¬ ng_tOK (M 74) u ∧ v = nI (ng_tR (M 74) u).2.1)) ∧ (ng_RD Mb (ng_tR (M 74) u).2.1 (ng_tR (M 74) u).2.2) 60 1 = nI (ng_tR (M 74) u).2.2.length ∧ ∀ j, j < (ng_tR (M 74) u).2.2.length → (ng_RD Mb (ng_tR (M 74) u).2.1 (ng_tR (M 74) u).2.2) 61 j = ng_un ((ng_tR (M 74) u).2.2.getD j 0) := by
      intro v hv
      refine ⟨fun k hk => ?_, hv, ng_RD_1, fun j hj => ng_RD_61 hj⟩
      simp at hk
      rw [ng_RD_o k (by simp; omega)]
      exact ho k (by simp; omega)
    refine ng_aload_0 dX2_reads_48 ?_
    refine ng_iconst_0 dX2_reads_49 ?_
    refine ng_iconst_0 dX2_reads_50 ?_
    refine ng_callV_2x (y2 := mi_X2_readsRule) dX2_reads_51 lk_X2_47 ms_X2_readsRule my_X2_readsRule (by first | exact ⟨_, rfl⟩ | assumption | exact ng_fld_obj (f := 0) (by assumption)) mc_X2 (by first | decide | exact Nat.le_of_ble_eq_true rfl) (z) (by decide) ?_
    refine ng_ifb_eq 72 dX2_reads_54 (by decide +kernel) (fun h54 => ?_) (fun h54 => ?_)
    · refine ng_iconst_0 dX2_reads_72 ?_
      refine ng_istore_4 dX2_reads_73 (by first | rfl | assumption) ?_
      refine ng_iload_4 dX2_reads_75 ?_
      refine ng_if_eq 84 dX2_reads_77 (by decide +kernel) (fun h77 => ?_) (fun h77 => ?_)
      · refine ng_aload_0 dX2_reads_84 ?_
        refine ng_gI dX2_reads_85 fl_X2_41 (by first | rfl | assumption) ?_
        skip
        exact ng_ireturn dX2_reads_88 ⟨_, rfl, fin _ (by first | exact Or.inl ⟨⟨h54, by rw [hLN]; exact (nI_eq (by omega) (by omega)).mp h65⟩, rfl⟩ | exact Or.inr ⟨ng_tno1 h54, ng_RD_4⟩ | exact Or.inr ⟨fun z => h65 (by rw [z.2, hLN]), ng_RD_4⟩)⟩
      · exact absurd (by decide) h77
    · refine ng_aload_0 dX2_reads_57 ?_
      refine ng_gI dX2_reads_58 fl_X2_41 (by first | rfl | assumption) ?_
      refine ng_aload_0 dX2_reads_61 ?_
      refine ng_gI dX2_reads_62 fl_X2_32 (by first | rfl | assumption) ?_
      rw [ng_RD_4, ng_RD_3, hc.2.1]
      refine ng_icmp_ne 72 dX2_reads_65 (by decide +kernel) (fun h65 => ?_) (fun h65 => ?_)
      · refine ng_iconst_0 dX2_reads_72 ?_
        refine ng_istore_4 dX2_reads_73 (by first | rfl | assumption) ?_
        refine ng_iload_4 dX2_reads_75 ?_
        refine ng_if_eq 84 dX2_reads_77 (by decide +kernel) (fun h77 => ?_) (fun h77 => ?_)
        · refine ng_aload_0 dX2_reads_84 ?_
          refine ng_gI dX2_reads_85 fl_X2_41 (by first | rfl | assumption) ?_
          skip
          exact ng_ireturn dX2_reads_88 ⟨_, rfl, fin _ (by first | exact Or.inl ⟨⟨h54, by rw [hLN]; exact (nI_eq (by omega) (by omega)).mp h65⟩, rfl⟩ | exact Or.inr ⟨ng_tno1 h54, ng_RD_4⟩ | exact Or.inr ⟨fun z => h65 (by rw [z.2, hLN]), ng_RD_4⟩)⟩
        · exact absurd (by decide) h77
      · refine ng_iconst_1 dX2_reads_68 ?_
        refine ng_goto 73 dX2_reads_69 (by decide +kernel) ?_
        refine ng_istore_4 dX2_reads_73 (by first | rfl | assumption) ?_
        refine ng_iload_4 dX2_reads_75 ?_
        refine ng_if_eq 84 dX2_reads_77 (by decide +kernel) (fun h77 => ?_) (fun h77 => ?_)
        · exact absurd h77 (by decide)
        · refine ng_iconst_m1 dX2_reads_80 ?_
          refine ng_goto 88 dX2_reads_81 (by decide +kernel) ?_
          skip
          exact ng_ireturn dX2_reads_88 ⟨_, rfl, fin _ (by first | exact Or.inl ⟨⟨h54, by rw [hLN]; exact (nI_eq (by omega) (by omega)).mp h65⟩, rfl⟩ | exact Or.inr ⟨ng_tno1 h54, ng_RD_4⟩ | exact Or.inr ⟨fun z => h65 (by rw [z.2, hLN]), ng_RD_4⟩)⟩
  refine ng_EvI.of (lv := [some (.ref 60), some (.ref 18), some (.int (nI L)), some (.int u), none]) (ty := .int) (by decide) (Nat.le_of_ble_eq_true rfl) rfl rfl (fun _ _ _ => rfl) ?_
  refine ng_aload_0 dX2_reads_0 ?_
  refine ng_iload_3 dX2_reads_1 ?_
  refine ng_pI dX2_reads_2 fp_X2_18 (by first | rfl | assumption) rfl rfl ?_
  refine ng_aload_0 dX2_reads_5 ?_
  refine ng_iload_2 dX2_reads_6 ?_
  refine ng_iconst_0 dX2_reads_7 ?_
  refine ng_aload_1 dX2_reads_8 ?_
  refine ng_alen dX2_reads_9 (by first | rfl | assumption) ?_
  refine ng_aload_0 dX2_reads_10 ?_
  refine ng_gR dX2_reads_11 fl_X2_15 (by first | rfl | assumption) ?_
  refine ng_alen dX2_reads_14 (by first | rfl | assumption) ?_
  refine ng_mmin dX2_reads_15 lk_X2_22 mms_min li_J9 mmc_min (by first | decide | exact Nat.le_of_ble_eq_true rfl) ?_
  refine ng_callSN_3x (y2 := mi_X8_held) dX2_reads_18 (by decide : (RX2, 28, yX8_held, "NinePots") ∈ ng_nm) ms_X8_held my_X8_held (by first | decide | exact Nat.le_of_ble_eq_true rfl) (s_X8_held) (by decide) ?_
  rw [e50]
  refine ng_pI dX2_reads_21 fp_X2_32 (by first | rfl | assumption) rfl rfl ?_
  refine ng_aload_1 dX2_reads_24 ?_
  refine ng_iconst_0 dX2_reads_25 ?_
  refine ng_aload_0 dX2_reads_26 ?_
  refine ng_gR dX2_reads_27 fl_X2_15 (by first | rfl | assumption) ?_
  refine ng_iconst_0 dX2_reads_30 ?_
  refine ng_aload_0 dX2_reads_31 ?_
  refine ng_gI dX2_reads_32 fl_X2_32 (by first | rfl | assumption) ?_
  rw [e3]
  refine ng_arraycopy dX2_reads_35 lk_X2_35 mac_n mac_s li_J10 (by first | rfl | assumption) (by first | rfl | assumption) (by decide) (by decide) (nI_pos (by omega)) (by rw [c0, nI_clamp (by omega)]; omega) (by rw [c0, nI_clamp (by omega)]; omega) (by first | decide | exact Nat.le_of_ble_eq_true rfl) ?_
  rw [c0, nI_clamp (by omega)]
  refine ng_aload_0 dX2_reads_38 ?_
  refine ng_iconst_0 dX2_reads_39 ?_
  refine ng_pI dX2_reads_40 fp_X2_41 (by first | rfl | assumption) rfl rfl ?_
  refine ng_aload_0 dX2_reads_43 ?_
  refine ng_iconst_0 dX2_reads_44 ?_
  refine ng_pI dX2_reads_45 fp_X2_44 (by first | rfl | assumption) rfl rfl ?_
  refine key _ ⟨hH, by simp [ng_row, upd], by simp [ng_row, upd], hu, fun p hp => ?_⟩ (by simp [ng_row, upd]) (by simp [ng_row, upd]) (fun k hk => by simp at hk; simp [ng_row, hk])
  rw [eH p hp, ← h18 p (by omega)]
  simp [ng_row, upd, va_cpy, hp]
def ng_pT8 (M : ng_M) (u : Int32) (f : Nat) (v : Int32) (M1 : ng_M) : Prop := (ng_tOK (M 74) u ∧ v = 1 ∧ (∀ k, k ∉ [1, 60, 61, 62, f, f + 1] → M1 k = M k) ∧ M1 1 = upd (M 1) 4 0 ∧ M1 f 1 = nI (ng_tR (M 74) u).2.2.length ∧ ∀ j, j < (ng_tR (M 74) u).2.2.length → M1 (f + 1) j = ng_un ((ng_tR (M 74) u).2.2.getD j 0)) ∨ (¬ ng_tOK (M 74) u ∧ v = -10 - nI (ng_tR (M 74) u).2.1 ∧ (∀ k, k ∉ [1, 60, 61, 62] → M1 k = M k) ∧ M1 1 = upd (M 1) 4 0)
def ng_pT9 (M : ng_M) (u : Int32) (O : Nat) (v : Int32) (M2 : ng_M) : Prop := (∀ k, k ∉ [73, 74, 80] → M2 k = M k) ∧ M2 73 3 = M 73 3 ∧ M2 73 19 = M 73 19 ∧ ((ng_tOK (M 74) u ∧ v = 1 ∧ (∀ k, ¬ (O ≤ k ∧ k ≤ O + (ng_tR (M 74) u).2.2.length) → M2 74 k = upd (M 74) 8 0 k) ∧ M2 74 O = nI (ng_tR (M 74) u).2.2.length ∧ ∀ j, j < (ng_tR (M 74) u).2.2.length → M2 74 (O + 1 + j) = (ng_tR (M 74) u).2.2.getD j 0) ∨ (¬ ng_tOK (M 74) u ∧ v = -10 - nI (ng_tR (M 74) u).2.1 ∧ M2 74 = upd (M 74) 8 0))
theorem s_X3_formula_0 {X : Nat × (Nat → Int32)} {M : ng_M} : ng_EvX X 1 mi_X3_formula [.ref 2, .int 0] M (some (.ref 7)) M := by
  refine ng_EvX.ofR (lv := [some (.ref 2), some (.int 0)]) (by decide) (Nat.le_of_ble_eq_true rfl) rfl rfl ?_
  refine ng_iload_1 dX3_formula_0 ?_
  refine ng_if_ne 11 dX3_formula_1 (by decide +kernel) (fun h1 => ?_) (fun h1 => ?_)
  · exact absurd rfl h1
  · refine ng_aload_0 dX3_formula_4 ?_
    refine ng_gR dX3_formula_5 fl_X3_27 (by first | rfl | assumption) ?_
    refine ng_goto 15 dX3_formula_8 (by decide +kernel) ?_
    exact ng_areturn dX3_formula_15 ⟨rfl, rfl⟩
theorem c_text_0 {X : Nat × (Nat → Int32)} {M : ng_M} (h : ng_I1 M) : ng_EvI X 52 mi_X8_text [.ref 0, .int 0] M (ng_pT8 M 0 7) := by
  have hI := h.1.rl
  have e8 : M 1 4 = M 74 8 := hI.2.2.2.1
  obtain ⟨t1, t2, t3, t4⟩ := ng_tR_gd (u := 0) h.2
  refine ng_EvI.of (lv := [some (.ref 0), some (.int 0), none]) (ty := .int) (by decide) (Nat.le_of_ble_eq_true rfl) rfl rfl (fun _ _ _ => rfl) ?_
  refine ng_iload_1 dX8_text_0 ?_
  refine ng_iconst_0 dX8_text_1 ?_
  refine ng_iconst_1 dX8_text_2 ?_
  refine ng_callS_3x (y2 := mi_X8_isWithin) dX8_text_3 lk_X8_61 ms_X8_isWithin my_X8_isWithin (by first | decide | exact Nat.le_of_ble_eq_true rfl) (s_X8_isWithin) (by decide) ?_
  refine ng_ifb_ne 16 dX8_text_6 (by decide +kernel) (fun h6 => ?_) (fun h6 => ?_)
  · refine ng_aload_0 dX8_text_16 ?_
    refine ng_gR dX8_text_17 fl_X8_42 (by first | rfl | assumption) ?_
    refine ng_aload_0 dX8_text_20 ?_
    refine ng_gR dX8_text_21 fl_X8_12 (by first | rfl | assumption) ?_
    refine ng_gR dX8_text_24 fl_X8_158 (by first | rfl | assumption) ?_
    refine ng_aload_0 dX8_text_27 ?_
    refine ng_gR dX8_text_28 fl_X8_12 (by first | rfl | assumption) ?_
    refine ng_gI dX8_text_31 fl_X8_155 (by first | rfl | assumption) ?_
    refine ng_iload_1 dX8_text_34 ?_
    refine ng_callV_3i (y2 := mi_X2_reads) dX8_text_35 lk_X8_161 ms_X2_reads my_X2_reads (by first | exact ⟨_, rfl⟩ | assumption | exact ng_fld_obj (f := 0) (by assumption)) mc_X2 (by first | decide | exact Nat.le_of_ble_eq_true rfl) (s_X2_reads (u := 0) h (by decide) e8) (by decide) (fun v M2 hf => ?_)
    obtain ⟨f1, f2, f3, f4⟩ := hf
    refine ng_istore_2 dX8_text_38 (by first | rfl | assumption) ?_
    refine ng_aload_0 dX8_text_39 ?_
    refine ng_gR dX8_text_40 fl_X8_12 (by first | rfl | assumption) ?_
    refine ng_iconst_0 dX8_text_43 ?_
    refine ng_pI dX8_text_44 fp_X8_155 (by first | rfl | assumption) rfl rfl ?_
    refine ng_iload_2 dX8_text_47 ?_
    refine ng_if_lt 56 dX8_text_48 (by decide +kernel) (fun h48 => ?_) (fun h48 => ?_)
    · refine ng_aload_0 dX8_text_56 ?_
      refine ng_gR dX8_text_57 fl_X8_12 (by first | rfl | assumption) ?_
      refine ng_gR dX8_text_60 fl_X8_21 (by first | rfl | assumption) ?_
      refine ng_iload_1 dX8_text_63 ?_
      refine ng_callV_1x (y2 := mi_X3_formula) dX8_text_64 lk_X8_165 ms_X3_formula my_X3_formula (by first | exact ⟨_, rfl⟩ | assumption | exact ng_fld_obj (f := 0) (by assumption)) mc_X3 (by first | decide | exact Nat.le_of_ble_eq_true rfl) (s_X3_formula_0) (by decide) ?_
      refine ng_aload_0 dX8_text_67 ?_
      refine ng_gR dX8_text_68 fl_X8_42 (by first | rfl | assumption) ?_
      refine ng_gR dX8_text_71 fl_X8_169 (by first | rfl | assumption) ?_
      refine ng_aload_0 dX8_text_74 ?_
      refine ng_gR dX8_text_75 fl_X8_42 (by first | rfl | assumption) ?_
      refine ng_gI dX8_text_78 fl_X8_172 (by first | rfl | assumption) ?_
      have e1 : ng_row M2 1 (upd (M2 1) 4 0) 60 1 = nI (ng_tR (M 74) 0).2.2.length := by rw [ng_row_ne (by decide), f3]
      refine ng_callV_2v (y2 := mi_X0_take) dX8_text_81 lk_X8_175 ms_X0_take my_X0_take (by first | exact ⟨_, rfl⟩ | assumption | exact ng_fld_obj (f := 0) (by assumption)) mc_X0 (by first | decide | exact Nat.le_of_ble_eq_true rfl) (s_X0_take (f := 7) (c := 61) (n := (ng_tR (M 74) 0).2.2.length) (by unfold ng_isF; omega) rfl (by decide) e1 t3) (by decide) ?_
      refine ng_iconst_1 dX8_text_84 ?_
      exact ng_ireturn dX8_text_85 ⟨_, rfl, by
  have hok : ng_tOK (M 74) 0 ∧ v = -1 := f2.resolve_right (fun z => by rw [z.2] at h48; exact absurd h48 (nI_pos (by omega)))
  refine Or.inl ⟨hok.1, rfl, fun k hk => ?_, ?_, ?_, fun j hj => ?_⟩
  · simp at hk
    rw [ng_row_ne (by omega), ng_row_ne (by omega), ng_row_ne (by omega)]
    exact f1 k (by simp; omega)
  · rw [ng_row_ne (by decide), ng_row_ne (by decide), ng_row_eq, f1 1 (by decide)]
  · rw [ng_row_ne (by decide), ng_row_eq, ng_upd_eq, e1]
  · rw [ng_row_eq, va_cpy, if_pos (by omega), show 0 + (j - 0) = j by omega, ng_row_ne (by decide)]
    exact f4 j hj⟩
    · refine ng_bipush (v := (-10)) dX8_text_51 (by decide) ?_
      refine ng_iload_2 dX8_text_53 ?_
      refine ng_isub dX8_text_54 ?_
      exact ng_ireturn dX8_text_55 ⟨_, rfl, by
  have hno : ¬ ng_tOK (M 74) 0 ∧ v = nI (ng_tR (M 74) 0).2.1 := f2.resolve_left (fun z => h48 (by rw [z.2]; decide))
  refine Or.inr ⟨hno.1, by rw [hno.2], fun k hk => ?_, by rw [ng_row_eq, f1 1 (by decide)]⟩
  simp at hk
  rw [ng_row_ne (by omega)]
  exact f1 k (by simp; omega)⟩
  · exact absurd h6 (by decide)
theorem l_X9_text_0 {X : Nat × (Nat → Int32)} {Mb : ng_M} {n d : Nat} {cs : List Int32} (hn : n ≤ 50) (e12 : Mb 73 12 = nI n) (e9 : Mb 73 9 = 0) (e80 : ∀ j, j < n → Mb 80 j = cs.getD j 0) : ∀ (m k : Nat) (Mx : ng_M), k + m = n → ng_off [74] Mb Mx → (∀ j, Mx 74 j = if 124 ≤ j ∧ j < 124 + k then cs.getD (j - 124) 0 else Mb 74 j) →
    ng_Go X mi_X9_text d 119 [some (.ref 73), some (.int 0), some (.int (nI k))] [] Mx (fun r' M' => r' = some (.int 1) ∧ ng_off [74] Mb M' ∧ ∀ j, M' 74 j = if 124 ≤ j ∧ j < 124 + n then cs.getD (j - 124) 0 else Mb 74 j) := by
  intro m
  induction m with
  | zero =>
    intro k Mx hk ho h
    have hk2 : k = n := by omega
    subst hk2
    have x12 : Mx 73 12 = nI k := by rw [ho 73 (by decide), e12]
    refine ng_iload_2 dX9_text_119 ?_
    refine ng_aload_0 dX9_text_120 ?_
    refine ng_gI dX9_text_121 fl_X9_152 (by first | rfl | assumption) ?_
    rw [x12]
    refine ng_icmp_ge 158 dX9_text_124 (by decide +kernel) (fun h124 => ?_) (fun h124 => ?_)
    · refine ng_iconst_1 dX9_text_158 ?_
      exact ng_ireturn dX9_text_159 ⟨rfl, ho, h⟩
    · exact absurd (Int32.le_refl _) h124
  | succ m ih =>
    intro k Mx hk ho h
    have x12 : Mx 73 12 = nI n := by rw [ho 73 (by decide), e12]
    have x9 : Mx 73 9 = 0 := by rw [ho 73 (by decide), e9]
    have hix : (123 : Int32) + 52 * 0 + 1 + nI k = nI (124 + k) := by rw [show (123 : Int32) + 52 * 0 + 1 = nI 124 by decide, nI_add]
    refine ng_iload_2 dX9_text_119 ?_
    refine ng_aload_0 dX9_text_120 ?_
    refine ng_gI dX9_text_121 fl_X9_152 (by first | rfl | assumption) ?_
    rw [x12]
    refine ng_icmp_ge 158 dX9_text_124 (by decide +kernel) (fun h124 => ?_) (fun h124 => ?_)
    · exact absurd h124 (nI_ge (by omega) (by omega))
    · refine ng_aload_0 dX9_text_127 ?_
      refine ng_gR dX9_text_128 fl_X9_9 (by first | rfl | assumption) ?_
      refine ng_bipush (v := 123) dX9_text_131 (by decide) ?_
      refine ng_bipush (v := 52) dX9_text_133 (by decide) ?_
      refine ng_aload_0 dX9_text_135 ?_
      refine ng_gI dX9_text_136 fl_X9_177 (by first | rfl | assumption) ?_
      rw [x9]
      refine ng_imul dX9_text_139 ?_
      refine ng_iadd dX9_text_140 ?_
      refine ng_iconst_1 dX9_text_141 ?_
      refine ng_iadd dX9_text_142 ?_
      refine ng_iload_2 dX9_text_143 ?_
      refine ng_iadd dX9_text_144 ?_
      rw [hix]
      refine ng_aload_0 dX9_text_145 ?_
      refine ng_gR dX9_text_146 fl_X9_36 (by first | rfl | assumption) ?_
      refine ng_iload_2 dX9_text_149 ?_
      refine ng_ialdL (j := k) dX9_text_150 (by first | rfl | assumption) (by exact vp_in_nI (by omega) (by omega)) (by exact nI_clamp (by omega)) ?_
      refine ng_iastL (j := (124 + k)) dX9_text_151 (by first | rfl | assumption) (by exact vp_in_nI (by omega) (by omega)) (by exact nI_clamp (by omega)) ?_
      refine ng_iinc_2 (w := 1) dX9_text_152 (by decide) rfl ?_
      refine ng_goto 119 dX9_text_155 (by decide +kernel) ?_
      rw [nI_1]
      refine ih (k + 1) _ (by omega) (ho.row (by simp)) (fun j => ?_)
      rw [ng_row_eq]
      by_cases q : j = 124 + k
      · subst q
        rw [ng_upd_eq, if_pos (by omega), ho 80 (by decide), e80 k (by omega), show 124 + k - 124 = k by omega]
      · rw [ng_upd_ne q, h j]
        by_cases q2 : 124 ≤ j ∧ j < 124 + k
        · rw [if_pos q2, if_pos (by omega)]
        · rw [if_neg q2, if_neg (by omega)]
theorem s_X3_formula_1 {X : Nat × (Nat → Int32)} {M : ng_M} : ng_EvX X 1 mi_X3_formula [.ref 2, .int 1] M (some (.ref 11)) M := by
  refine ng_EvX.ofR (lv := [some (.ref 2), some (.int 1)]) (by decide) (Nat.le_of_ble_eq_true rfl) rfl rfl ?_
  refine ng_iload_1 dX3_formula_0 ?_
  refine ng_if_ne 11 dX3_formula_1 (by decide +kernel) (fun h1 => ?_) (fun h1 => ?_)
  · refine ng_aload_0 dX3_formula_11 ?_
    refine ng_gR dX3_formula_12 fl_X3_31 (by first | rfl | assumption) ?_
    exact ng_areturn dX3_formula_15 ⟨rfl, rfl⟩
  · exact absurd h1 (by decide)
theorem c_text_1 {X : Nat × (Nat → Int32)} {M : ng_M} (h : ng_I1 M) : ng_EvI X 52 mi_X8_text [.ref 0, .int 1] M (ng_pT8 M 1 11) := by
  have hI := h.1.rl
  have e8 : M 1 4 = M 74 8 := hI.2.2.2.1
  obtain ⟨t1, t2, t3, t4⟩ := ng_tR_gd (u := 1) h.2
  refine ng_EvI.of (lv := [some (.ref 0), some (.int 1), none]) (ty := .int) (by decide) (Nat.le_of_ble_eq_true rfl) rfl rfl (fun _ _ _ => rfl) ?_
  refine ng_iload_1 dX8_text_0 ?_
  refine ng_iconst_0 dX8_text_1 ?_
  refine ng_iconst_1 dX8_text_2 ?_
  refine ng_callS_3x (y2 := mi_X8_isWithin) dX8_text_3 lk_X8_61 ms_X8_isWithin my_X8_isWithin (by first | decide | exact Nat.le_of_ble_eq_true rfl) (s_X8_isWithin) (by decide) ?_
  refine ng_ifb_ne 16 dX8_text_6 (by decide +kernel) (fun h6 => ?_) (fun h6 => ?_)
  · refine ng_aload_0 dX8_text_16 ?_
    refine ng_gR dX8_text_17 fl_X8_42 (by first | rfl | assumption) ?_
    refine ng_aload_0 dX8_text_20 ?_
    refine ng_gR dX8_text_21 fl_X8_12 (by first | rfl | assumption) ?_
    refine ng_gR dX8_text_24 fl_X8_158 (by first | rfl | assumption) ?_
    refine ng_aload_0 dX8_text_27 ?_
    refine ng_gR dX8_text_28 fl_X8_12 (by first | rfl | assumption) ?_
    refine ng_gI dX8_text_31 fl_X8_155 (by first | rfl | assumption) ?_
    refine ng_iload_1 dX8_text_34 ?_
    refine ng_callV_3i (y2 := mi_X2_reads) dX8_text_35 lk_X8_161 ms_X2_reads my_X2_reads (by first | exact ⟨_, rfl⟩ | assumption | exact ng_fld_obj (f := 0) (by assumption)) mc_X2 (by first | decide | exact Nat.le_of_ble_eq_true rfl) (s_X2_reads (u := 1) h (by decide) e8) (by decide) (fun v M2 hf => ?_)
    obtain ⟨f1, f2, f3, f4⟩ := hf
    refine ng_istore_2 dX8_text_38 (by first | rfl | assumption) ?_
    refine ng_aload_0 dX8_text_39 ?_
    refine ng_gR dX8_text_40 fl_X8_12 (by first | rfl | assumption) ?_
    refine ng_iconst_0 dX8_text_43 ?_
    refine ng_pI dX8_text_44 fp_X8_155 (by first | rfl | assumption) rfl rfl ?_
    refine ng_iload_2 dX8_text_47 ?_
    refine ng_if_lt 56 dX8_text_48 (by decide +kernel) (fun h48 => ?_) (fun h48 => ?_)
    · refine ng_aload_0 dX8_text_56 ?_
      refine ng_gR dX8_text_57 fl_X8_12 (by first | rfl | assumption) ?_
      refine ng_gR dX8_text_60 fl_X8_21 (by first | rfl | assumption) ?_
      refine ng_iload_1 dX8_text_63 ?_
      refine ng_callV_1x (y2 := mi_X3_formula) dX8_text_64 lk_X8_165 ms_X3_formula my_X3_formula (by first | exact ⟨_, rfl⟩ | assumption | exact ng_fld_obj (f := 0) (by assumption)) mc_X3 (by first | decide | exact Nat.le_of_ble_eq_true rfl) (s_X3_formula_1) (by decide) ?_
      refine ng_aload_0 dX8_text_67 ?_
      refine ng_gR dX8_text_68 fl_X8_42 (by first | rfl | assumption) ?_
      refine ng_gR dX8_text_71 fl_X8_169 (by first | rfl | assumption) ?_
      refine ng_aload_0 dX8_text_74 ?_
      refine ng_gR dX8_text_75 fl_X8_42 (by first | rfl | assumption) ?_
      refine ng_gI dX8_text_78 fl_X8_172 (by first | rfl | assumption) ?_
      have e1 : ng_row M2 1 (upd (M2 1) 4 0) 60 1 = nI (ng_tR (M 74) 1).2.2.length := by rw [ng_row_ne (by decide), f3]
      refine ng_callV_2v (y2 := mi_X0_take) dX8_text_81 lk_X8_175 ms_X0_take my_X0_take (by first | exact ⟨_, rfl⟩ | assumption | exact ng_fld_obj (f := 0) (by assumption)) mc_X0 (by first | decide | exact Nat.le_of_ble_eq_true rfl) (s_X0_take (f := 11) (c := 61) (n := (ng_tR (M 74) 1).2.2.length) (by unfold ng_isF; omega) rfl (by decide) e1 t3) (by decide) ?_
      refine ng_iconst_1 dX8_text_84 ?_
      exact ng_ireturn dX8_text_85 ⟨_, rfl, by
  have hok : ng_tOK (M 74) 1 ∧ v = -1 := f2.resolve_right (fun z => by rw [z.2] at h48; exact absurd h48 (nI_pos (by omega)))
  refine Or.inl ⟨hok.1, rfl, fun k hk => ?_, ?_, ?_, fun j hj => ?_⟩
  · simp at hk
    rw [ng_row_ne (by omega), ng_row_ne (by omega), ng_row_ne (by omega)]
    exact f1 k (by simp; omega)
  · rw [ng_row_ne (by decide), ng_row_ne (by decide), ng_row_eq, f1 1 (by decide)]
  · rw [ng_row_ne (by decide), ng_row_eq, ng_upd_eq, e1]
  · rw [ng_row_eq, va_cpy, if_pos (by omega), show 0 + (j - 0) = j by omega, ng_row_ne (by decide)]
    exact f4 j hj⟩
    · refine ng_bipush (v := (-10)) dX8_text_51 (by decide) ?_
      refine ng_iload_2 dX8_text_53 ?_
      refine ng_isub dX8_text_54 ?_
      exact ng_ireturn dX8_text_55 ⟨_, rfl, by
  have hno : ¬ ng_tOK (M 74) 1 ∧ v = nI (ng_tR (M 74) 1).2.1 := f2.resolve_left (fun z => h48 (by rw [z.2]; decide))
  refine Or.inr ⟨hno.1, by rw [hno.2], fun k hk => ?_, by rw [ng_row_eq, f1 1 (by decide)]⟩
  simp at hk
  rw [ng_row_ne (by omega)]
  exact f1 k (by simp; omega)⟩
  · exact absurd h6 (by decide)
theorem l_X9_text_1 {X : Nat × (Nat → Int32)} {Mb : ng_M} {n d : Nat} {cs : List Int32} (hn : n ≤ 50) (e12 : Mb 73 12 = nI n) (e9 : Mb 73 9 = 1) (e80 : ∀ j, j < n → Mb 80 j = cs.getD j 0) : ∀ (m k : Nat) (Mx : ng_M), k + m = n → ng_off [74] Mb Mx → (∀ j, Mx 74 j = if 176 ≤ j ∧ j < 176 + k then cs.getD (j - 176) 0 else Mb 74 j) →
    ng_Go X mi_X9_text d 119 [some (.ref 73), some (.int 1), some (.int (nI k))] [] Mx (fun r' M' => r' = some (.int 1) ∧ ng_off [74] Mb M' ∧ ∀ j, M' 74 j = if 176 ≤ j ∧ j < 176 + n then cs.getD (j - 176) 0 else Mb 74 j) := by
  intro m
  induction m with
  | zero =>
    intro k Mx hk ho h
    have hk2 : k = n := by omega
    subst hk2
    have x12 : Mx 73 12 = nI k := by rw [ho 73 (by decide), e12]
    refine ng_iload_2 dX9_text_119 ?_
    refine ng_aload_0 dX9_text_120 ?_
    refine ng_gI dX9_text_121 fl_X9_152 (by first | rfl | assumption) ?_
    rw [x12]
    refine ng_icmp_ge 158 dX9_text_124 (by decide +kernel) (fun h124 => ?_) (fun h124 => ?_)
    · refine ng_iconst_1 dX9_text_158 ?_
      exact ng_ireturn dX9_text_159 ⟨rfl, ho, h⟩
    · exact absurd (Int32.le_refl _) h124
  | succ m ih =>
    intro k Mx hk ho h
    have x12 : Mx 73 12 = nI n := by rw [ho 73 (by decide), e12]
    have x9 : Mx 73 9 = 1 := by rw [ho 73 (by decide), e9]
    have hix : (123 : Int32) + 52 * 1 + 1 + nI k = nI (176 + k) := by rw [show (123 : Int32) + 52 * 1 + 1 = nI 176 by decide, nI_add]
    refine ng_iload_2 dX9_text_119 ?_
    refine ng_aload_0 dX9_text_120 ?_
    refine ng_gI dX9_text_121 fl_X9_152 (by first | rfl | assumption) ?_
    rw [x12]
    refine ng_icmp_ge 158 dX9_text_124 (by decide +kernel) (fun h124 => ?_) (fun h124 => ?_)
    · exact absurd h124 (nI_ge (by omega) (by omega))
    · refine ng_aload_0 dX9_text_127 ?_
      refine ng_gR dX9_text_128 fl_X9_9 (by first | rfl | assumption) ?_
      refine ng_bipush (v := 123) dX9_text_131 (by decide) ?_
      refine ng_bipush (v := 52) dX9_text_133 (by decide) ?_
      refine ng_aload_0 dX9_text_135 ?_
      refine ng_gI dX9_text_136 fl_X9_177 (by first | rfl | assumption) ?_
      rw [x9]
      refine ng_imul dX9_text_139 ?_
      refine ng_iadd dX9_text_140 ?_
      refine ng_iconst_1 dX9_text_141 ?_
      refine ng_iadd dX9_text_142 ?_
      refine ng_iload_2 dX9_text_143 ?_
      refine ng_iadd dX9_text_144 ?_
      rw [hix]
      refine ng_aload_0 dX9_text_145 ?_
      refine ng_gR dX9_text_146 fl_X9_36 (by first | rfl | assumption) ?_
      refine ng_iload_2 dX9_text_149 ?_
      refine ng_ialdL (j := k) dX9_text_150 (by first | rfl | assumption) (by exact vp_in_nI (by omega) (by omega)) (by exact nI_clamp (by omega)) ?_
      refine ng_iastL (j := (176 + k)) dX9_text_151 (by first | rfl | assumption) (by exact vp_in_nI (by omega) (by omega)) (by exact nI_clamp (by omega)) ?_
      refine ng_iinc_2 (w := 1) dX9_text_152 (by decide) rfl ?_
      refine ng_goto 119 dX9_text_155 (by decide +kernel) ?_
      rw [nI_1]
      refine ih (k + 1) _ (by omega) (ho.row (by simp)) (fun j => ?_)
      rw [ng_row_eq]
      by_cases q : j = 176 + k
      · subst q
        rw [ng_upd_eq, if_pos (by omega), ho 80 (by decide), e80 k (by omega), show 176 + k - 176 = k by omega]
      · rw [ng_upd_ne q, h j]
        by_cases q2 : 176 ≤ j ∧ j < 176 + k
        · rw [if_pos q2, if_pos (by omega)]
        · rw [if_neg q2, if_neg (by omega)]
theorem ng_rr {M : ng_M} {k : Nat} {a b : Nat → Int32} : ng_row (ng_row M k a) k b = ng_row M k b := by
  funext j
  by_cases q : j = k
  · subst q; rw [ng_row_eq, ng_row_eq]
  · rw [ng_row_ne q, ng_row_ne q, ng_row_ne q]
theorem ng_RF_start {M : ng_M} : ng_row (ng_row (ng_row (ng_row M 73 (upd (M 73) 7 0)) 73 (upd ((ng_row M 73 (upd (M 73) 7 0)) 73) 8 0)) 73 (upd ((ng_row (ng_row M 73 (upd (M 73) 7 0)) 73 (upd ((ng_row M 73 (upd (M 73) 7 0)) 73) 8 0)) 73) 10 0)) 73 (upd ((ng_row (ng_row (ng_row M 73 (upd (M 73) 7 0)) 73 (upd ((ng_row M 73 (upd (M 73) 7 0)) 73) 8 0)) 73 (upd ((ng_row (ng_row M 73 (upd (M 73) 7 0)) 73 (upd ((ng_row M 73 (upd (M 73) 7 0)) 73) 8 0)) 73) 10 0)) 73) 12 0) = ng_RF M 0 [] 0 false := by
  simp only [ng_row_eq, ng_rr]
  funext k
  by_cases q : k = 73
  · subst q
    rw [ng_row_eq, ng_RF_73]
    funext j
    unfold ng_fl
    by_cases q12 : j = 12
    · subst q12; rw [ng_upd_eq]; rfl
    · rw [ng_upd_ne q12]
      by_cases q10 : j = 10
      · subst q10; rw [ng_upd_eq]; rfl
      · rw [ng_upd_ne q10]
        by_cases q8 : j = 8
        · subst q8; rw [ng_upd_eq]; rfl
        · rw [ng_upd_ne q8]
          by_cases q7 : j = 7
          · subst q7; rw [ng_upd_eq]; rfl
          · rw [ng_upd_ne q7, if_neg q7, if_neg q8, if_neg q10, if_neg q12]
  · rw [ng_row_ne q]
    by_cases q2 : k = 80
    · subst q2
      rw [ng_RF_80]
      funext j
      unfold ng_cl
      rw [if_neg (by simp)]
    · rw [ng_RF_o k (by simp; omega)]
theorem w_X9_text {X : Nat × (Nat → Int32)} {M : ng_M} {q d : Nat} {cs : List Int32} {u : Int32} {w : Bool} {x2 : Option Value} {F : Option Value → ng_M → Prop} (k : F (some (.int (-10 - nI q))) (ng_row (ng_RF M q cs 0 true) 74 (upd (ng_RF M q cs 0 true 74) 8 0))) : ng_Go X mi_X9_text d 67 [some (.ref 73), some (.int u), x2] [.ref 73] (ng_RF M q cs 0 w) F := by
  refine ng_iconst_1 dX9_text_67 ?_
  refine ng_goto 72 dX9_text_68 (by decide +kernel) ?_
  refine ng_pI dX9_text_72 fp_X9_140 (by first | rfl | assumption) rfl rfl ?_
  rw [ng_RF_w1]
  refine ng_aload_0 dX9_text_75 ?_
  refine ng_gR dX9_text_76 fl_X9_9 (by first | rfl | assumption) ?_
  refine ng_bipush (v := 8) dX9_text_79 (by decide) ?_
  refine ng_iconst_0 dX9_text_81 ?_
  refine ng_iastL (j := 8) dX9_text_82 (by first | rfl | assumption) (by first | assumption | (unfold vp_in; decide)) (by decide) ?_
  refine ng_aload_0 dX9_text_83 ?_
  refine ng_gI dX9_text_84 fl_X9_140 (by first | rfl | assumption) ?_
  rw [ng_row_ne (by decide), ng_RF_10]
  refine ng_ifb_eq 98 dX9_text_87 (by decide +kernel) (fun h87 => ?_) (fun h87 => ?_)
  · exact absurd h87 (by decide)
  · refine ng_bipush (v := (-10)) dX9_text_90 (by decide) ?_
    refine ng_aload_0 dX9_text_92 ?_
    refine ng_gI dX9_text_93 fl_X9_144 (by first | rfl | assumption) ?_
    rw [ng_row_ne (by decide), ng_RF_7]
    refine ng_isub dX9_text_96 ?_
    exact ng_ireturn dX9_text_97 k
theorem o_X9_text_0 {X : Nat × (Nat → Int32)} {M : ng_M} {q d : Nat} {cs : List Int32} {w : Bool} {x2 : Option Value} {F : Option Value → ng_M → Prop} (hn : cs.length ≤ 50) (h9 : M 73 9 = 0) (k : ∀ M' : ng_M, ng_off [73, 74, 80] M M' → (∀ f, f = 3 ∨ f = 19 → M' 73 f = M 73 f) → (∀ k, ¬ (123 ≤ k ∧ k ≤ 123 + cs.length) → M' 74 k = upd (M 74) 8 0 k) → M' 74 123 = nI cs.length → (∀ j, j < cs.length → M' 74 (123 + 1 + j) = cs.getD j 0) → F (some (.int 1)) M') : ng_Go X mi_X9_text d 71 [some (.ref 73), some (.int 0), x2] [.ref 73] (ng_RF M q cs 0 w) F := by
  refine ng_iconst_0 dX9_text_71 ?_
  refine ng_pI dX9_text_72 fp_X9_140 (by first | rfl | assumption) rfl rfl ?_
  rw [ng_RF_w0]
  refine ng_aload_0 dX9_text_75 ?_
  refine ng_gR dX9_text_76 fl_X9_9 (by first | rfl | assumption) ?_
  refine ng_bipush (v := 8) dX9_text_79 (by decide) ?_
  refine ng_iconst_0 dX9_text_81 ?_
  refine ng_iastL (j := 8) dX9_text_82 (by first | rfl | assumption) (by first | assumption | (unfold vp_in; decide)) (by decide) ?_
  refine ng_aload_0 dX9_text_83 ?_
  refine ng_gI dX9_text_84 fl_X9_140 (by first | rfl | assumption) ?_
  rw [ng_row_ne (by decide), ng_RF_10]
  refine ng_ifb_eq 98 dX9_text_87 (by decide +kernel) (fun h87 => ?_) (fun h87 => ?_)
  · have f9 : (ng_row (ng_RF M q cs 0 false) 74 (upd (ng_RF M q cs 0 false 74) 8 0)) 73 = ng_RF M q cs 0 false 73 := ng_row_ne (by decide)
    refine ng_aload_0 dX9_text_98 ?_
    refine ng_gR dX9_text_99 fl_X9_9 (by first | rfl | assumption) ?_
    refine ng_bipush (v := 123) dX9_text_102 (by decide) ?_
    refine ng_bipush (v := 52) dX9_text_104 (by decide) ?_
    refine ng_aload_0 dX9_text_106 ?_
    refine ng_gI dX9_text_107 fl_X9_177 (by first | rfl | assumption) ?_
    rw [f9, ng_RF_9, h9]
    refine ng_imul dX9_text_110 ?_
    refine ng_iadd dX9_text_111 ?_
    rw [show (123 : Int32) + 52 * 0 = nI 123 by decide]
    refine ng_aload_0 dX9_text_112 ?_
    refine ng_gI dX9_text_113 fl_X9_152 (by first | rfl | assumption) ?_
    rw [f9, ng_RF_12]
    refine ng_iastL (j := 123) dX9_text_116 (by first | rfl | assumption) (by exact vp_in_nI (by omega) (by omega)) (by exact nI_clamp (by omega)) ?_
    refine ng_iconst_0 dX9_text_117 ?_
    refine ng_istore_2 dX9_text_118 (by first | rfl | assumption) ?_
    have x74 : ∀ Mz : ng_M, Mz = ng_RF M q cs 0 false → Mz 74 = M 74 := fun Mz e => by rw [e, ng_RF_74]
    refine (l_X9_text_0 (cs := cs) hn ?_ ?_ ?_ cs.length 0 _ (by omega) ng_off.rf (fun j => by rw [if_neg (by omega)])).imp (fun r M' hz => ?_)
    · rw [ng_row_ne (by decide), f9, ng_RF_12]
    · rw [ng_row_ne (by decide), f9, ng_RF_9, h9]
    · intro j hj
      rw [ng_row_ne (by decide), ng_row_ne (by decide), ng_RF_80, ng_cl, if_pos hj]
    · obtain ⟨z1, z2, z3⟩ := hz
      rw [z1]
      refine k M' (fun k hk => ?_) (fun f hf => ?_) (fun k hk => ?_) ?_ (fun j hj => ?_)
      · simp at hk
        rw [z2 k (by simp; omega), ng_row_ne (by omega), ng_row_ne (by omega), ng_RF_o k (by simp; omega)]
      · rw [z2 73 (by decide), ng_row_ne (by decide), f9, ng_RF_73]
        rcases hf with rfl | rfl <;> rfl
      · rw [z3 k, if_neg (by omega), ng_row_eq, ng_upd_ne (by omega), ng_row_eq, ng_RF_74]
      · rw [z3 123, if_neg (by omega), ng_row_eq, ng_upd_eq]
      · rw [z3 (123 + 1 + j), if_pos (by omega), show 123 + 1 + j - 124 = j by omega]
  · exact absurd h87 (by decide)
theorem r_text_0 {X : Nat × (Nat → Int32)} {M : ng_M} (h : ng_ok (M 74)) : ng_EvI X 42 mi_X9_text [.ref 73, .int 0] M (ng_pT9 M 0 123) := by
  obtain ⟨hH, hL⟩ := ng_tH_ok h
  obtain ⟨t1, t2, t3, t4⟩ := ng_tR_gd (u := 0) h
  have e0 : (ng_row M 73 (upd (M 73) 9 0)) 74 = M 74 := ng_row_ne (by decide)
  have hG : ng_RG (ng_row M 73 (upd (M 73) 9 0)) (ng_tH (M 74)) (M 74 8).toNatClampNeg 0 := ⟨hH, by rw [e0]; exact hL, by rw [ng_row_eq, ng_upd_eq], by decide, fun p hp => by rw [e0]; unfold ng_tH; rw [if_pos hp]⟩
  have z : ng_EvX X 41 mi_X9_either [.ref 73] (ng_RF (ng_row M 73 (upd (M 73) 9 0)) 0 [] 0 false) none (ng_RF (ng_row M 73 (upd (M 73) 9 0)) (ng_tR (M 74) 0).2.1 (ng_tR (M 74) 0).2.2 0 (!(ng_tR (M 74) 0).1)) := s_X9_read (X := X) hG 0 [] (by omega) (by simp)
  have h9 : (ng_row M 73 (upd (M 73) 9 0)) 73 9 = 0 := by rw [ng_row_eq, ng_upd_eq]
  have h73 : ∀ f, f = 3 ∨ f = 19 → (ng_row M 73 (upd (M 73) 9 0)) 73 f = M 73 f := fun f hf => by rw [ng_row_eq, ng_upd_ne (by omega)]
  have hoM : ng_off [73] M (ng_row M 73 (upd (M 73) 9 0)) := ng_off.rf.row (by simp)
  refine ng_EvI.of (lv := [some (.ref 73), some (.int 0), none]) (ty := .int) (by decide) (Nat.le_of_ble_eq_true rfl) rfl rfl (fun _ _ _ => rfl) ?_
  refine ng_iload_1 dX9_text_0 ?_
  refine ng_iconst_0 dX9_text_1 ?_
  refine ng_iconst_1 dX9_text_2 ?_
  refine ng_callS_3x (y2 := mi_X9_within) dX9_text_3 lk_X9_80 ms_X9_within my_X9_within (by first | decide | exact Nat.le_of_ble_eq_true rfl) (s_X9_within) (by decide) ?_
  refine ng_ifb_ne 16 dX9_text_6 (by decide +kernel) (fun h6 => ?_) (fun h6 => ?_)
  · refine ng_aload_0 dX9_text_16 ?_
    refine ng_iload_1 dX9_text_17 ?_
    refine ng_pI dX9_text_18 fp_X9_177 (by first | rfl | assumption) rfl rfl ?_
    generalize hMb : ng_row M 73 (upd (M 73) 9 0) = Mb at *
    refine ng_aload_0 dX9_text_21 ?_
    refine ng_iconst_0 dX9_text_22 ?_
    refine ng_pI dX9_text_23 fp_X9_144 (by first | rfl | assumption) rfl rfl ?_
    refine ng_aload_0 dX9_text_26 ?_
    refine ng_iconst_0 dX9_text_27 ?_
    refine ng_pI dX9_text_28 fp_X9_187 (by first | rfl | assumption) rfl rfl ?_
    refine ng_aload_0 dX9_text_31 ?_
    refine ng_iconst_0 dX9_text_32 ?_
    refine ng_pI dX9_text_33 fp_X9_140 (by first | rfl | assumption) rfl rfl ?_
    refine ng_aload_0 dX9_text_36 ?_
    refine ng_iconst_0 dX9_text_37 ?_
    refine ng_pI dX9_text_38 fp_X9_152 (by first | rfl | assumption) rfl rfl ?_
    rw [ng_RF_start]
    refine ng_aload_0 dX9_text_41 ?_
    refine ng_callV_0v (y2 := mi_X9_either) dX9_text_42 lk_X9_190 ms_X9_either my_X9_either (by first | exact ⟨_, rfl⟩ | assumption | exact ng_fld_obj (f := 0) (by assumption)) mc_X9 (by first | decide | exact Nat.le_of_ble_eq_true rfl) (z) (by decide) ?_
    refine ng_aload_0 dX9_text_45 ?_
    refine ng_aload_0 dX9_text_46 ?_
    refine ng_gI dX9_text_47 fl_X9_140 (by first | rfl | assumption) ?_
    rw [ng_RF_10]
    refine ng_ifb_ne 67 dX9_text_50 (by decide +kernel) (fun h50 => ?_) (fun h50 => ?_)
    · have hT : ¬ ng_tOK (M 74) 0 := by
        first
        | exact ng_tno2 h50
        | exact fun z => h64 (by rw [z.2]; exact Int32.le_refl _)
      refine w_X9_text ⟨_, rfl, fun k hk => ?_, ?_, ?_, Or.inr ⟨hT, rfl, ?_⟩⟩
      · simp at hk
        rw [ng_row_ne (by omega), ng_RF_o k (by simp; omega)]
        exact hoM k (by simp; omega)
      · rw [ng_row_ne (by decide), ng_RF_73]
        exact h73 3 (by decide)
      · rw [ng_row_ne (by decide), ng_RF_73]
        exact h73 19 (by decide)
      · rw [ng_row_eq, ng_RF_74, e0]
    · refine ng_aload_0 dX9_text_53 ?_
      refine ng_gI dX9_text_54 fl_X9_144 (by first | rfl | assumption) ?_
      refine ng_aload_0 dX9_text_57 ?_
      refine ng_gR dX9_text_58 fl_X9_9 (by first | rfl | assumption) ?_
      refine ng_bipush (v := 8) dX9_text_61 (by decide) ?_
      refine ng_ialdL (j := 8) dX9_text_63 (by first | rfl | assumption) (by first | assumption | (unfold vp_in; decide)) (by decide) ?_
      rw [ng_RF_7, ng_RF_74, e0, hL]
      refine ng_icmp_ge 71 dX9_text_64 (by decide +kernel) (fun h64 => ?_) (fun h64 => ?_)
      · have hT : ng_tOK (M 74) 0 := ⟨by simpa using h50, Nat.le_antisymm t1 ((nI_leI (by omega) (by omega)).mp h64)⟩
        refine o_X9_text_0 t3 h9 (fun M' o1 o2 o3 o4 o5 => ⟨_, rfl, fun k hk => ?_, ?_, ?_, Or.inl ⟨hT, rfl, fun k hk => ?_, o4, o5⟩⟩)
        · rw [o1 k hk]; exact hoM k (by simp at hk ⊢; omega)
        · rw [o2 3 (by decide)]; exact h73 3 (by decide)
        · rw [o2 19 (by decide)]; exact h73 19 (by decide)
        · rw [o3 k hk, e0]
      · have hT : ¬ ng_tOK (M 74) 0 := by
          first
          | exact ng_tno2 h50
          | exact fun z => h64 (by rw [z.2]; exact Int32.le_refl _)
        refine w_X9_text ⟨_, rfl, fun k hk => ?_, ?_, ?_, Or.inr ⟨hT, rfl, ?_⟩⟩
        · simp at hk
          rw [ng_row_ne (by omega), ng_RF_o k (by simp; omega)]
          exact hoM k (by simp; omega)
        · rw [ng_row_ne (by decide), ng_RF_73]
          exact h73 3 (by decide)
        · rw [ng_row_ne (by decide), ng_RF_73]
          exact h73 19 (by decide)
        · rw [ng_row_eq, ng_RF_74, e0]
  · exact absurd h6 (by decide)
theorem o_X9_text_1 {X : Nat × (Nat → Int32)} {M : ng_M} {q d : Nat} {cs : List Int32} {w : Bool} {x2 : Option Value} {F : Option Value → ng_M → Prop} (hn : cs.length ≤ 50) (h9 : M 73 9 = 1) (k : ∀ M' : ng_M, ng_off [73, 74, 80] M M' → (∀ f, f = 3 ∨ f = 19 → M' 73 f = M 73 f) → (∀ k, ¬ (175 ≤ k ∧ k ≤ 175 + cs.length) → M' 74 k = upd (M 74) 8 0 k) → M' 74 175 = nI cs.length → (∀ j, j < cs.length → M' 74 (175 + 1 + j) = cs.getD j 0) → F (some (.int 1)) M') : ng_Go X mi_X9_text d 71 [some (.ref 73), some (.int 1), x2] [.ref 73] (ng_RF M q cs 0 w) F := by
  refine ng_iconst_0 dX9_text_71 ?_
  refine ng_pI dX9_text_72 fp_X9_140 (by first | rfl | assumption) rfl rfl ?_
  rw [ng_RF_w0]
  refine ng_aload_0 dX9_text_75 ?_
  refine ng_gR dX9_text_76 fl_X9_9 (by first | rfl | assumption) ?_
  refine ng_bipush (v := 8) dX9_text_79 (by decide) ?_
  refine ng_iconst_0 dX9_text_81 ?_
  refine ng_iastL (j := 8) dX9_text_82 (by first | rfl | assumption) (by first | assumption | (unfold vp_in; decide)) (by decide) ?_
  refine ng_aload_0 dX9_text_83 ?_
  refine ng_gI dX9_text_84 fl_X9_140 (by first | rfl | assumption) ?_
  rw [ng_row_ne (by decide), ng_RF_10]
  refine ng_ifb_eq 98 dX9_text_87 (by decide +kernel) (fun h87 => ?_) (fun h87 => ?_)
  · have f9 : (ng_row (ng_RF M q cs 0 false) 74 (upd (ng_RF M q cs 0 false 74) 8 0)) 73 = ng_RF M q cs 0 false 73 := ng_row_ne (by decide)
    refine ng_aload_0 dX9_text_98 ?_
    refine ng_gR dX9_text_99 fl_X9_9 (by first | rfl | assumption) ?_
    refine ng_bipush (v := 123) dX9_text_102 (by decide) ?_
    refine ng_bipush (v := 52) dX9_text_104 (by decide) ?_
    refine ng_aload_0 dX9_text_106 ?_
    refine ng_gI dX9_text_107 fl_X9_177 (by first | rfl | assumption) ?_
    rw [f9, ng_RF_9, h9]
    refine ng_imul dX9_text_110 ?_
    refine ng_iadd dX9_text_111 ?_
    rw [show (123 : Int32) + 52 * 1 = nI 175 by decide]
    refine ng_aload_0 dX9_text_112 ?_
    refine ng_gI dX9_text_113 fl_X9_152 (by first | rfl | assumption) ?_
    rw [f9, ng_RF_12]
    refine ng_iastL (j := 175) dX9_text_116 (by first | rfl | assumption) (by exact vp_in_nI (by omega) (by omega)) (by exact nI_clamp (by omega)) ?_
    refine ng_iconst_0 dX9_text_117 ?_
    refine ng_istore_2 dX9_text_118 (by first | rfl | assumption) ?_
    have x74 : ∀ Mz : ng_M, Mz = ng_RF M q cs 0 false → Mz 74 = M 74 := fun Mz e => by rw [e, ng_RF_74]
    refine (l_X9_text_1 (cs := cs) hn ?_ ?_ ?_ cs.length 0 _ (by omega) ng_off.rf (fun j => by rw [if_neg (by omega)])).imp (fun r M' hz => ?_)
    · rw [ng_row_ne (by decide), f9, ng_RF_12]
    · rw [ng_row_ne (by decide), f9, ng_RF_9, h9]
    · intro j hj
      rw [ng_row_ne (by decide), ng_row_ne (by decide), ng_RF_80, ng_cl, if_pos hj]
    · obtain ⟨z1, z2, z3⟩ := hz
      rw [z1]
      refine k M' (fun k hk => ?_) (fun f hf => ?_) (fun k hk => ?_) ?_ (fun j hj => ?_)
      · simp at hk
        rw [z2 k (by simp; omega), ng_row_ne (by omega), ng_row_ne (by omega), ng_RF_o k (by simp; omega)]
      · rw [z2 73 (by decide), ng_row_ne (by decide), f9, ng_RF_73]
        rcases hf with rfl | rfl <;> rfl
      · rw [z3 k, if_neg (by omega), ng_row_eq, ng_upd_ne (by omega), ng_row_eq, ng_RF_74]
      · rw [z3 175, if_neg (by omega), ng_row_eq, ng_upd_eq]
      · rw [z3 (175 + 1 + j), if_pos (by omega), show 175 + 1 + j - 176 = j by omega]
  · exact absurd h87 (by decide)
theorem r_text_1 {X : Nat × (Nat → Int32)} {M : ng_M} (h : ng_ok (M 74)) : ng_EvI X 42 mi_X9_text [.ref 73, .int 1] M (ng_pT9 M 1 175) := by
  obtain ⟨hH, hL⟩ := ng_tH_ok h
  obtain ⟨t1, t2, t3, t4⟩ := ng_tR_gd (u := 1) h
  have e0 : (ng_row M 73 (upd (M 73) 9 1)) 74 = M 74 := ng_row_ne (by decide)
  have hG : ng_RG (ng_row M 73 (upd (M 73) 9 1)) (ng_tH (M 74)) (M 74 8).toNatClampNeg 1 := ⟨hH, by rw [e0]; exact hL, by rw [ng_row_eq, ng_upd_eq], by decide, fun p hp => by rw [e0]; unfold ng_tH; rw [if_pos hp]⟩
  have z : ng_EvX X 41 mi_X9_either [.ref 73] (ng_RF (ng_row M 73 (upd (M 73) 9 1)) 0 [] 0 false) none (ng_RF (ng_row M 73 (upd (M 73) 9 1)) (ng_tR (M 74) 1).2.1 (ng_tR (M 74) 1).2.2 0 (!(ng_tR (M 74) 1).1)) := s_X9_read (X := X) hG 0 [] (by omega) (by simp)
  have h9 : (ng_row M 73 (upd (M 73) 9 1)) 73 9 = 1 := by rw [ng_row_eq, ng_upd_eq]
  have h73 : ∀ f, f = 3 ∨ f = 19 → (ng_row M 73 (upd (M 73) 9 1)) 73 f = M 73 f := fun f hf => by rw [ng_row_eq, ng_upd_ne (by omega)]
  have hoM : ng_off [73] M (ng_row M 73 (upd (M 73) 9 1)) := ng_off.rf.row (by simp)
  refine ng_EvI.of (lv := [some (.ref 73), some (.int 1), none]) (ty := .int) (by decide) (Nat.le_of_ble_eq_true rfl) rfl rfl (fun _ _ _ => rfl) ?_
  refine ng_iload_1 dX9_text_0 ?_
  refine ng_iconst_0 dX9_text_1 ?_
  refine ng_iconst_1 dX9_text_2 ?_
  refine ng_callS_3x (y2 := mi_X9_within) dX9_text_3 lk_X9_80 ms_X9_within my_X9_within (by first | decide | exact Nat.le_of_ble_eq_true rfl) (s_X9_within) (by decide) ?_
  refine ng_ifb_ne 16 dX9_text_6 (by decide +kernel) (fun h6 => ?_) (fun h6 => ?_)
  · refine ng_aload_0 dX9_text_16 ?_
    refine ng_iload_1 dX9_text_17 ?_
    refine ng_pI dX9_text_18 fp_X9_177 (by first | rfl | assumption) rfl rfl ?_
    generalize hMb : ng_row M 73 (upd (M 73) 9 1) = Mb at *
    refine ng_aload_0 dX9_text_21 ?_
    refine ng_iconst_0 dX9_text_22 ?_
    refine ng_pI dX9_text_23 fp_X9_144 (by first | rfl | assumption) rfl rfl ?_
    refine ng_aload_0 dX9_text_26 ?_
    refine ng_iconst_0 dX9_text_27 ?_
    refine ng_pI dX9_text_28 fp_X9_187 (by first | rfl | assumption) rfl rfl ?_
    refine ng_aload_0 dX9_text_31 ?_
    refine ng_iconst_0 dX9_text_32 ?_
    refine ng_pI dX9_text_33 fp_X9_140 (by first | rfl | assumption) rfl rfl ?_
    refine ng_aload_0 dX9_text_36 ?_
    refine ng_iconst_0 dX9_text_37 ?_
    refine ng_pI dX9_text_38 fp_X9_152 (by first | rfl | assumption) rfl rfl ?_
    rw [ng_RF_start]
    refine ng_aload_0 dX9_text_41 ?_
    refine ng_callV_0v (y2 := mi_X9_either) dX9_text_42 lk_X9_190 ms_X9_either my_X9_either (by first | exact ⟨_, rfl⟩ | assumption | exact ng_fld_obj (f := 0) (by assumption)) mc_X9 (by first | decide | exact Nat.le_of_ble_eq_true rfl) (z) (by decide) ?_
    refine ng_aload_0 dX9_text_45 ?_
    refine ng_aload_0 dX9_text_46 ?_
    refine ng_gI dX9_text_47 fl_X9_140 (by first | rfl | assumption) ?_
    rw [ng_RF_10]
    refine ng_ifb_ne 67 dX9_text_50 (by decide +kernel) (fun h50 => ?_) (fun h50 => ?_)
    · have hT : ¬ ng_tOK (M 74) 1 := by
        first
        | exact ng_tno2 h50
        | exact fun z => h64 (by rw [z.2]; exact Int32.le_refl _)
      refine w_X9_text ⟨_, rfl, fun k hk => ?_, ?_, ?_, Or.inr ⟨hT, rfl, ?_⟩⟩
      · simp at hk
        rw [ng_row_ne (by omega), ng_RF_o k (by simp; omega)]
        exact hoM k (by simp; omega)
      · rw [ng_row_ne (by decide), ng_RF_73]
        exact h73 3 (by decide)
      · rw [ng_row_ne (by decide), ng_RF_73]
        exact h73 19 (by decide)
      · rw [ng_row_eq, ng_RF_74, e0]
    · refine ng_aload_0 dX9_text_53 ?_
      refine ng_gI dX9_text_54 fl_X9_144 (by first | rfl | assumption) ?_
      refine ng_aload_0 dX9_text_57 ?_
      refine ng_gR dX9_text_58 fl_X9_9 (by first | rfl | assumption) ?_
      refine ng_bipush (v := 8) dX9_text_61 (by decide) ?_
      refine ng_ialdL (j := 8) dX9_text_63 (by first | rfl | assumption) (by first | assumption | (unfold vp_in; decide)) (by decide) ?_
      rw [ng_RF_7, ng_RF_74, e0, hL]
      refine ng_icmp_ge 71 dX9_text_64 (by decide +kernel) (fun h64 => ?_) (fun h64 => ?_)
      · have hT : ng_tOK (M 74) 1 := ⟨by simpa using h50, Nat.le_antisymm t1 ((nI_leI (by omega) (by omega)).mp h64)⟩
        refine o_X9_text_1 t3 h9 (fun M' o1 o2 o3 o4 o5 => ⟨_, rfl, fun k hk => ?_, ?_, ?_, Or.inl ⟨hT, rfl, fun k hk => ?_, o4, o5⟩⟩)
        · rw [o1 k hk]; exact hoM k (by simp at hk ⊢; omega)
        · rw [o2 3 (by decide)]; exact h73 3 (by decide)
        · rw [o2 19 (by decide)]; exact h73 19 (by decide)
        · rw [o3 k hk, e0]
      · have hT : ¬ ng_tOK (M 74) 1 := by
          first
          | exact ng_tno2 h50
          | exact fun z => h64 (by rw [z.2]; exact Int32.le_refl _)
        refine w_X9_text ⟨_, rfl, fun k hk => ?_, ?_, ?_, Or.inr ⟨hT, rfl, ?_⟩⟩
        · simp at hk
          rw [ng_row_ne (by omega), ng_RF_o k (by simp; omega)]
          exact hoM k (by simp; omega)
        · rw [ng_row_ne (by decide), ng_RF_73]
          exact h73 3 (by decide)
        · rw [ng_row_ne (by decide), ng_RF_73]
          exact h73 19 (by decide)
        · rw [ng_row_eq, ng_RF_74, e0]
  · exact absurd h6 (by decide)
