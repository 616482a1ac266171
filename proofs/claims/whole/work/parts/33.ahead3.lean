/-! ===== pairs: clear, back, whom ===== -/
def ng_clr (a : ng_R) : Nat → Nat → Int32
  | 0, _ => -1
  | m + 1, k => if ng_ylf a (nI k) 0 ng_all = 0 then nI k else ng_clr a m (k + 1)
theorem ng_clr_v {a : ng_R} : ∀ m k, ng_clr a m k = -1 ∨ ∃ j, j < k + m ∧ ng_clr a m k = nI j
  | 0, _ => Or.inl rfl
  | m + 1, k => by
    unfold ng_clr
    split
    · exact Or.inr ⟨k, by omega, rfl⟩
    · rcases ng_clr_v m (k + 1) with q | ⟨j, j2, q⟩
      · exact Or.inl q
      · exact Or.inr ⟨j, by omega, q⟩
theorem ng_clr_neg {a : ng_R} {m k : Nat} (h : k + m < 1000) : ng_clr a m k < 0 ↔ ng_clr a m k = -1 := by
  rcases ng_clr_v (a := a) m k with q | ⟨j, j2, q⟩
  · rw [q]; decide
  · rw [q]
    constructor
    · intro z; rw [ng_lt, ng_0, nI_toInt (by omega)] at z; omega
    · intro z; have := congrArg Int32.toInt z; rw [nI_toInt (by omega), show (-1 : Int32).toInt = -1 by decide] at this; omega
theorem ng_pots {a : ng_R} (h : ng_okY a) : (a 5 + a 4).toInt = (a 5).toInt + (a 4).toInt ∧ 0 ≤ (a 5 + a 4).toInt := by
  have e := (ng_yon_bd (b := 0) h.wfr.2 (by decide) (by decide)).2
  have b5 := h.wfr.2.2.2.2.2.2.1
  have b4 := h.wfr.2.2.2.2.2.1
  exact ⟨e, by rw [e]; omega⟩
theorem ng_sold_all {a : ng_R} {t : Int32} (h : ng_okY a) : ng_ysd a t 0 ng_all = a 5 + a 4 ↔ ng_ylf a t 0 ng_all = 0 := by
  have hw := h.wfr
  obtain ⟨e1, e2, e3, e4⟩ := ng_ysd_I (t := t) (b := 0) (cm := ng_all) hw.2 (ng_yn8 hw.1.1) (by decide) (by decide)
  have f := (ng_yon_bd (b := 0) hw.2 (by decide) (by decide)).1
  obtain ⟨g1, g2⟩ := ng_pots h
  rw [ng_0] at f
  constructor
  · intro q
    apply ng_i_eq
    rw [q] at e1
    rw [ng_0]
    omega
  · intro q
    apply ng_i_eq
    rw [q, ng_0] at e1
    rw [e1]
    omega
def ng_clear (a : ng_R) : Int32 := if a 5 + a 4 = 0 then -1 else ng_clr a 10 0
theorem ng_nI10 {k : Nat} (h : k < 10) : vp_in (nI k) 10 := vp_in_nI h (by omega)
theorem l_X1_leastClearing {X : Nat × (Nat → Int32)} {M0 : ng_M} {a : ng_R} (hr : ng_rl M0 a) (hv : ng_sv M0 15 a) (hok : ng_okY a) : ∀ (m k : Nat) (M : ng_M), k + m = 10 → ng_off ng_J M0 M →
    ng_Go X mi_X1_leastClearing 6 11 [some (.ref 39), some (.ref 15), some (.int (nI k))] [] M (fun r' M' => ∃ v, r' = some (.int v) ∧ v = ng_clr a m k ∧ ng_off ng_J M0 M') := by
  intro m
  induction m with
  | zero =>
    intro k M hk h
    have hk2 : k = 10 := by omega
    subst hk2
    refine ng_iload_2 dX1_leastClearing_11 ?_
    refine ng_bipush (v := 10) dX1_leastClearing_12 (by decide) ?_
    refine ng_icmp_ge 55 dX1_leastClearing_14 (by decide +kernel) (fun h14 => ?_) (fun h14 => ?_)
    · refine ng_iconst_m1 dX1_leastClearing_55 ?_
      exact ng_ireturn dX1_leastClearing_56 ⟨_, rfl, rfl, h⟩
    · exact absurd (show (10 : Int32) ≤ nI 10 by decide) h14
  | succ m ih =>
    intro k M hk h
    refine ng_iload_2 dX1_leastClearing_11 ?_
    refine ng_bipush (v := 10) dX1_leastClearing_12 (by decide) ?_
    refine ng_icmp_ge 55 dX1_leastClearing_14 (by decide +kernel) (fun h14 => ?_) (fun h14 => ?_)
    · exact absurd (show nI 10 ≤ nI k from h14) (nI_ge (by omega) (by omega))
    · refine ng_aload_0 dX1_leastClearing_17 ?_
      refine ng_gR dX1_leastClearing_18 fl_X1_27 (by first | rfl | assumption) ?_
      refine ng_aload_1 dX1_leastClearing_21 ?_
      refine ng_callV_1w (y2 := mi_X5_take) dX1_leastClearing_22 lk_X1_31 ms_X5_take my_X5_take (by first | exact ⟨_, rfl⟩ | assumption | exact ng_fld_obj (f := 0) (by assumption)) mc_X5 (by first | decide | exact Nat.le_of_ble_eq_true rfl) (s_X5_takeA h hr hv hok) (by decide) (fun M2 hf => ?_)
      refine ng_aload_0 dX1_leastClearing_25 ?_
      refine ng_gR dX1_leastClearing_26 fl_X1_27 (by first | rfl | assumption) ?_
      refine ng_iload_2 dX1_leastClearing_29 ?_
      refine ng_iconst_0 dX1_leastClearing_30 ?_
      refine ng_sipush (v := 255) dX1_leastClearing_31 (by decide) ?_
      refine ng_callV_3w (y2 := mi_X5_goes) dX1_leastClearing_34 lk_X1_85 ms_X5_goes my_X5_goes (by first | exact ⟨_, rfl⟩ | assumption | exact ng_fld_obj (f := 0) (by assumption)) mc_X5 (by first | decide | exact Nat.le_of_ble_eq_true rfl) (s_X5_goesA ng_isS41 hf (ng_nI10 (by omega)) (by decide) (by decide)) (by decide) (fun M3 hg => ?_)
      refine ng_aload_0 dX1_leastClearing_37 ?_
      refine ng_gR dX1_leastClearing_38 fl_X1_27 (by first | rfl | assumption) ?_
      refine ng_gI dX1_leastClearing_41 fl_X1_117 (by first | rfl | assumption) ?_
      refine ng_if_ne 49 dX1_leastClearing_44 (by decide +kernel) (fun h44 => ?_) (fun h44 => ?_)
      · refine ng_iinc_2 (w := 1) dX1_leastClearing_49 (by decide) rfl ?_
        refine ng_goto 11 dX1_leastClearing_52 (by decide +kernel) ?_
        rw [nI_1]
        rw [hg.2.2] at h44
        rw [ng_clr, if_neg h44]
        exact ih (k + 1) M3 (by omega) hg.1.1
      · refine ng_iload_2 dX1_leastClearing_47 ?_
        exact ng_ireturn dX1_leastClearing_48 ⟨_, rfl, by
  rw [hg.2.2] at h44
  rw [ng_clr, if_pos h44], hg.1.1⟩
theorem s_X1_leastClearing {X : Nat × (Nat → Int32)} {M : ng_M} {a : ng_R} (hr : ng_rl M a) (hv : ng_sv M 15 a) (hok : ng_okY a) : ng_EvI X 6 mi_X1_leastClearing [.ref 39, .ref 15] M (fun r M1 => r = ng_clear a ∧ ng_off ng_J M M1) := by
  refine ng_EvI.of (lv := [some (.ref 39), some (.ref 15), none]) (ty := .int) (by decide) (Nat.le_of_ble_eq_true rfl) rfl rfl (fun _ _ _ => rfl) ?_
  refine ng_aload_1 dX1_leastClearing_0 ?_
  refine ng_callV_0x (y2 := mi_X5_pots) dX1_leastClearing_1 lk_X1_114 ms_X5_pots my_X5_pots (by first | exact ⟨_, rfl⟩ | assumption | exact ng_fld_obj (f := 0) (by assumption)) mc_X5 (by first | decide | exact Nat.le_of_ble_eq_true rfl) ((s_X5_pots (s := 15) (Or.inl rfl)).cast (by rw [hv.2.2.2.2.1, hv.2.2.2.1]) rfl) (by decide) ?_
  refine ng_if_ne 9 dX1_leastClearing_4 (by decide +kernel) (fun h4 => ?_) (fun h4 => ?_)
  · refine ng_iconst_0 dX1_leastClearing_9 ?_
    refine ng_istore_2 dX1_leastClearing_10 (by first | rfl | assumption) ?_
    rw [ng_clear, if_neg h4]
    exact l_X1_leastClearing hr hv hok 10 0 M (by omega) ng_off.rf
  · refine ng_iconst_m1 dX1_leastClearing_7 ?_
    exact ng_ireturn dX1_leastClearing_8 ⟨_, rfl, by rw [ng_clear, if_pos h4], ng_off.rf⟩
theorem c_clear {X : Nat × (Nat → Int32)} {M : ng_M} (h : ng_I1 M) : ng_EvI X 7 mi_X8_clear [.ref 0] M (fun r M1 => ng_a8 M (if ng_clear (M 74) < 0 then .inl 2 else .inr (ng_clear (M 74))) r M1) := by
  refine ng_EvI.of (lv := [some (.ref 0), none]) (ty := .int) (by decide) (Nat.le_of_ble_eq_true rfl) rfl rfl (fun _ _ _ => rfl) ?_
  have hI := h.1.rl
  refine ng_aload_0 dX8_clear_0 ?_
  refine ng_gR dX8_clear_1 fl_X8_28 (by first | rfl | assumption) ?_
  refine ng_aload_0 dX8_clear_4 ?_
  refine ng_gR dX8_clear_5 fl_X8_12 (by first | rfl | assumption) ?_
  refine ng_gR dX8_clear_8 fl_X8_81 (by first | rfl | assumption) ?_
  refine ng_callV_1i (y2 := mi_X1_leastClearing) dX8_clear_11 lk_X8_252 ms_X1_leastClearing my_X1_leastClearing (by first | exact ⟨_, rfl⟩ | assumption | exact ng_fld_obj (f := 0) (by assumption)) mc_X1 (by first | decide | exact Nat.le_of_ble_eq_true rfl) (s_X1_leastClearing hI.1 hI.2.1 h.2.Y) (by decide) (fun v M2 hf => ?_)
  obtain ⟨hf1, hf2⟩ := hf
  refine ng_istore_1 dX8_clear_14 (by first | rfl | assumption) ?_
  refine ng_iload_1 dX8_clear_15 ?_
  refine ng_if_ge 28 dX8_clear_16 (by decide +kernel) (fun h16 => ?_) (fun h16 => ?_)
  · refine ng_iload_1 dX8_clear_28 ?_
    exact ng_ireturn dX8_clear_29 ⟨_, rfl, by
  rw [← hf1]
  first
  | (rw [if_neg (Int32.not_lt.mpr h16)]; exact ⟨M2, ng_out.of hf2 (by decide), rfl, rfl⟩)
  | (rw [if_pos (Int32.not_le.mp h16)]; exact ⟨M2, ng_out.of hf2 (by decide), by decide, rfl⟩)⟩
  · refine ng_aload_0 dX8_clear_19 ?_
    refine ng_ldc dX8_clear_20 kc_X8_130 ?_
    refine ng_callV_1x (y2 := mi_X8_fails) dX8_clear_22 lk_X8_66 ms_X8_fails my_X8_fails (by first | exact ⟨_, rfl⟩ | assumption | exact ng_fld_obj (f := 0) (by assumption)) mc_X8 (by first | decide | exact Nat.le_of_ble_eq_true rfl) (s_X8_fails (k := 2) (by decide) (by decide) (by decide)) (by decide) ?_
    refine ng_goto 29 dX8_clear_25 (by decide +kernel) ?_
    exact ng_ireturn dX8_clear_29 ⟨_, rfl, by
  rw [← hf1]
  first
  | (rw [if_neg (Int32.not_lt.mpr h16)]; exact ⟨M2, ng_out.of hf2 (by decide), rfl, rfl⟩)
  | (rw [if_pos (Int32.not_le.mp h16)]; exact ⟨M2, ng_out.of hf2 (by decide), by decide, rfl⟩)⟩
theorem ng_ra.outS {M M1 : ng_M} (h : ng_ra (ng_asd M) M1 (M 74)) : ng_rout M M1 := by
  refine ng_rout.of (S := [76, 81, 82, 83]) (fun k hk => ?_) (by decide) (by decide)
  by_cases q : k = 74
  · subst q; exact h.2.1
  · simp at hk
    exact (h.1 k (by simp; omega)).trans (ng_row_ne (by omega))
theorem l_X9_clear {X : Nat × (Nat → Int32)} {M0 : ng_M} {F : Option Value → ng_M → Prop} (hok : ng_okY (M0 74)) (hp : ¬ M0 74 5 + M0 74 4 ≤ 0) : ∀ (m k : Nat) (M : ng_M) (x4 : Option Value), k + m = 10 → ng_ra (ng_asd M0) M (M0 74) →
    (∀ (M' : ng_M) (x3 x4 : Option Value), ng_ra (ng_asd M0) M' (M0 74) → ng_Go X mi_X9_clear 8 81 [some (.ref 73), some (.int (M0 74 5 + M0 74 4)), some (.int (ng_clr (M0 74) m k)), x3, x4] [] M' F) →
    ng_Go X mi_X9_clear 8 29 [some (.ref 73), some (.int (M0 74 5 + M0 74 4)), some (.int (-1)), some (.int (nI k)), x4] [] M F := by
  intro m
  induction m with
  | zero =>
    intro k M x4 hk h kk
    have hk2 : k = 10 := by omega
    subst hk2
    refine ng_iload_3 dX9_clear_29 ?_
    refine ng_bipush (v := 10) dX9_clear_30 (by decide) ?_
    refine ng_icmp_ge 81 dX9_clear_32 (by decide +kernel) (fun h32 => ?_) (fun h32 => ?_)
    · exact kk M _ _ h
    · exact absurd (show (10 : Int32) ≤ nI 10 by decide) h32
  | succ m ih =>
    intro k M x4 hk h kk
    refine ng_iload_3 dX9_clear_29 ?_
    refine ng_bipush (v := 10) dX9_clear_30 (by decide) ?_
    refine ng_icmp_ge 81 dX9_clear_32 (by decide +kernel) (fun h32 => ?_) (fun h32 => ?_)
    · exact absurd (show nI 10 ≤ nI k from h32) (nI_ge (by omega) (by omega))
    · refine ng_iload_2 dX9_clear_35 ?_
      refine ng_if_ge 81 dX9_clear_36 (by decide +kernel) (fun h36 => ?_) (fun h36 => ?_)
      · exact absurd h36 (by decide)
      · refine ng_iload_1 dX9_clear_39 ?_
        refine ng_if_le 81 dX9_clear_40 (by decide +kernel) (fun h40 => ?_) (fun h40 => ?_)
        · exact absurd h40 hp
        · refine ng_aload_0 dX9_clear_43 ?_
          refine ng_iload_3 dX9_clear_44 ?_
          refine ng_iconst_0 dX9_clear_45 ?_
          refine ng_iconst_0 dX9_clear_46 ?_
          refine ng_callV_3i (y2 := mi_X9_goes) dX9_clear_47 lk_X9_219 ms_X9_goes my_X9_goes (by first | exact ⟨_, rfl⟩ | assumption | exact ng_fld_obj (f := 0) (by assumption)) mc_X9 (by first | decide | exact Nat.le_of_ble_eq_true rfl) (s_X9_goesA h (ng_nI10 (by omega)) (by decide) (by decide)) (by decide) (fun v M2 hg => ?_)
          refine ng_istore_4 dX9_clear_50 (by first | rfl | assumption) ?_
          refine ng_iload_4 dX9_clear_52 ?_
          refine ng_iload_1 dX9_clear_54 ?_
          refine ng_icmp_ne 62 dX9_clear_55 (by decide +kernel) (fun h55 => ?_) (fun h55 => ?_)
          · refine ng_iconst_m1 dX9_clear_62 ?_
            refine ng_istore_2 dX9_clear_63 (by first | rfl | assumption) ?_
            obtain ⟨hg1, hg2⟩ := hg
            have ha := hg2.again hok
            refine ng_aload_0 dX9_clear_64 ?_
            refine ng_gR dX9_clear_65 fl_X9_16 (by first | rfl | assumption) ?_
            refine ng_aload_0 dX9_clear_68 ?_
            refine ng_gR dX9_clear_69 fl_X9_9 (by first | rfl | assumption) ?_
            refine ng_callS_2v (y2 := mi_X9_copy) dX9_clear_72 lk_X9_76 ms_X9_copy my_X9_copy (by first | decide | exact Nat.le_of_ble_eq_true rfl) (s_X9_copy rfl rfl (by decide)) (by decide) ?_
            refine ng_iinc_3 (w := 1) dX9_clear_75 (by decide) rfl ?_
            refine ng_goto 29 dX9_clear_78 (by decide +kernel) ?_
            rw [hg1, ng_sold_all hok] at h55
            first
            | (rw [ng_clr, if_neg h55] at kk
               rw [nI_1]
               exact ih (k + 1) _ _ (by omega) ha kk)
            | (rw [ng_clr, if_pos h55] at kk
               have g0 : (0 : Int32) ≤ nI k := by rw [ng_le, ng_0, nI_toInt (by omega)]; omega
               refine ng_iload_3 dX9_clear_29 ?_
               refine ng_bipush (v := 10) dX9_clear_30 (by decide) ?_
               refine ng_icmp_ge 81 dX9_clear_32 (by decide +kernel) (fun _ => ?_) (fun _ => ?_)
               · exact kk _ _ _ ha
               · refine ng_iload_2 dX9_clear_35 ?_
                 refine ng_if_ge 81 dX9_clear_36 (by decide +kernel) (fun _ => ?_) (fun q => ?_)
                 · exact kk _ _ _ ha
                 · exact absurd g0 q)
          · refine ng_iload_3 dX9_clear_58 ?_
            refine ng_goto 63 dX9_clear_59 (by decide +kernel) ?_
            refine ng_istore_2 dX9_clear_63 (by first | rfl | assumption) ?_
            obtain ⟨hg1, hg2⟩ := hg
            have ha := hg2.again hok
            refine ng_aload_0 dX9_clear_64 ?_
            refine ng_gR dX9_clear_65 fl_X9_16 (by first | rfl | assumption) ?_
            refine ng_aload_0 dX9_clear_68 ?_
            refine ng_gR dX9_clear_69 fl_X9_9 (by first | rfl | assumption) ?_
            refine ng_callS_2v (y2 := mi_X9_copy) dX9_clear_72 lk_X9_76 ms_X9_copy my_X9_copy (by first | decide | exact Nat.le_of_ble_eq_true rfl) (s_X9_copy rfl rfl (by decide)) (by decide) ?_
            refine ng_iinc_3 (w := 1) dX9_clear_75 (by decide) rfl ?_
            refine ng_goto 29 dX9_clear_78 (by decide +kernel) ?_
            rw [hg1, ng_sold_all hok] at h55
            first
            | (rw [ng_clr, if_neg h55] at kk
               rw [nI_1]
               exact ih (k + 1) _ _ (by omega) ha kk)
            | (rw [ng_clr, if_pos h55] at kk
               have g0 : (0 : Int32) ≤ nI k := by rw [ng_le, ng_0, nI_toInt (by omega)]; omega
               refine ng_iload_3 dX9_clear_29 ?_
               refine ng_bipush (v := 10) dX9_clear_30 (by decide) ?_
               refine ng_icmp_ge 81 dX9_clear_32 (by decide +kernel) (fun _ => ?_) (fun _ => ?_)
               · exact kk _ _ _ ha
               · refine ng_iload_2 dX9_clear_35 ?_
                 refine ng_if_ge 81 dX9_clear_36 (by decide +kernel) (fun _ => ?_) (fun q => ?_)
                 · exact kk _ _ _ ha
                 · exact absurd g0 q)
theorem r_clear {X : Nat × (Nat → Int32)} {M : ng_M} (h : ng_ok (M 74)) : ng_EvI X 8 mi_X9_clear [.ref 73] M (fun r M1 => ng_a9 M (if ng_clear (M 74) < 0 then .inl 2 else .inr (ng_clear (M 74))) r M1) := by
  refine ng_EvI.of (lv := [some (.ref 73), none, none, none, none]) (ty := .int) (by decide) (Nat.le_of_ble_eq_true rfl) rfl rfl (fun _ _ _ => rfl) ?_
  have fin : ∀ (M2 : ng_M) (v : Int32) (x3 x4 : Option Value), v = ng_clear (M 74) → ng_rout M M2 → ng_Go X mi_X9_clear 8 81 [some (.ref 73), some (.int (M 74 5 + M 74 4)), some (.int v), x3, x4] [] M2 (fun r' M' => ∃ v, r' = some (.int v) ∧ ng_a9 M (if ng_clear (M 74) < 0 then .inl 2 else .inr (ng_clear (M 74))) v M') := by
    intro M2 v x3 x4 hv ho
    refine ng_iload_2 dX9_clear_81 ?_
    refine ng_if_ge 94 dX9_clear_82 (by decide +kernel) (fun h82 => ?_) (fun h82 => ?_)
    · refine ng_iload_2 dX9_clear_94 ?_
      exact ng_ireturn dX9_clear_95 ⟨_, rfl, by
  rw [← hv]
  first
  | (rw [if_neg (Int32.not_lt.mpr h82)]; exact ⟨M2, ho, rfl, rfl⟩)
  | (rw [if_pos (Int32.not_le.mp h82)]; exact ⟨M2, ho, by decide, rfl⟩)⟩
    · refine ng_aload_0 dX9_clear_85 ?_
      refine ng_ldc dX9_clear_86 kc_X9_118 ?_
      refine ng_callV_1x (y2 := mi_X9_finding) dX9_clear_88 lk_X9_92 ms_X9_finding my_X9_finding (by first | exact ⟨_, rfl⟩ | assumption | exact ng_fld_obj (f := 0) (by assumption)) mc_X9 (by first | decide | exact Nat.le_of_ble_eq_true rfl) (s_X9_finding (k := 2) (by decide) (by decide) (by decide)) (by decide) ?_
      refine ng_goto 95 dX9_clear_91 (by decide +kernel) ?_
      exact ng_ireturn dX9_clear_95 ⟨_, rfl, by
  rw [← hv]
  first
  | (rw [if_neg (Int32.not_lt.mpr h82)]; exact ⟨M2, ho, rfl, rfl⟩)
  | (rw [if_pos (Int32.not_le.mp h82)]; exact ⟨M2, ho, by decide, rfl⟩)⟩
  have hs := ng_ra.start h.Y
  have e74 : ng_row M 76 (ng_cp (M 74) (M 76)) 74 = M 74 := ng_row_ne (by decide)
  have hr0 : ng_rout M (ng_row M 76 (ng_cp (M 74) (M 76))) := ng_rout.of (S := [76]) (ng_off.rf.row (by decide)) (by decide) (by decide)
  by_cases hp : M 74 5 + M 74 4 ≤ 0
  · have hz : M 74 5 + M 74 4 = 0 := by
      obtain ⟨g1, g2⟩ := ng_pots h.Y
      rw [ng_le, ng_0] at hp
      apply ng_i_eq
      rw [ng_0]
      omega
    refine ng_aload_0 dX9_clear_0 ?_
    refine ng_gR dX9_clear_1 fl_X9_9 (by first | rfl | assumption) ?_
    refine ng_aload_0 dX9_clear_4 ?_
    refine ng_gR dX9_clear_5 fl_X9_16 (by first | rfl | assumption) ?_
    refine ng_callS_2v (y2 := mi_X9_copy) dX9_clear_8 lk_X9_76 ms_X9_copy my_X9_copy (by first | decide | exact Nat.le_of_ble_eq_true rfl) (s_X9_copy rfl rfl (by decide)) (by decide) ?_
    refine ng_aload_0 dX9_clear_11 ?_
    refine ng_gR dX9_clear_12 fl_X9_9 (by first | rfl | assumption) ?_
    refine ng_iconst_5 dX9_clear_15 ?_
    refine ng_ialdL (j := 5) dX9_clear_16 (by first | rfl | assumption) (by first | assumption | (unfold vp_in; decide)) (by decide) ?_
    refine ng_aload_0 dX9_clear_17 ?_
    refine ng_gR dX9_clear_18 fl_X9_9 (by first | rfl | assumption) ?_
    refine ng_iconst_4 dX9_clear_21 ?_
    refine ng_ialdL (j := 4) dX9_clear_22 (by first | rfl | assumption) (by first | assumption | (unfold vp_in; decide)) (by decide) ?_
    refine ng_iadd dX9_clear_23 ?_
    rw [e74]
    refine ng_istore_1 dX9_clear_24 (by first | rfl | assumption) ?_
    refine ng_iconst_m1 dX9_clear_25 ?_
    refine ng_istore_2 dX9_clear_26 (by first | rfl | assumption) ?_
    refine ng_iconst_0 dX9_clear_27 ?_
    refine ng_istore_3 dX9_clear_28 (by first | rfl | assumption) ?_
    refine ng_iload_3 dX9_clear_29 ?_
    refine ng_bipush (v := 10) dX9_clear_30 (by decide) ?_
    refine ng_icmp_ge 81 dX9_clear_32 (by decide +kernel) (fun h32 => ?_) (fun h32 => ?_)
    · exact absurd h32 (by decide)
    · refine ng_iload_2 dX9_clear_35 ?_
      refine ng_if_ge 81 dX9_clear_36 (by decide +kernel) (fun h36 => ?_) (fun h36 => ?_)
      · exact absurd h36 (by decide)
      · refine ng_iload_1 dX9_clear_39 ?_
        refine ng_if_le 81 dX9_clear_40 (by decide +kernel) (fun h40 => ?_) (fun h40 => ?_)
        · exact fin _ _ _ _ (by rw [ng_clear, if_pos hz]) hr0
        · exact absurd hp h40
  · have hz : ¬ M 74 5 + M 74 4 = 0 := fun q => hp (by rw [q]; decide)
    refine ng_aload_0 dX9_clear_0 ?_
    refine ng_gR dX9_clear_1 fl_X9_9 (by first | rfl | assumption) ?_
    refine ng_aload_0 dX9_clear_4 ?_
    refine ng_gR dX9_clear_5 fl_X9_16 (by first | rfl | assumption) ?_
    refine ng_callS_2v (y2 := mi_X9_copy) dX9_clear_8 lk_X9_76 ms_X9_copy my_X9_copy (by first | decide | exact Nat.le_of_ble_eq_true rfl) (s_X9_copy rfl rfl (by decide)) (by decide) ?_
    refine ng_aload_0 dX9_clear_11 ?_
    refine ng_gR dX9_clear_12 fl_X9_9 (by first | rfl | assumption) ?_
    refine ng_iconst_5 dX9_clear_15 ?_
    refine ng_ialdL (j := 5) dX9_clear_16 (by first | rfl | assumption) (by first | assumption | (unfold vp_in; decide)) (by decide) ?_
    refine ng_aload_0 dX9_clear_17 ?_
    refine ng_gR dX9_clear_18 fl_X9_9 (by first | rfl | assumption) ?_
    refine ng_iconst_4 dX9_clear_21 ?_
    refine ng_ialdL (j := 4) dX9_clear_22 (by first | rfl | assumption) (by first | assumption | (unfold vp_in; decide)) (by decide) ?_
    refine ng_iadd dX9_clear_23 ?_
    rw [e74]
    refine ng_istore_1 dX9_clear_24 (by first | rfl | assumption) ?_
    refine ng_iconst_m1 dX9_clear_25 ?_
    refine ng_istore_2 dX9_clear_26 (by first | rfl | assumption) ?_
    refine ng_iconst_0 dX9_clear_27 ?_
    refine ng_istore_3 dX9_clear_28 (by first | rfl | assumption) ?_
    exact l_X9_clear (M0 := M) h.Y hp 10 0 _ _ (by omega) hs (fun M' x3 x4 ha => fin M' _ x3 x4 (by rw [ng_clear, if_neg hz]) ha.outS)
theorem pr_clear {X : Nat × (Nat → Int32)} {M : ng_M} (h : ng_inv M) : ng_pair X mi_X8_clear mi_X9_clear [] M :=
  ng_pair.A h (c_clear h.1) (by decide) (d9 := 8) (by decide) (fun M1 e => by rw [← e 74 (by decide)]; exact r_clear (by rw [e 74 (by decide)]; exact h.1.2))
/-! back, whom: the first that brings most -/
def ng_am (f : Nat → Int32) : Nat → Nat × Int32
  | 0 => (0, 0)
  | i + 1 => if i = 0 ∨ (ng_am f i).2 < f i then (i, f i) else ng_am f i
def ng_amB (f : Nat → Int32) (i : Nat) : Int32 := if i = 0 then -1 else nI (ng_am f i).1
theorem ng_am_t {f : Nat → Int32} {i : Nat} (h : i = 0 ∨ (ng_am f i).2 < f i) : ng_am f (i + 1) = (i, f i) := by rw [ng_am, if_pos h]
theorem ng_am_f {f : Nat → Int32} {i : Nat} (h0 : ¬ i = 0) (h : ¬ (ng_am f i).2 < f i) : ng_am f (i + 1) = ng_am f i := by rw [ng_am, if_neg (by rintro (q | q); exact h0 q; exact h q)]
theorem ng_am_le (f : Nat → Int32) : ∀ i, (ng_am f i).1 ≤ i
  | 0 => Nat.le_refl _
  | i + 1 => by
    unfold ng_am
    split
    · exact Nat.le_succ i
    · have := ng_am_le f i; omega
theorem ng_amB_t {f : Nat → Int32} {i : Nat} (h : i = 0 ∨ (ng_am f i).2 < f i) : ng_amB f (i + 1) = nI i := by rw [ng_amB, if_neg (by omega), ng_am_t h]
theorem ng_amB_f {f : Nat → Int32} {i : Nat} (h0 : ¬ i = 0) (h : ¬ (ng_am f i).2 < f i) : ng_amB f (i + 1) = ng_amB f i := by rw [ng_amB, if_neg (by omega), ng_am_f h0 h, ng_amB, if_neg h0]
theorem ng_amB_neg {f : Nat → Int32} {i : Nat} (hi : i < 1000) : ng_amB f i < 0 ↔ i = 0 := by
  unfold ng_amB
  split
  · rename_i q; rw [q]; decide
  · rename_i q
    have := ng_am_le f i
    rw [ng_lt, ng_0, nI_toInt (by omega)]
    omega
theorem ng_nI0 {i : Nat} (h : nI i = 0) (hi : i < 1000) : i = 0 := by
  have := congrArg Int32.toInt h
  rw [nI_toInt (by omega), ng_0] at this
  omega
def ng_fb (a : ng_R) (t : Int32) (N : Nat) (b : Nat) : Int32 := ng_ends (ng_yrs (ng_yr a t (nI b) ng_all) t N)
def ng_fw (a : ng_R) (t : Int32) (N : Nat) (b : Nat) : Int32 := ng_ends (ng_yrs (ng_gv a b) t N)
theorem ng_nIb {b : Nat} (h : b < 21) : 0 ≤ (nI b).toInt ∧ (nI b).toInt ≤ 99 := by rw [nI_toInt (by omega)]; omega
theorem l_X1_bestBack {X : Nat × (Nat → Int32)} {M0 : ng_M} {a : ng_R} {n t : Int32} {N : Nat} (hr : ng_rl M0 a) (hv : ng_sv M0 15 a) (hok : ng_okY a) (ht : vp_in t 10) (hn : n = nI N) (hN : N ≤ 40) : ∀ (m i : Nat) (M : ng_M) (x7 : Option Value), i + m = 21 → ng_off ng_J M0 M →
    ng_Go X mi_X1_bestBack 7 9 [some (.ref 39), some (.ref 15), some (.int n), some (.int t), some (.int (nI (ng_am (ng_fb a t N) i).1)), some (.int (ng_am (ng_fb a t N) i).2), some (.int (nI i)), x7] [] M (fun r' M' => ∃ v, r' = some (.int v) ∧ v = nI (ng_am (ng_fb a t N) 21).1 ∧ ng_off ng_J M0 M') := by
  intro m
  induction m with
  | zero =>
    intro i M x7 hi h
    have hi2 : i = 21 := by omega
    subst hi2
    refine ng_iload_6 dX1_bestBack_9 ?_
    refine ng_bipush (v := 20) dX1_bestBack_11 (by decide) ?_
    refine ng_icmp_gt 81 dX1_bestBack_13 (by decide +kernel) (fun h13 => ?_) (fun h13 => ?_)
    · refine ng_iload_4 dX1_bestBack_81 ?_
      exact ng_ireturn dX1_bestBack_83 ⟨_, rfl, rfl, h⟩
    · exact absurd (show (20 : Int32) < nI 21 by decide) h13
  | succ m ih =>
    intro i M x7 hi h
    refine ng_iload_6 dX1_bestBack_9 ?_
    refine ng_bipush (v := 20) dX1_bestBack_11 (by decide) ?_
    refine ng_icmp_gt 81 dX1_bestBack_13 (by decide +kernel) (fun h13 => ?_) (fun h13 => ?_)
    · exact absurd (show nI 20 < nI i from h13) (ng_nI_lt (by omega) (by omega))
    · refine ng_aload_0 dX1_bestBack_16 ?_
      refine ng_gR dX1_bestBack_17 fl_X1_27 (by first | rfl | assumption) ?_
      refine ng_aload_1 dX1_bestBack_20 ?_
      refine ng_callV_1w (y2 := mi_X5_take) dX1_bestBack_21 lk_X1_31 ms_X5_take my_X5_take (by first | exact ⟨_, rfl⟩ | assumption | exact ng_fld_obj (f := 0) (by assumption)) mc_X5 (by first | decide | exact Nat.le_of_ble_eq_true rfl) (s_X5_takeA h hr hv hok) (by decide) (fun M2 hf => ?_)
      refine ng_aload_0 dX1_bestBack_24 ?_
      refine ng_gR dX1_bestBack_25 fl_X1_27 (by first | rfl | assumption) ?_
      refine ng_iload_3 dX1_bestBack_28 ?_
      refine ng_iload_6 dX1_bestBack_29 ?_
      refine ng_sipush (v := 255) dX1_bestBack_31 (by decide) ?_
      refine ng_callV_3w (y2 := mi_X5_goes) dX1_bestBack_34 lk_X1_85 ms_X5_goes my_X5_goes (by first | exact ⟨_, rfl⟩ | assumption | exact ng_fld_obj (f := 0) (by assumption)) mc_X5 (by first | decide | exact Nat.le_of_ble_eq_true rfl) (s_X5_goesA ng_isS41 hf ht (ng_nIb (by omega)).1 (ng_nIb (by omega)).2) (by decide) (fun M3 hg => ?_)
      refine ng_aload_0 dX1_bestBack_37 ?_
      refine ng_gR dX1_bestBack_38 fl_X1_27 (by first | rfl | assumption) ?_
      refine ng_iload_2 dX1_bestBack_41 ?_
      refine ng_iload_3 dX1_bestBack_42 ?_
      refine ng_callV_2w (y2 := mi_X5_goesYears) dX1_bestBack_43 lk_X1_88 ms_X5_goesYears my_X5_goesYears (by first | exact ⟨_, rfl⟩ | assumption | exact ng_fld_obj (f := 0) (by assumption)) mc_X5 (by first | decide | exact Nat.le_of_ble_eq_true rfl) (s_X5_goesYears ng_isS41 hg.1 ht hn hN) (by decide) (fun M4 hc => ?_)
      refine ng_aload_0 dX1_bestBack_46 ?_
      refine ng_gR dX1_bestBack_47 fl_X1_27 (by first | rfl | assumption) ?_
      refine ng_callV_0x (y2 := mi_X5_ends) dX1_bestBack_50 lk_X1_64 ms_X5_ends my_X5_ends (by first | exact ⟨_, rfl⟩ | assumption | exact ng_fld_obj (f := 0) (by assumption)) mc_X5 (by first | decide | exact Nat.le_of_ble_eq_true rfl) (s_X5_endsA ng_isS41 hc.2.1 hc.2.2.1 hc.2.2.2) (by decide) ?_
      refine ng_istore_7 dX1_bestBack_53 (by first | rfl | assumption) ?_
      refine ng_iload_6 dX1_bestBack_55 ?_
      refine ng_if_eq 67 dX1_bestBack_57 (by decide +kernel) (fun h57 => ?_) (fun h57 => ?_)
      · refine ng_iload_6 dX1_bestBack_67 ?_
        refine ng_istore_4 dX1_bestBack_69 (by first | rfl | assumption) ?_
        refine ng_iload_7 dX1_bestBack_71 ?_
        refine ng_istore_5 dX1_bestBack_73 (by first | rfl | assumption) ?_
        refine ng_iinc_6 (w := 1) dX1_bestBack_75 (by decide) rfl ?_
        refine ng_goto 9 dX1_bestBack_78 (by decide +kernel) ?_
        rw [nI_1]
        have z := ih (i + 1) M4 (some (.int (ng_fb a t N i))) (by omega) hc.1
        first
        | (rw [ng_am_t (Or.inl (ng_nI0 h57 (by omega)))] at z; exact z)
        | (rw [ng_am_t (Or.inr (Int32.not_le.mp h64))] at z; exact z)
        | (rw [ng_am_f (fun q => h57 (by rw [q]; rfl)) (Int32.not_lt.mpr h64)] at z; exact z)
      · refine ng_iload_7 dX1_bestBack_60 ?_
        refine ng_iload_5 dX1_bestBack_62 ?_
        refine ng_icmp_le 75 dX1_bestBack_64 (by decide +kernel) (fun h64 => ?_) (fun h64 => ?_)
        · refine ng_iinc_6 (w := 1) dX1_bestBack_75 (by decide) rfl ?_
          refine ng_goto 9 dX1_bestBack_78 (by decide +kernel) ?_
          rw [nI_1]
          have z := ih (i + 1) M4 (some (.int (ng_fb a t N i))) (by omega) hc.1
          first
          | (rw [ng_am_t (Or.inl (ng_nI0 h57 (by omega)))] at z; exact z)
          | (rw [ng_am_t (Or.inr (Int32.not_le.mp h64))] at z; exact z)
          | (rw [ng_am_f (fun q => h57 (by rw [q]; rfl)) (Int32.not_lt.mpr h64)] at z; exact z)
        · refine ng_iload_6 dX1_bestBack_67 ?_
          refine ng_istore_4 dX1_bestBack_69 (by first | rfl | assumption) ?_
          refine ng_iload_7 dX1_bestBack_71 ?_
          refine ng_istore_5 dX1_bestBack_73 (by first | rfl | assumption) ?_
          refine ng_iinc_6 (w := 1) dX1_bestBack_75 (by decide) rfl ?_
          refine ng_goto 9 dX1_bestBack_78 (by decide +kernel) ?_
          rw [nI_1]
          have z := ih (i + 1) M4 (some (.int (ng_fb a t N i))) (by omega) hc.1
          first
          | (rw [ng_am_t (Or.inl (ng_nI0 h57 (by omega)))] at z; exact z)
          | (rw [ng_am_t (Or.inr (Int32.not_le.mp h64))] at z; exact z)
          | (rw [ng_am_f (fun q => h57 (by rw [q]; rfl)) (Int32.not_lt.mpr h64)] at z; exact z)
theorem s_X1_bestBack {X : Nat × (Nat → Int32)} {M : ng_M} {a : ng_R} {n t : Int32} {N : Nat} (hr : ng_rl M a) (hv : ng_sv M 15 a) (hok : ng_okY a) (ht : vp_in t 10) (hn : n = nI N) (hN : N ≤ 40) : ng_EvI X 7 mi_X1_bestBack [.ref 39, .ref 15, .int n, .int t] M (fun r M1 => r = nI (ng_am (ng_fb a t N) 21).1 ∧ ng_off ng_J M M1) := by
  refine ng_EvI.of (lv := [some (.ref 39), some (.ref 15), some (.int n), some (.int t), none, none, none, none]) (ty := .int) (by decide) (Nat.le_of_ble_eq_true rfl) rfl rfl (fun _ _ _ => rfl) ?_
  refine ng_iconst_0 dX1_bestBack_0 ?_
  refine ng_istore_4 dX1_bestBack_1 (by first | rfl | assumption) ?_
  refine ng_iconst_0 dX1_bestBack_3 ?_
  refine ng_istore_5 dX1_bestBack_4 (by first | rfl | assumption) ?_
  refine ng_iconst_0 dX1_bestBack_6 ?_
  refine ng_istore_6 dX1_bestBack_7 (by first | rfl | assumption) ?_
  exact l_X1_bestBack hr hv hok ht hn hN 21 0 M _ (by omega) ng_off.rf
abbrev ok_back (n t : Int32) : Bool := ng_in n 0 20 && ng_in t 0 9
theorem c_back {X : Nat × (Nat → Int32)} {M : ng_M} {n t : Int32} (h : ng_I1 M) : ng_EvI X 8 mi_X8_back [.ref 0, .int n, .int t] M (fun r M1 => ng_a8 M (if ok_back n t then .inr (nI (ng_am (ng_fb (M 74) t n.toNatClampNeg) 21).1) else .inl 1) r M1) := by
  refine ng_EvI.of (lv := [some (.ref 0), some (.int n), some (.int t)]) (ty := .int) (by decide) (Nat.le_of_ble_eq_true rfl) rfl rfl (fun _ _ _ => rfl) ?_
  refine ng_iload_1 dX8_back_0 ?_
  refine ng_iconst_0 dX8_back_1 ?_
  refine ng_bipush (v := 20) dX8_back_2 (by decide) ?_
  refine ng_callS_3x (y2 := mi_X8_isWithin) dX8_back_4 lk_X8_61 ms_X8_isWithin my_X8_isWithin (by first | decide | exact Nat.le_of_ble_eq_true rfl) (s_X8_isWithin) (by decide) ?_
  refine ng_ifb_eq 17 dX8_back_7 (by decide +kernel) (fun h7 => ?_) (fun h7 => ?_)
  · refine ng_aload_0 dX8_back_17 ?_
    refine ng_ldc dX8_back_18 kc_X8_65 ?_
    refine ng_callV_1x (y2 := mi_X8_fails) dX8_back_20 lk_X8_66 ms_X8_fails my_X8_fails (by first | exact ⟨_, rfl⟩ | assumption | exact ng_fld_obj (f := 0) (by assumption)) mc_X8 (by first | decide | exact Nat.le_of_ble_eq_true rfl) (s_X8_fails (k := 1) (by decide) (by decide) (by decide)) (by decide) ?_
    exact ng_ireturn dX8_back_23 ⟨_, rfl, by rw [if_neg (by simp_all [ok_back])]; exact ⟨M, fun _ _ => rfl, by decide, rfl⟩⟩
  · refine ng_iload_2 dX8_back_10 ?_
    refine ng_callS_1x (y2 := mi_X8_isStep) dX8_back_11 lk_X8_57 ms_X8_isStep my_X8_isStep (by first | decide | exact Nat.le_of_ble_eq_true rfl) (s_X8_isStep) (by decide) ?_
    refine ng_ifb_ne 24 dX8_back_14 (by decide +kernel) (fun h14 => ?_) (fun h14 => ?_)
    · have hI := h.1.rl
      have ht := (ng_vin h14 (n := 10) (by decide)).1
      have hnv := ng_vin h7 (n := 21) (by decide)
      refine ng_aload_0 dX8_back_24 ?_
      refine ng_gR dX8_back_25 fl_X8_28 (by first | rfl | assumption) ?_
      refine ng_aload_0 dX8_back_28 ?_
      refine ng_gR dX8_back_29 fl_X8_12 (by first | rfl | assumption) ?_
      refine ng_gR dX8_back_32 fl_X8_81 (by first | rfl | assumption) ?_
      refine ng_iload_1 dX8_back_35 ?_
      refine ng_iload_2 dX8_back_36 ?_
      refine ng_callV_3i (y2 := mi_X1_bestBack) dX8_back_37 lk_X8_235 ms_X1_bestBack my_X1_bestBack (by first | exact ⟨_, rfl⟩ | assumption | exact ng_fld_obj (f := 0) (by assumption)) mc_X1 (by first | decide | exact Nat.le_of_ble_eq_true rfl) (s_X1_bestBack hI.1 hI.2.1 h.2.Y ht (ng_nat hnv.1) (by omega)) (by decide) (fun v M2 hf => ?_)
      exact ng_ireturn dX8_back_40 ⟨_, rfl, by rw [if_pos (by simp [ok_back, h7, h14])]; exact ⟨M2, ng_out.of hf.2 (by decide), hf.1, rfl⟩⟩
    · refine ng_aload_0 dX8_back_17 ?_
      refine ng_ldc dX8_back_18 kc_X8_65 ?_
      refine ng_callV_1x (y2 := mi_X8_fails) dX8_back_20 lk_X8_66 ms_X8_fails my_X8_fails (by first | exact ⟨_, rfl⟩ | assumption | exact ng_fld_obj (f := 0) (by assumption)) mc_X8 (by first | decide | exact Nat.le_of_ble_eq_true rfl) (s_X8_fails (k := 1) (by decide) (by decide) (by decide)) (by decide) ?_
      exact ng_ireturn dX8_back_23 ⟨_, rfl, by rw [if_neg (by simp_all [ok_back])]; exact ⟨M, fun _ _ => rfl, by decide, rfl⟩⟩
theorem l_X9_back {X : Nat × (Nat → Int32)} {M0 : ng_M} {n t : Int32} {N : Nat} (hok : ng_okY (M0 74)) (ht : vp_in t 10) (hn : n = nI N) (hN : N ≤ 40) : ∀ (m i : Nat) (M : ng_M) (x6 x7 : Option Value), i + m = 21 → ng_ra (ng_asd M0) M (M0 74) →
    ng_Go X mi_X9_back 9 43 [some (.ref 73), some (.int n), some (.int t), some (.int (ng_amB (ng_fb (M0 74) t N) i)), some (.int (ng_am (ng_fb (M0 74) t N) i).2), some (.int (nI i)), x6, x7] [] M (fun r' M' => ∃ v, r' = some (.int v) ∧ v = nI (ng_am (ng_fb (M0 74) t N) 21).1 ∧ ng_ra (ng_asd M0) M' (M0 74)) := by
  intro m
  induction m with
  | zero =>
    intro i M x6 x7 hi h
    have hi2 : i = 21 := by omega
    subst hi2
    refine ng_iload_5 dX9_back_43 ?_
    refine ng_bipush (v := 20) dX9_back_45 (by decide) ?_
    refine ng_icmp_gt 100 dX9_back_47 (by decide +kernel) (fun h47 => ?_) (fun h47 => ?_)
    · refine ng_iload_3 dX9_back_100 ?_
      exact ng_ireturn dX9_back_101 ⟨_, rfl, by rw [ng_amB, if_neg (by decide)], h⟩
    · exact absurd (show (20 : Int32) < nI 21 by decide) h47
  | succ m ih =>
    intro i M x6 x7 hi h
    refine ng_iload_5 dX9_back_43 ?_
    refine ng_bipush (v := 20) dX9_back_45 (by decide) ?_
    refine ng_icmp_gt 100 dX9_back_47 (by decide +kernel) (fun h47 => ?_) (fun h47 => ?_)
    · exact absurd (show nI 20 < nI i from h47) (ng_nI_lt (by omega) (by omega))
    · refine ng_aload_0 dX9_back_50 ?_
      refine ng_iload_2 dX9_back_51 ?_
      refine ng_iload_5 dX9_back_52 ?_
      refine ng_iconst_0 dX9_back_54 ?_
      refine ng_callV_3i (y2 := mi_X9_goes) dX9_back_55 lk_X9_219 ms_X9_goes my_X9_goes (by first | exact ⟨_, rfl⟩ | assumption | exact ng_fld_obj (f := 0) (by assumption)) mc_X9 (by first | decide | exact Nat.le_of_ble_eq_true rfl) (s_X9_goesA h ht (ng_nIb (by omega)).1 (ng_nIb (by omega)).2) (by decide) (fun v M2 hg => ?_)
      refine ng_istore_6 dX9_back_58 (by first | rfl | assumption) ?_
      refine ng_aload_0 dX9_back_60 ?_
      refine ng_iload_1 dX9_back_61 ?_
      refine ng_iload_2 dX9_back_62 ?_
      refine ng_callV_2w (y2 := mi_X9_yearsGo) dX9_back_63 lk_X9_233 ms_X9_yearsGo my_X9_yearsGo (by first | exact ⟨_, rfl⟩ | assumption | exact ng_fld_obj (f := 0) (by assumption)) mc_X9 (by first | decide | exact Nat.le_of_ble_eq_true rfl) (s_X9_yearsGo hg.2 ht hn hN) (by decide) (fun M3 hc => ?_)
      refine ng_aload_0 dX9_back_66 ?_
      refine ng_aload_0 dX9_back_67 ?_
      refine ng_callV_0x (y2 := mi_X9_ends) dX9_back_68 lk_X9_227 ms_X9_ends my_X9_ends (by first | exact ⟨_, rfl⟩ | assumption | exact ng_fld_obj (f := 0) (by assumption)) mc_X9 (by first | decide | exact Nat.le_of_ble_eq_true rfl) (s_X9_ends (by rw [hc.2.1]; exact hc.2.2.2.wfr.1.1.2.1)) (by decide) ?_
      refine ng_callV_1x (y2 := mi_X9_putBack) dX9_back_71 lk_X9_240 ms_X9_putBack my_X9_putBack (by first | exact ⟨_, rfl⟩ | assumption | exact ng_fld_obj (f := 0) (by assumption)) mc_X9 (by first | decide | exact Nat.le_of_ble_eq_true rfl) (s_X9_putBack) (by decide) ?_
      have ha := hc.again hok
      have he : ng_ends (M3 74) = ng_fb (M0 74) t N i := by rw [hc.2.1]; rfl
      rw [he]
      refine ng_istore_7 dX9_back_74 (by first | rfl | assumption) ?_
      refine ng_iload_3 dX9_back_76 ?_
      refine ng_if_lt 87 dX9_back_77 (by decide +kernel) (fun h77 => ?_) (fun h77 => ?_)
      · refine ng_iload_5 dX9_back_87 ?_
        refine ng_istore_3 dX9_back_89 (by first | rfl | assumption) ?_
        refine ng_iload_7 dX9_back_90 ?_
        refine ng_istore_4 dX9_back_92 (by first | rfl | assumption) ?_
        refine ng_iinc_5 (w := 1) dX9_back_94 (by decide) rfl ?_
        refine ng_goto 43 dX9_back_97 (by decide +kernel) ?_
        rw [nI_1]
        have z := ih (i + 1) _ (some (.int v)) (some (.int (ng_fb (M0 74) t N i))) (by omega) ha
        rw [ng_amB_neg (by omega)] at h77
        first
        | (rw [ng_amB_t (Or.inl h77), ng_am_t (Or.inl h77)] at z; exact z)
        | (rw [ng_amB_t (Or.inr (Int32.not_le.mp h84)), ng_am_t (Or.inr (Int32.not_le.mp h84))] at z; exact z)
        | (rw [ng_amB_f h77 (Int32.not_lt.mpr h84), ng_am_f h77 (Int32.not_lt.mpr h84)] at z; exact z)
      · refine ng_iload_7 dX9_back_80 ?_
        refine ng_iload_4 dX9_back_82 ?_
        refine ng_icmp_le 94 dX9_back_84 (by decide +kernel) (fun h84 => ?_) (fun h84 => ?_)
        · refine ng_iinc_5 (w := 1) dX9_back_94 (by decide) rfl ?_
          refine ng_goto 43 dX9_back_97 (by decide +kernel) ?_
          rw [nI_1]
          have z := ih (i + 1) _ (some (.int v)) (some (.int (ng_fb (M0 74) t N i))) (by omega) ha
          rw [ng_amB_neg (by omega)] at h77
          first
          | (rw [ng_amB_t (Or.inl h77), ng_am_t (Or.inl h77)] at z; exact z)
          | (rw [ng_amB_t (Or.inr (Int32.not_le.mp h84)), ng_am_t (Or.inr (Int32.not_le.mp h84))] at z; exact z)
          | (rw [ng_amB_f h77 (Int32.not_lt.mpr h84), ng_am_f h77 (Int32.not_lt.mpr h84)] at z; exact z)
        · refine ng_iload_5 dX9_back_87 ?_
          refine ng_istore_3 dX9_back_89 (by first | rfl | assumption) ?_
          refine ng_iload_7 dX9_back_90 ?_
          refine ng_istore_4 dX9_back_92 (by first | rfl | assumption) ?_
          refine ng_iinc_5 (w := 1) dX9_back_94 (by decide) rfl ?_
          refine ng_goto 43 dX9_back_97 (by decide +kernel) ?_
          rw [nI_1]
          have z := ih (i + 1) _ (some (.int v)) (some (.int (ng_fb (M0 74) t N i))) (by omega) ha
          rw [ng_amB_neg (by omega)] at h77
          first
          | (rw [ng_amB_t (Or.inl h77), ng_am_t (Or.inl h77)] at z; exact z)
          | (rw [ng_amB_t (Or.inr (Int32.not_le.mp h84)), ng_am_t (Or.inr (Int32.not_le.mp h84))] at z; exact z)
          | (rw [ng_amB_f h77 (Int32.not_lt.mpr h84), ng_am_f h77 (Int32.not_lt.mpr h84)] at z; exact z)
theorem r_back {X : Nat × (Nat → Int32)} {M : ng_M} {n t : Int32} (h : ng_ok (M 74)) : ng_EvI X 9 mi_X9_back [.ref 73, .int n, .int t] M (fun r M1 => ng_a9 M (if ok_back n t then .inr (nI (ng_am (ng_fb (M 74) t n.toNatClampNeg) 21).1) else .inl 1) r M1) := by
  refine ng_EvI.of (lv := [some (.ref 73), some (.int n), some (.int t), none, none, none, none, none]) (ty := .int) (by decide) (Nat.le_of_ble_eq_true rfl) rfl rfl (fun _ _ _ => rfl) ?_
  refine ng_iload_1 dX9_back_0 ?_
  refine ng_iconst_0 dX9_back_1 ?_
  refine ng_bipush (v := 20) dX9_back_2 (by decide) ?_
  refine ng_callS_3x (y2 := mi_X9_within) dX9_back_4 lk_X9_80 ms_X9_within my_X9_within (by first | decide | exact Nat.le_of_ble_eq_true rfl) (s_X9_within) (by decide) ?_
  refine ng_ifb_eq 17 dX9_back_7 (by decide +kernel) (fun h7 => ?_) (fun h7 => ?_)
  · refine ng_aload_0 dX9_back_17 ?_
    refine ng_ldc dX9_back_18 kc_X9_91 ?_
    refine ng_callV_1x (y2 := mi_X9_finding) dX9_back_20 lk_X9_92 ms_X9_finding my_X9_finding (by first | exact ⟨_, rfl⟩ | assumption | exact ng_fld_obj (f := 0) (by assumption)) mc_X9 (by first | decide | exact Nat.le_of_ble_eq_true rfl) (s_X9_finding (k := 1) (by decide) (by decide) (by decide)) (by decide) ?_
    exact ng_ireturn dX9_back_23 ⟨_, rfl, by rw [if_neg (by simp_all [ok_back])]; exact ⟨M, ng_rout.rf, by decide, rfl⟩⟩
  · refine ng_iload_2 dX9_back_10 ?_
    refine ng_callS_1x (y2 := mi_X9_isStep) dX9_back_11 lk_X9_84 ms_X9_isStep my_X9_isStep (by first | decide | exact Nat.le_of_ble_eq_true rfl) (s_X9_isStep) (by decide) ?_
    refine ng_ifb_ne 24 dX9_back_14 (by decide +kernel) (fun h14 => ?_) (fun h14 => ?_)
    · have ht := (ng_vin h14 (n := 10) (by decide)).1
      have hnv := ng_vin h7 (n := 21) (by decide)
      refine ng_aload_0 dX9_back_24 ?_
      refine ng_gR dX9_back_25 fl_X9_9 (by first | rfl | assumption) ?_
      refine ng_aload_0 dX9_back_28 ?_
      refine ng_gR dX9_back_29 fl_X9_16 (by first | rfl | assumption) ?_
      refine ng_callS_2v (y2 := mi_X9_copy) dX9_back_32 lk_X9_76 ms_X9_copy my_X9_copy (by first | decide | exact Nat.le_of_ble_eq_true rfl) (s_X9_copy rfl rfl (by decide)) (by decide) ?_
      refine ng_iconst_m1 dX9_back_35 ?_
      refine ng_istore_3 dX9_back_36 (by first | rfl | assumption) ?_
      refine ng_iconst_0 dX9_back_37 ?_
      refine ng_istore_4 dX9_back_38 (by first | rfl | assumption) ?_
      refine ng_iconst_0 dX9_back_40 ?_
      refine ng_istore_5 dX9_back_41 (by first | rfl | assumption) ?_
      refine (l_X9_back (M0 := M) h.Y ht (ng_nat hnv.1) (by omega) 21 0 _ _ _ (by omega) (ng_ra.start h.Y)).imp (fun r M2 q => ?_)
      obtain ⟨v, q1, q2, q3⟩ := q
      refine ⟨v, q1, ?_⟩
      rw [if_pos (by simp [ok_back, h7, h14])]
      exact ⟨M2, q3.outS, q2, rfl⟩
    · refine ng_aload_0 dX9_back_17 ?_
      refine ng_ldc dX9_back_18 kc_X9_91 ?_
      refine ng_callV_1x (y2 := mi_X9_finding) dX9_back_20 lk_X9_92 ms_X9_finding my_X9_finding (by first | exact ⟨_, rfl⟩ | assumption | exact ng_fld_obj (f := 0) (by assumption)) mc_X9 (by first | decide | exact Nat.le_of_ble_eq_true rfl) (s_X9_finding (k := 1) (by decide) (by decide) (by decide)) (by decide) ?_
      exact ng_ireturn dX9_back_23 ⟨_, rfl, by rw [if_neg (by simp_all [ok_back])]; exact ⟨M, ng_rout.rf, by decide, rfl⟩⟩
theorem pr_back {X : Nat × (Nat → Int32)} {M : ng_M} {n t : Int32} (h : ng_inv M) : ng_pair X mi_X8_back mi_X9_back [.int n, .int t] M :=
  ng_pair.A h (c_back h.1) (by decide) (d9 := 9) (by decide) (fun M1 e => by rw [← e 74 (by decide)]; exact r_back (by rw [e 74 (by decide)]; exact h.1.2))
/-! whom -/
theorem ng_ca.gv {X : Nat × (Nat → Int32)} {M0 M : ng_M} {a : ng_R} {i : Nat} (h : ng_ca M0 M 41 a) (hok : ng_okY (ng_gv a i)) (hi : i < 8) : ng_EvV X 4 mi_X5_gives [.ref 41, .int (nI i)] M (fun M' => ng_ca M0 M' 41 (ng_gv a i)) :=
  (s_X5_gives ng_isS41 h.2.1 h.2.2.1 h.2.2.2.wfr.2 rfl hi).imp (fun M' g => ⟨h.1.tr (fun k hk => g.1 k (by simp at hk ⊢; omega)), h.2.1.kept (fun k hk => g.1 k (by simp at hk ⊢; omega)) (fun k hk => ng_gv_hi (by omega) (by omega) (by omega)), g.2.1, hok⟩)
theorem l_X1_bestGiven {X : Nat × (Nat → Int32)} {M0 : ng_M} {a : ng_R} {n t : Int32} {N B : Nat} (hr : ng_rl M0 a) (hv : ng_sv M0 15 a) (hok : ng_ok a) (h5 : ¬ a 5 = 0) (hB : a 1 = nI B) (hB8 : B ≤ 8) (ht : vp_in t 10) (hn : n = nI N) (hN : N ≤ 40) : ∀ (m i : Nat) (M : ng_M) (x7 : Option Value), i + m = B → ng_off ng_J M0 M →
    ng_Go X mi_X1_bestGiven 7 9 [some (.ref 39), some (.ref 15), some (.int n), some (.int t), some (.int (nI (ng_am (ng_fw a t N) i).1)), some (.int (ng_am (ng_fw a t N) i).2), some (.int (nI i)), x7] [] M (fun r' M' => ∃ v, r' = some (.int v) ∧ v = nI (ng_am (ng_fw a t N) B).1 ∧ ng_off ng_J M0 M') := by
  intro m
  induction m with
  | zero =>
    intro i M x7 hi h
    have hi2 : i = B := by omega
    subst hi2
    have e2 : M 2 6 = nI i := (congrFun (h 2 (by decide)) 6).trans (hr.2.2.1.trans hB)
    refine ng_iload_6 dX1_bestGiven_9 ?_
    refine ng_aload_1 dX1_bestGiven_11 ?_
    refine ng_gR dX1_bestGiven_12 fl_X1_92 (by first | rfl | assumption) ?_
    refine ng_gI dX1_bestGiven_15 fl_X1_96 (by first | rfl | assumption) ?_
    refine ng_icmp_ge 82 dX1_bestGiven_18 (by decide +kernel) (fun h18 => ?_) (fun h18 => ?_)
    · refine ng_iload_4 dX1_bestGiven_82 ?_
      exact ng_ireturn dX1_bestGiven_84 ⟨_, rfl, rfl, h⟩
    · exact absurd (by rw [e2]; exact Int32.le_refl _) h18
  | succ m ih =>
    intro i M x7 hi h
    have e2 : M 2 6 = nI B := (congrFun (h 2 (by decide)) 6).trans (hr.2.2.1.trans hB)
    refine ng_iload_6 dX1_bestGiven_9 ?_
    refine ng_aload_1 dX1_bestGiven_11 ?_
    refine ng_gR dX1_bestGiven_12 fl_X1_92 (by first | rfl | assumption) ?_
    refine ng_gI dX1_bestGiven_15 fl_X1_96 (by first | rfl | assumption) ?_
    refine ng_icmp_ge 82 dX1_bestGiven_18 (by decide +kernel) (fun h18 => ?_) (fun h18 => ?_)
    · rw [e2] at h18; exact absurd h18 (nI_ge (by omega) (by omega))
    · refine ng_aload_0 dX1_bestGiven_21 ?_
      refine ng_gR dX1_bestGiven_22 fl_X1_27 (by first | rfl | assumption) ?_
      refine ng_aload_1 dX1_bestGiven_25 ?_
      refine ng_callV_1w (y2 := mi_X5_take) dX1_bestGiven_26 lk_X1_31 ms_X5_take my_X5_take (by first | exact ⟨_, rfl⟩ | assumption | exact ng_fld_obj (f := 0) (by assumption)) mc_X5 (by first | decide | exact Nat.le_of_ble_eq_true rfl) (s_X5_takeA h hr hv hok.Y) (by decide) (fun M2 hf => ?_)
      refine ng_aload_0 dX1_bestGiven_29 ?_
      refine ng_gR dX1_bestGiven_30 fl_X1_27 (by first | rfl | assumption) ?_
      refine ng_iload_6 dX1_bestGiven_33 ?_
      refine ng_callV_1w (y2 := mi_X5_gives) dX1_bestGiven_35 lk_X1_101 ms_X5_gives my_X5_gives (by first | exact ⟨_, rfl⟩ | assumption | exact ng_fld_obj (f := 0) (by assumption)) mc_X5 (by first | decide | exact Nat.le_of_ble_eq_true rfl) (hf.gv (ng_ok_gv hok (by omega) h5).Y (by omega)) (by decide) (fun M3 hg => ?_)
      refine ng_aload_0 dX1_bestGiven_38 ?_
      refine ng_gR dX1_bestGiven_39 fl_X1_27 (by first | rfl | assumption) ?_
      refine ng_iload_2 dX1_bestGiven_42 ?_
      refine ng_iload_3 dX1_bestGiven_43 ?_
      refine ng_callV_2w (y2 := mi_X5_goesYears) dX1_bestGiven_44 lk_X1_88 ms_X5_goesYears my_X5_goesYears (by first | exact ⟨_, rfl⟩ | assumption | exact ng_fld_obj (f := 0) (by assumption)) mc_X5 (by first | decide | exact Nat.le_of_ble_eq_true rfl) (s_X5_goesYears ng_isS41 hg ht hn hN) (by decide) (fun M4 hc => ?_)
      refine ng_aload_0 dX1_bestGiven_47 ?_
      refine ng_gR dX1_bestGiven_48 fl_X1_27 (by first | rfl | assumption) ?_
      refine ng_callV_0x (y2 := mi_X5_ends) dX1_bestGiven_51 lk_X1_64 ms_X5_ends my_X5_ends (by first | exact ⟨_, rfl⟩ | assumption | exact ng_fld_obj (f := 0) (by assumption)) mc_X5 (by first | decide | exact Nat.le_of_ble_eq_true rfl) (s_X5_endsA ng_isS41 hc.2.1 hc.2.2.1 hc.2.2.2) (by decide) ?_
      refine ng_istore_7 dX1_bestGiven_54 (by first | rfl | assumption) ?_
      refine ng_iload_6 dX1_bestGiven_56 ?_
      refine ng_if_eq 68 dX1_bestGiven_58 (by decide +kernel) (fun h58 => ?_) (fun h58 => ?_)
      · refine ng_iload_6 dX1_bestGiven_68 ?_
        refine ng_istore_4 dX1_bestGiven_70 (by first | rfl | assumption) ?_
        refine ng_iload_7 dX1_bestGiven_72 ?_
        refine ng_istore_5 dX1_bestGiven_74 (by first | rfl | assumption) ?_
        refine ng_iinc_6 (w := 1) dX1_bestGiven_76 (by decide) rfl ?_
        refine ng_goto 9 dX1_bestGiven_79 (by decide +kernel) ?_
        rw [nI_1]
        have z := ih (i + 1) M4 (some (.int (ng_fw a t N i))) (by omega) hc.1
        first
        | (rw [ng_am_t (Or.inl (ng_nI0 h58 (by omega)))] at z; exact z)
        | (rw [ng_am_t (Or.inr (Int32.not_le.mp h65))] at z; exact z)
        | (rw [ng_am_f (fun q => h58 (by rw [q]; rfl)) (Int32.not_lt.mpr h65)] at z; exact z)
      · refine ng_iload_7 dX1_bestGiven_61 ?_
        refine ng_iload_5 dX1_bestGiven_63 ?_
        refine ng_icmp_le 76 dX1_bestGiven_65 (by decide +kernel) (fun h65 => ?_) (fun h65 => ?_)
        · refine ng_iinc_6 (w := 1) dX1_bestGiven_76 (by decide) rfl ?_
          refine ng_goto 9 dX1_bestGiven_79 (by decide +kernel) ?_
          rw [nI_1]
          have z := ih (i + 1) M4 (some (.int (ng_fw a t N i))) (by omega) hc.1
          first
          | (rw [ng_am_t (Or.inl (ng_nI0 h58 (by omega)))] at z; exact z)
          | (rw [ng_am_t (Or.inr (Int32.not_le.mp h65))] at z; exact z)
          | (rw [ng_am_f (fun q => h58 (by rw [q]; rfl)) (Int32.not_lt.mpr h65)] at z; exact z)
        · refine ng_iload_6 dX1_bestGiven_68 ?_
          refine ng_istore_4 dX1_bestGiven_70 (by first | rfl | assumption) ?_
          refine ng_iload_7 dX1_bestGiven_72 ?_
          refine ng_istore_5 dX1_bestGiven_74 (by first | rfl | assumption) ?_
          refine ng_iinc_6 (w := 1) dX1_bestGiven_76 (by decide) rfl ?_
          refine ng_goto 9 dX1_bestGiven_79 (by decide +kernel) ?_
          rw [nI_1]
          have z := ih (i + 1) M4 (some (.int (ng_fw a t N i))) (by omega) hc.1
          first
          | (rw [ng_am_t (Or.inl (ng_nI0 h58 (by omega)))] at z; exact z)
          | (rw [ng_am_t (Or.inr (Int32.not_le.mp h65))] at z; exact z)
          | (rw [ng_am_f (fun q => h58 (by rw [q]; rfl)) (Int32.not_lt.mpr h65)] at z; exact z)
theorem s_X1_bestGiven {X : Nat × (Nat → Int32)} {M : ng_M} {a : ng_R} {n t : Int32} {N B : Nat} (hr : ng_rl M a) (hv : ng_sv M 15 a) (hok : ng_ok a) (h5 : ¬ a 5 = 0) (hB : a 1 = nI B) (hB8 : B ≤ 8) (ht : vp_in t 10) (hn : n = nI N) (hN : N ≤ 40) : ng_EvI X 7 mi_X1_bestGiven [.ref 39, .ref 15, .int n, .int t] M (fun r M1 => r = nI (ng_am (ng_fw a t N) B).1 ∧ ng_off ng_J M M1) := by
  refine ng_EvI.of (lv := [some (.ref 39), some (.ref 15), some (.int n), some (.int t), none, none, none, none]) (ty := .int) (by decide) (Nat.le_of_ble_eq_true rfl) rfl rfl (fun _ _ _ => rfl) ?_
  refine ng_iconst_0 dX1_bestGiven_0 ?_
  refine ng_istore_4 dX1_bestGiven_1 (by first | rfl | assumption) ?_
  refine ng_iconst_0 dX1_bestGiven_3 ?_
  refine ng_istore_5 dX1_bestGiven_4 (by first | rfl | assumption) ?_
  refine ng_iconst_0 dX1_bestGiven_6 ?_
  refine ng_istore_6 dX1_bestGiven_7 (by first | rfl | assumption) ?_
  exact l_X1_bestGiven hr hv hok h5 hB hB8 ht hn hN B 0 M _ (by omega) ng_off.rf
abbrev ok_whom (n t : Int32) : Bool := ng_in n 0 40 && ng_in t 0 9
def ng_whom (a : ng_R) (n t : Int32) : Nat ⊕ Int32 := if ok_whom n t then (if a 5 = 0 then .inl 3 else if a 1 = 0 then .inl 2 else .inr (nI (ng_am (ng_fw a t n.toNatClampNeg) (ng_yn a)).1)) else .inl 1
theorem c_whom {X : Nat × (Nat → Int32)} {M : ng_M} {n t : Int32} (h : ng_I1 M) : ng_EvI X 8 mi_X8_whom [.ref 0, .int n, .int t] M (fun r M1 => ng_a8 M (ng_whom (M 74) n t) r M1) := by
  refine ng_EvI.of (lv := [some (.ref 0), some (.int n), some (.int t)]) (ty := .int) (by decide) (Nat.le_of_ble_eq_true rfl) rfl rfl (fun _ _ _ => rfl) ?_
  have hI := h.1.rl
  obtain ⟨B, hB, hB8⟩ := h.2.wfr.1.1.1
  have e5 : M 15 6 = M 74 5 := hI.2.1.2.2.2.2.1
  have e1 : M 2 6 = M 74 1 := hI.1.2.2.1
  unfold ng_whom
  rw [ng_yn_of hB hB8]
  refine ng_iload_1 dX8_whom_0 ?_
  refine ng_iconst_0 dX8_whom_1 ?_
  refine ng_bipush (v := 40) dX8_whom_2 (by decide) ?_
  refine ng_callS_3x (y2 := mi_X8_isWithin) dX8_whom_4 lk_X8_61 ms_X8_isWithin my_X8_isWithin (by first | decide | exact Nat.le_of_ble_eq_true rfl) (s_X8_isWithin) (by decide) ?_
  refine ng_ifb_eq 17 dX8_whom_7 (by decide +kernel) (fun h7 => ?_) (fun h7 => ?_)
  · refine ng_aload_0 dX8_whom_17 ?_
    refine ng_ldc dX8_whom_18 kc_X8_65 ?_
    refine ng_callV_1x (y2 := mi_X8_fails) dX8_whom_20 lk_X8_66 ms_X8_fails my_X8_fails (by first | exact ⟨_, rfl⟩ | assumption | exact ng_fld_obj (f := 0) (by assumption)) mc_X8 (by first | decide | exact Nat.le_of_ble_eq_true rfl) (s_X8_fails (k := 1) (by decide) (by decide) (by decide)) (by decide) ?_
    exact ng_ireturn dX8_whom_23 ⟨_, rfl, by rw [if_neg (by simp_all [ok_whom])]; exact ⟨M, fun _ _ => rfl, by decide, rfl⟩⟩
  · refine ng_iload_2 dX8_whom_10 ?_
    refine ng_callS_1x (y2 := mi_X8_isStep) dX8_whom_11 lk_X8_57 ms_X8_isStep my_X8_isStep (by first | decide | exact Nat.le_of_ble_eq_true rfl) (s_X8_isStep) (by decide) ?_
    refine ng_ifb_ne 24 dX8_whom_14 (by decide +kernel) (fun h14 => ?_) (fun h14 => ?_)
    · have ht := (ng_vin h14 (n := 10) (by decide)).1
      have hnv := ng_vin h7 (n := 41) (by decide)
      refine ng_aload_0 dX8_whom_24 ?_
      refine ng_gR dX8_whom_25 fl_X8_12 (by first | rfl | assumption) ?_
      refine ng_gR dX8_whom_28 fl_X8_81 (by first | rfl | assumption) ?_
      refine ng_gI dX8_whom_31 fl_X8_199 (by first | rfl | assumption) ?_
      rw [e5]
      refine ng_if_ne 44 dX8_whom_34 (by decide +kernel) (fun h34 => ?_) (fun h34 => ?_)
      · refine ng_aload_0 dX8_whom_44 ?_
        refine ng_gR dX8_whom_45 fl_X8_12 (by first | rfl | assumption) ?_
        refine ng_gR dX8_whom_48 fl_X8_21 (by first | rfl | assumption) ?_
        refine ng_gI dX8_whom_51 fl_X8_239 (by first | rfl | assumption) ?_
        rw [e1]
        refine ng_if_ne 66 dX8_whom_54 (by decide +kernel) (fun h54 => ?_) (fun h54 => ?_)
        · refine ng_aload_0 dX8_whom_66 ?_
          refine ng_gR dX8_whom_67 fl_X8_28 (by first | rfl | assumption) ?_
          refine ng_aload_0 dX8_whom_70 ?_
          refine ng_gR dX8_whom_71 fl_X8_12 (by first | rfl | assumption) ?_
          refine ng_gR dX8_whom_74 fl_X8_81 (by first | rfl | assumption) ?_
          refine ng_iload_1 dX8_whom_77 ?_
          refine ng_iload_2 dX8_whom_78 ?_
          refine ng_callV_3i (y2 := mi_X1_bestGiven) dX8_whom_79 lk_X8_242 ms_X1_bestGiven my_X1_bestGiven (by first | exact ⟨_, rfl⟩ | assumption | exact ng_fld_obj (f := 0) (by assumption)) mc_X1 (by first | decide | exact Nat.le_of_ble_eq_true rfl) (s_X1_bestGiven hI.1 hI.2.1 h.2 h34 hB hB8 ht (ng_nat hnv.1) (by omega)) (by decide) (fun v M2 hf => ?_)
          exact ng_ireturn dX8_whom_82 ⟨_, rfl, by
  rw [if_pos (by simp [ok_whom, h7, h14]), if_neg h34]
  first
  | (rw [if_pos h54]; exact ⟨M, fun _ _ => rfl, by decide, rfl⟩)
  | (rw [if_neg h54]; exact ⟨M2, ng_out.of hf.2 (by decide), hf.1, rfl⟩)⟩
        · refine ng_aload_0 dX8_whom_57 ?_
          refine ng_ldc dX8_whom_58 kc_X8_130 ?_
          refine ng_callV_1x (y2 := mi_X8_fails) dX8_whom_60 lk_X8_66 ms_X8_fails my_X8_fails (by first | exact ⟨_, rfl⟩ | assumption | exact ng_fld_obj (f := 0) (by assumption)) mc_X8 (by first | decide | exact Nat.le_of_ble_eq_true rfl) (s_X8_fails (k := 2) (by decide) (by decide) (by decide)) (by decide) ?_
          refine ng_goto 82 dX8_whom_63 (by decide +kernel) ?_
          exact ng_ireturn dX8_whom_82 ⟨_, rfl, by
  rw [if_pos (by simp [ok_whom, h7, h14]), if_neg h34]
  first
  | (rw [if_pos h54]; exact ⟨M, fun _ _ => rfl, by decide, rfl⟩)
  | (rw [if_neg h54]; exact ⟨M2, ng_out.of hf.2 (by decide), hf.1, rfl⟩)⟩
      · refine ng_aload_0 dX8_whom_37 ?_
        refine ng_ldc dX8_whom_38 kc_X8_191 ?_
        refine ng_callV_1x (y2 := mi_X8_fails) dX8_whom_40 lk_X8_66 ms_X8_fails my_X8_fails (by first | exact ⟨_, rfl⟩ | assumption | exact ng_fld_obj (f := 0) (by assumption)) mc_X8 (by first | decide | exact Nat.le_of_ble_eq_true rfl) (s_X8_fails (k := 3) (by decide) (by decide) (by decide)) (by decide) ?_
        exact ng_ireturn dX8_whom_43 ⟨_, rfl, by rw [if_pos (by simp [ok_whom, h7, h14]), if_pos h34]; exact ⟨M, fun _ _ => rfl, by decide, rfl⟩⟩
    · refine ng_aload_0 dX8_whom_17 ?_
      refine ng_ldc dX8_whom_18 kc_X8_65 ?_
      refine ng_callV_1x (y2 := mi_X8_fails) dX8_whom_20 lk_X8_66 ms_X8_fails my_X8_fails (by first | exact ⟨_, rfl⟩ | assumption | exact ng_fld_obj (f := 0) (by assumption)) mc_X8 (by first | decide | exact Nat.le_of_ble_eq_true rfl) (s_X8_fails (k := 1) (by decide) (by decide) (by decide)) (by decide) ?_
      exact ng_ireturn dX8_whom_23 ⟨_, rfl, by rw [if_neg (by simp_all [ok_whom])]; exact ⟨M, fun _ _ => rfl, by decide, rfl⟩⟩
theorem l_X9_whom {X : Nat × (Nat → Int32)} {M0 : ng_M} {n t : Int32} {N B : Nat} {F : Option Value → ng_M → Prop} (hok : ng_ok (M0 74)) (h5 : ¬ M0 74 5 = 0) (hB : M0 74 1 = nI B) (hB8 : B ≤ 8) (ht : vp_in t 10) (hn : n = nI N) (hN : N ≤ 40) : ∀ (m i : Nat) (M : ng_M) (x6 x7 : Option Value), i + m = B → ng_ra (ng_asd M0) M (M0 74) →
    (∀ (M' : ng_M) (x4 x5 x6 x7 : Option Value), ng_ra (ng_asd M0) M' (M0 74) → ng_Go X mi_X9_whom 9 115 [some (.ref 73), some (.int n), some (.int t), some (.int (ng_amB (ng_fw (M0 74) t N) B)), x4, x5, x6, x7] [] M' F) →
    ng_Go X mi_X9_whom 9 56 [some (.ref 73), some (.int n), some (.int t), some (.int (ng_amB (ng_fw (M0 74) t N) i)), some (.int (ng_am (ng_fw (M0 74) t N) i).2), some (.int (nI i)), x6, x7] [] M F := by
  intro m
  induction m with
  | zero =>
    intro i M x6 x7 hi h kk
    have hi2 : i = B := by omega
    subst hi2
    have e1 : M 74 1 = nI i := by rw [h.2.1]; exact hB
    refine ng_iload_5 dX9_whom_56 ?_
    refine ng_aload_0 dX9_whom_58 ?_
    refine ng_gR dX9_whom_59 fl_X9_9 (by first | rfl | assumption) ?_
    refine ng_iconst_1 dX9_whom_62 ?_
    refine ng_ialdL (j := 1) dX9_whom_63 (by first | rfl | assumption) (by first | assumption | (unfold vp_in; decide)) (by decide) ?_
    refine ng_icmp_ge 115 dX9_whom_64 (by decide +kernel) (fun h64 => ?_) (fun h64 => ?_)
    · exact kk M _ _ _ _ h
    · exact absurd (by rw [e1]; exact Int32.le_refl _) h64
  | succ m ih =>
    intro i M x6 x7 hi h kk
    have e1 : M 74 1 = nI B := by rw [h.2.1]; exact hB
    have hgv : ng_ra (ng_asd M0) (ng_row M 74 (ng_gv (M 74) i)) (ng_gv (M0 74) i) := by
      refine ⟨fun k hk => ?_, by rw [ng_row_eq, h.2.1], fun k hk => ?_, (ng_ok_gv hok (by omega) h5).Y⟩
      · simp at hk
        rw [ng_row_ne (by omega)]
        exact h.1 k (by simp; omega)
      · rw [ng_gv_hi (by omega) (by omega) (by omega)]; exact h.2.2.1 k hk
    refine ng_iload_5 dX9_whom_56 ?_
    refine ng_aload_0 dX9_whom_58 ?_
    refine ng_gR dX9_whom_59 fl_X9_9 (by first | rfl | assumption) ?_
    refine ng_iconst_1 dX9_whom_62 ?_
    refine ng_ialdL (j := 1) dX9_whom_63 (by first | rfl | assumption) (by first | assumption | (unfold vp_in; decide)) (by decide) ?_
    refine ng_icmp_ge 115 dX9_whom_64 (by decide +kernel) (fun h64 => ?_) (fun h64 => ?_)
    · rw [e1] at h64; exact absurd h64 (nI_ge (by omega) (by omega))
    · refine ng_aload_0 dX9_whom_67 ?_
      refine ng_iload_5 dX9_whom_68 ?_
      refine ng_callV_1x (y2 := mi_X9_gives) dX9_whom_70 lk_X9_223 ms_X9_gives my_X9_gives (by first | exact ⟨_, rfl⟩ | assumption | exact ng_fld_obj (f := 0) (by assumption)) mc_X9 (by first | decide | exact Nat.le_of_ble_eq_true rfl) (s_X9_gives (by rw [h.2.1]; exact hok.wfr.2) rfl (by omega)) (by decide) ?_
      refine ng_istore_6 dX9_whom_73 (by first | rfl | assumption) ?_
      refine ng_aload_0 dX9_whom_75 ?_
      refine ng_iload_1 dX9_whom_76 ?_
      refine ng_iload_2 dX9_whom_77 ?_
      refine ng_callV_2w (y2 := mi_X9_yearsGo) dX9_whom_78 lk_X9_233 ms_X9_yearsGo my_X9_yearsGo (by first | exact ⟨_, rfl⟩ | assumption | exact ng_fld_obj (f := 0) (by assumption)) mc_X9 (by first | decide | exact Nat.le_of_ble_eq_true rfl) (s_X9_yearsGo hgv ht hn hN) (by decide) (fun M3 hc => ?_)
      refine ng_aload_0 dX9_whom_81 ?_
      refine ng_aload_0 dX9_whom_82 ?_
      refine ng_callV_0x (y2 := mi_X9_ends) dX9_whom_83 lk_X9_227 ms_X9_ends my_X9_ends (by first | exact ⟨_, rfl⟩ | assumption | exact ng_fld_obj (f := 0) (by assumption)) mc_X9 (by first | decide | exact Nat.le_of_ble_eq_true rfl) (s_X9_ends (by rw [hc.2.1]; exact hc.2.2.2.wfr.1.1.2.1)) (by decide) ?_
      refine ng_callV_1x (y2 := mi_X9_putBack) dX9_whom_86 lk_X9_240 ms_X9_putBack my_X9_putBack (by first | exact ⟨_, rfl⟩ | assumption | exact ng_fld_obj (f := 0) (by assumption)) mc_X9 (by first | decide | exact Nat.le_of_ble_eq_true rfl) (s_X9_putBack) (by decide) ?_
      have ha := hc.again hok.Y
      have he : ng_ends (M3 74) = ng_fw (M0 74) t N i := by rw [hc.2.1]; rfl
      rw [he]
      refine ng_istore_7 dX9_whom_89 (by first | rfl | assumption) ?_
      refine ng_iload_3 dX9_whom_91 ?_
      refine ng_if_lt 102 dX9_whom_92 (by decide +kernel) (fun h92 => ?_) (fun h92 => ?_)
      · refine ng_iload_5 dX9_whom_102 ?_
        refine ng_istore_3 dX9_whom_104 (by first | rfl | assumption) ?_
        refine ng_iload_7 dX9_whom_105 ?_
        refine ng_istore_4 dX9_whom_107 (by first | rfl | assumption) ?_
        refine ng_iinc_5 (w := 1) dX9_whom_109 (by decide) rfl ?_
        refine ng_goto 56 dX9_whom_112 (by decide +kernel) ?_
        rw [nI_1]
        have z := fun x6 => ih (i + 1) _ x6 (some (.int (ng_fw (M0 74) t N i))) (by omega) ha kk
        rw [ng_amB_neg (by omega)] at h92
        first
        | (rw [ng_amB_t (Or.inl h92), ng_am_t (Or.inl h92)] at z; exact z _)
        | (rw [ng_amB_t (Or.inr (Int32.not_le.mp h99)), ng_am_t (Or.inr (Int32.not_le.mp h99))] at z; exact z _)
        | (rw [ng_amB_f h92 (Int32.not_lt.mpr h99), ng_am_f h92 (Int32.not_lt.mpr h99)] at z; exact z _)
      · refine ng_iload_7 dX9_whom_95 ?_
        refine ng_iload_4 dX9_whom_97 ?_
        refine ng_icmp_le 109 dX9_whom_99 (by decide +kernel) (fun h99 => ?_) (fun h99 => ?_)
        · refine ng_iinc_5 (w := 1) dX9_whom_109 (by decide) rfl ?_
          refine ng_goto 56 dX9_whom_112 (by decide +kernel) ?_
          rw [nI_1]
          have z := fun x6 => ih (i + 1) _ x6 (some (.int (ng_fw (M0 74) t N i))) (by omega) ha kk
          rw [ng_amB_neg (by omega)] at h92
          first
          | (rw [ng_amB_t (Or.inl h92), ng_am_t (Or.inl h92)] at z; exact z _)
          | (rw [ng_amB_t (Or.inr (Int32.not_le.mp h99)), ng_am_t (Or.inr (Int32.not_le.mp h99))] at z; exact z _)
          | (rw [ng_amB_f h92 (Int32.not_lt.mpr h99), ng_am_f h92 (Int32.not_lt.mpr h99)] at z; exact z _)
        · refine ng_iload_5 dX9_whom_102 ?_
          refine ng_istore_3 dX9_whom_104 (by first | rfl | assumption) ?_
          refine ng_iload_7 dX9_whom_105 ?_
          refine ng_istore_4 dX9_whom_107 (by first | rfl | assumption) ?_
          refine ng_iinc_5 (w := 1) dX9_whom_109 (by decide) rfl ?_
          refine ng_goto 56 dX9_whom_112 (by decide +kernel) ?_
          rw [nI_1]
          have z := fun x6 => ih (i + 1) _ x6 (some (.int (ng_fw (M0 74) t N i))) (by omega) ha kk
          rw [ng_amB_neg (by omega)] at h92
          first
          | (rw [ng_amB_t (Or.inl h92), ng_am_t (Or.inl h92)] at z; exact z _)
          | (rw [ng_amB_t (Or.inr (Int32.not_le.mp h99)), ng_am_t (Or.inr (Int32.not_le.mp h99))] at z; exact z _)
          | (rw [ng_amB_f h92 (Int32.not_lt.mpr h99), ng_am_f h92 (Int32.not_lt.mpr h99)] at z; exact z _)
theorem r_whom {X : Nat × (Nat → Int32)} {M : ng_M} {n t : Int32} (h : ng_ok (M 74)) : ng_EvI X 9 mi_X9_whom [.ref 73, .int n, .int t] M (fun r M1 => ng_a9 M (ng_whom (M 74) n t) r M1) := by
  obtain ⟨B, hB, hB8⟩ := h.wfr.1.1.1
  unfold ng_whom
  rw [ng_yn_of hB hB8]
  refine ng_EvI.of (lv := [some (.ref 73), some (.int n), some (.int t), none, none, none, none, none]) (ty := .int) (by decide) (Nat.le_of_ble_eq_true rfl) rfl rfl (fun _ _ _ => rfl) ?_
  have fin : ∀ (M2 : ng_M) (x4 x5 x6 x7 : Option Value), ok_whom n t = true → ¬ M 74 5 = 0 → ng_ra (ng_asd M) M2 (M 74) → ng_Go X mi_X9_whom 9 115 [some (.ref 73), some (.int n), some (.int t), some (.int (ng_amB (ng_fw (M 74) t n.toNatClampNeg) B)), x4, x5, x6, x7] [] M2 (fun r' M' => ∃ v, r' = some (.int v) ∧ ng_a9 M (if ok_whom n t then (if M 74 5 = 0 then .inl 3 else if M 74 1 = 0 then .inl 2 else .inr (nI (ng_am (ng_fw (M 74) t n.toNatClampNeg) B).1)) else .inl 1) v M') := by
    intro M2 x4 x5 x6 x7 hk h5 ha
    have hneg := ng_amB_neg (f := ng_fw (M 74) t n.toNatClampNeg) (i := B) (by omega)
    have e0 : M 74 1 = 0 ↔ B = 0 := ⟨fun q => ng_nI0 (hB.symm.trans q) (by omega), fun q => by rw [hB, q]; rfl⟩
    refine ng_iload_3 dX9_whom_115 ?_
    refine ng_if_ge 128 dX9_whom_116 (by decide +kernel) (fun h116 => ?_) (fun h116 => ?_)
    · refine ng_iload_3 dX9_whom_128 ?_
      exact ng_ireturn dX9_whom_129 ⟨_, rfl, by
  rw [if_pos hk, if_neg h5]
  first
  | (have q : ¬ B = 0 := fun z => absurd h116 (Int32.not_le.mpr (hneg.mpr z))
     rw [if_neg (fun z => q (e0.mp z))]; exact ⟨M2, ha.outS, by rw [ng_amB, if_neg q], rfl⟩)
  | (have q : B = 0 := hneg.mp (Int32.not_le.mp h116)
     rw [if_pos (e0.mpr q)]; exact ⟨M2, ha.outS, by decide, rfl⟩)⟩
    · refine ng_aload_0 dX9_whom_119 ?_
      refine ng_ldc dX9_whom_120 kc_X9_118 ?_
      refine ng_callV_1x (y2 := mi_X9_finding) dX9_whom_122 lk_X9_92 ms_X9_finding my_X9_finding (by first | exact ⟨_, rfl⟩ | assumption | exact ng_fld_obj (f := 0) (by assumption)) mc_X9 (by first | decide | exact Nat.le_of_ble_eq_true rfl) (s_X9_finding (k := 2) (by decide) (by decide) (by decide)) (by decide) ?_
      refine ng_goto 129 dX9_whom_125 (by decide +kernel) ?_
      exact ng_ireturn dX9_whom_129 ⟨_, rfl, by
  rw [if_pos hk, if_neg h5]
  first
  | (have q : ¬ B = 0 := fun z => absurd h116 (Int32.not_le.mpr (hneg.mpr z))
     rw [if_neg (fun z => q (e0.mp z))]; exact ⟨M2, ha.outS, by rw [ng_amB, if_neg q], rfl⟩)
  | (have q : B = 0 := hneg.mp (Int32.not_le.mp h116)
     rw [if_pos (e0.mpr q)]; exact ⟨M2, ha.outS, by decide, rfl⟩)⟩
  refine ng_iload_1 dX9_whom_0 ?_
  refine ng_callS_1x (y2 := mi_X9_isAhead) dX9_whom_1 lk_X9_230 ms_X9_isAhead my_X9_isAhead (by first | decide | exact Nat.le_of_ble_eq_true rfl) (s_X9_isAhead) (by decide) ?_
  refine ng_ifb_eq 14 dX9_whom_4 (by decide +kernel) (fun h4 => ?_) (fun h4 => ?_)
  · refine ng_aload_0 dX9_whom_14 ?_
    refine ng_ldc dX9_whom_15 kc_X9_91 ?_
    refine ng_callV_1x (y2 := mi_X9_finding) dX9_whom_17 lk_X9_92 ms_X9_finding my_X9_finding (by first | exact ⟨_, rfl⟩ | assumption | exact ng_fld_obj (f := 0) (by assumption)) mc_X9 (by first | decide | exact Nat.le_of_ble_eq_true rfl) (s_X9_finding (k := 1) (by decide) (by decide) (by decide)) (by decide) ?_
    exact ng_ireturn dX9_whom_20 ⟨_, rfl, by rw [if_neg (by simp_all [ok_whom])]; exact ⟨M, ng_rout.rf, by decide, rfl⟩⟩
  · refine ng_iload_2 dX9_whom_7 ?_
    refine ng_callS_1x (y2 := mi_X9_isStep) dX9_whom_8 lk_X9_84 ms_X9_isStep my_X9_isStep (by first | decide | exact Nat.le_of_ble_eq_true rfl) (s_X9_isStep) (by decide) ?_
    refine ng_ifb_ne 21 dX9_whom_11 (by decide +kernel) (fun h11 => ?_) (fun h11 => ?_)
    · have ht := (ng_vin h11 (n := 10) (by decide)).1
      have hnv := ng_vin h4 (n := 41) (by decide)
      have hkk : ok_whom n t = true := by simp [ok_whom, h4, h11]
      refine ng_aload_0 dX9_whom_21 ?_
      refine ng_gR dX9_whom_22 fl_X9_9 (by first | rfl | assumption) ?_
      refine ng_iconst_5 dX9_whom_25 ?_
      refine ng_ialdL (j := 5) dX9_whom_26 (by first | rfl | assumption) (by first | assumption | (unfold vp_in; decide)) (by decide) ?_
      refine ng_if_ne 37 dX9_whom_27 (by decide +kernel) (fun h27 => ?_) (fun h27 => ?_)
      · refine ng_aload_0 dX9_whom_37 ?_
        refine ng_gR dX9_whom_38 fl_X9_9 (by first | rfl | assumption) ?_
        refine ng_aload_0 dX9_whom_41 ?_
        refine ng_gR dX9_whom_42 fl_X9_16 (by first | rfl | assumption) ?_
        refine ng_callS_2v (y2 := mi_X9_copy) dX9_whom_45 lk_X9_76 ms_X9_copy my_X9_copy (by first | decide | exact Nat.le_of_ble_eq_true rfl) (s_X9_copy rfl rfl (by decide)) (by decide) ?_
        refine ng_iconst_m1 dX9_whom_48 ?_
        refine ng_istore_3 dX9_whom_49 (by first | rfl | assumption) ?_
        refine ng_iconst_0 dX9_whom_50 ?_
        refine ng_istore_4 dX9_whom_51 (by first | rfl | assumption) ?_
        refine ng_iconst_0 dX9_whom_53 ?_
        refine ng_istore_5 dX9_whom_54 (by first | rfl | assumption) ?_
        exact l_X9_whom (M0 := M) h h27 hB hB8 ht (ng_nat hnv.1) (by omega) B 0 _ _ _ (by omega) (ng_ra.start h.Y) (fun M' x4 x5 x6 x7 ha => fin M' x4 x5 x6 x7 hkk h27 ha)
      · refine ng_aload_0 dX9_whom_30 ?_
        refine ng_ldc dX9_whom_31 kc_X9_218 ?_
        refine ng_callV_1x (y2 := mi_X9_finding) dX9_whom_33 lk_X9_92 ms_X9_finding my_X9_finding (by first | exact ⟨_, rfl⟩ | assumption | exact ng_fld_obj (f := 0) (by assumption)) mc_X9 (by first | decide | exact Nat.le_of_ble_eq_true rfl) (s_X9_finding (k := 3) (by decide) (by decide) (by decide)) (by decide) ?_
        exact ng_ireturn dX9_whom_36 ⟨_, rfl, by rw [if_pos hkk, if_pos h27]; exact ⟨M, ng_rout.rf, by decide, rfl⟩⟩
    · refine ng_aload_0 dX9_whom_14 ?_
      refine ng_ldc dX9_whom_15 kc_X9_91 ?_
      refine ng_callV_1x (y2 := mi_X9_finding) dX9_whom_17 lk_X9_92 ms_X9_finding my_X9_finding (by first | exact ⟨_, rfl⟩ | assumption | exact ng_fld_obj (f := 0) (by assumption)) mc_X9 (by first | decide | exact Nat.le_of_ble_eq_true rfl) (s_X9_finding (k := 1) (by decide) (by decide) (by decide)) (by decide) ?_
      exact ng_ireturn dX9_whom_20 ⟨_, rfl, by rw [if_neg (by simp_all [ok_whom])]; exact ⟨M, ng_rout.rf, by decide, rfl⟩⟩
theorem pr_whom {X : Nat × (Nat → Int32)} {M : ng_M} {n t : Int32} (h : ng_inv M) : ng_pair X mi_X8_whom mi_X9_whom [.int n, .int t] M :=
  ng_pair.A h (c_whom h.1) (by decide) (d9 := 9) (by decide) (fun M1 e => by rw [← e 74 (by decide)]; exact r_whom (by rw [e 74 (by decide)]; exact h.1.2))
