/-! ===== pairs: put, move ===== -/
theorem ng_I5.up {M M1 M2 : ng_M} {i : Nat} {g : Nat → Int32} (h : ng_I5 M) (hi : i < 4) (e1 : M1 = ng_row M (65 + 2 * i) g) (f : ∀ k, 64 ≤ k → k ≤ 71 → M2 k = M1 k) (f86 : M2 86 = M 86) (f87 : M2 87 = M 87) (f88 : ∀ j, j < 4 → ∀ l, l < 40 → M2 88 (40 * j + l) = if j = i then g l else M 88 (40 * j + l)) : ng_I5 M2 := by
  intro j hj
  obtain ⟨i1, i2, i3, i4, i5⟩ := h j hj
  rw [f86, f87, f (64 + 2 * j) (by omega) (by omega), f (65 + 2 * j) (by omega) (by omega), e1, ng_row_ne (show 64 + 2 * j ≠ 65 + 2 * i by omega)]
  refine ⟨i1, i2, fun l hl => ?_, i4, i5⟩
  rw [f88 j hj l hl]
  by_cases q : j = i
  · subst q; rw [ng_row_eq, if_pos rfl]
  · rw [ng_row_ne (by omega), if_neg q]; exact i3 l hl
def ng_putE (M : ng_M) (s j : Int32) : Nat ⊕ Unit := if ng_in s 0 3 then (if M 86 s.toNatClampNeg = 0 then .inl 2 else if ng_in j 0 (M 87 s.toNatClampNeg - 1) then .inr () else .inl 1) else .inl 1
theorem ng_putE_v {M : ng_M} {s j : Int32} {x : Unit} (h : ng_putE M s j = .inr x) : ng_in s 0 3 = true ∧ ng_in j 0 (M 87 s.toNatClampNeg - 1) = true := by
  unfold ng_putE at h
  split at h
  · rename_i q
    split at h
    · cases h
    · split at h
      · rename_i q2; exact ⟨q, q2⟩
      · cases h
  · cases h
theorem c_put {X : Nat × (Nat → Int32)} {M : ng_M} {s j v : Int32} (h5 : ng_I5 M) : ng_EvI X 4 mi_X8_put [.ref 0, .int s, .int j, .int v] M (ng_e8 M (ng_putE M s j) (fun _ => 1) (fun _ M1 => M1 = ng_row M (65 + 2 * s.toNatClampNeg) (upd (M (65 + 2 * s.toNatClampNeg)) j.toNatClampNeg (ng_low (M 86 s.toNatClampNeg) v)))) := by
  refine ng_EvI.of (lv := [some (.ref 0), some (.int s), some (.int j), some (.int v), none]) (ty := .int) (by decide) (Nat.le_of_ble_eq_true rfl) rfl rfl (fun _ _ _ => rfl) ?_
  by_cases hin : ng_in s 0 3 = true
  · obtain ⟨q1, q2, q3⟩ := ng_s4 hin
    obtain ⟨hf0, hf1, hf2, hf3, hf4⟩ := ng_H q2
    obtain ⟨i1, i2, i3, i4, L, hL, hL40⟩ := h5 _ q2
    unfold ng_putE
    rw [if_pos hin]
    refine ng_aload_0 dX8_put_0 ?_
    refine ng_iload_1 dX8_put_1 ?_
    refine ng_callV_1x (y2 := mi_X8_sheetAt) dX8_put_2 lk_X8_122 ms_X8_sheetAt my_X8_sheetAt (by first | exact ⟨_, rfl⟩ | assumption | exact ng_fld_obj (f := 0) (by assumption)) mc_X8 (by first | decide | exact Nat.le_of_ble_eq_true rfl) (s_X8_sheetAt hin) (by decide) ?_
    refine ng_astore_4 dX8_put_5 (by first | rfl | assumption) ?_
    refine ng_aload_4 dX8_put_7 ?_
    refine ng_ifnonnull 19 dX8_put_9 (by decide +kernel) ?_
    refine ng_aload_4 dX8_put_19 ?_
    refine ng_callV_0x (y2 := mi_X4_isMissing) dX8_put_21 lk_X8_126 ms_X4_isMissing my_X4_isMissing (by first | exact ⟨_, rfl⟩ | assumption | exact ng_fld_obj (f := 0) (by assumption)) mc_X4 (by first | decide | exact Nat.le_of_ble_eq_true rfl) (s_X4_isMissing q2) (by decide) ?_
    rw [i1]
    refine ng_ifb_eq 34 dX8_put_24 (by decide +kernel) (fun h24 => ?_) (fun h24 => ?_)
    · refine ng_iload_2 dX8_put_34 ?_
      refine ng_iconst_0 dX8_put_35 ?_
      refine ng_aload_4 dX8_put_36 ?_
      refine ng_gI dX8_put_38 fl_X8_135 (by first | rfl | assumption) ?_
      rw [i2]
      refine ng_iconst_1 dX8_put_41 ?_
      refine ng_isub dX8_put_42 ?_
      refine ng_callS_3x (y2 := mi_X8_isWithin) dX8_put_43 lk_X8_61 ms_X8_isWithin my_X8_isWithin (by first | decide | exact Nat.le_of_ble_eq_true rfl) (s_X8_isWithin) (by decide) ?_
      refine ng_ifb_ne 56 dX8_put_46 (by decide +kernel) (fun h46 => ?_) (fun h46 => ?_)
      · refine ng_aload_4 dX8_put_56 ?_
        refine ng_iload_2 dX8_put_58 ?_
        refine ng_iload_3 dX8_put_59 ?_
        refine ng_callV_2v (y2 := mi_X4_change) dX8_put_60 lk_X8_272 ms_X4_change my_X4_change (by first | exact ⟨_, rfl⟩ | assumption | exact ng_fld_obj (f := 0) (by assumption)) mc_X4 (by first | decide | exact Nat.le_of_ble_eq_true rfl) ((s_X4_change q2 (i2.trans hL) hL40 (by rw [i2]; exact h46)).cast rfl (by rw [i1])) (by decide) ?_
        refine ng_iconst_1 dX8_put_63 ?_
        exact ng_ireturn dX8_put_64 ⟨_, rfl, by rw [if_neg (of_decide_eq_false h24), if_pos h46]; exact ⟨rfl, rfl⟩⟩
      · refine ng_aload_0 dX8_put_49 ?_
        refine ng_ldc dX8_put_50 kc_X8_65 ?_
        refine ng_callV_1x (y2 := mi_X8_fails) dX8_put_52 lk_X8_66 ms_X8_fails my_X8_fails (by first | exact ⟨_, rfl⟩ | assumption | exact ng_fld_obj (f := 0) (by assumption)) mc_X8 (by first | decide | exact Nat.le_of_ble_eq_true rfl) (s_X8_fails (k := 1) (by decide) (by decide) (by decide)) (by decide) ?_
        exact ng_ireturn dX8_put_55 ⟨_, rfl, by rw [if_neg (of_decide_eq_false h24), if_neg (by rw [h46]; decide)]; exact ⟨by decide, rfl⟩⟩
    · refine ng_aload_0 dX8_put_27 ?_
      refine ng_ldc dX8_put_28 kc_X8_130 ?_
      refine ng_callV_1x (y2 := mi_X8_fails) dX8_put_30 lk_X8_66 ms_X8_fails my_X8_fails (by first | exact ⟨_, rfl⟩ | assumption | exact ng_fld_obj (f := 0) (by assumption)) mc_X8 (by first | decide | exact Nat.le_of_ble_eq_true rfl) (s_X8_fails (k := 2) (by decide) (by decide) (by decide)) (by decide) ?_
      exact ng_ireturn dX8_put_33 ⟨_, rfl, by rw [if_pos (of_decide_eq_true h24)]; exact ⟨by decide, rfl⟩⟩
  · unfold ng_putE
    rw [if_neg hin]
    refine ng_aload_0 dX8_put_0 ?_
    refine ng_iload_1 dX8_put_1 ?_
    refine ng_callV_1x (y2 := mi_X8_sheetAt) dX8_put_2 lk_X8_122 ms_X8_sheetAt my_X8_sheetAt (by first | exact ⟨_, rfl⟩ | assumption | exact ng_fld_obj (f := 0) (by assumption)) mc_X8 (by first | decide | exact Nat.le_of_ble_eq_true rfl) (s_X8_sheetAtN ((Bool.not_eq_true _).mp hin)) (by decide) ?_
    refine ng_astoreN_4 dX8_put_5 (by first | rfl | assumption) ?_
    refine ng_aloadN_4 dX8_put_7 ?_
    refine ng_ifnonnullN dX8_put_9 ?_
    refine ng_aload_0 dX8_put_12 ?_
    refine ng_ldc dX8_put_13 kc_X8_65 ?_
    refine ng_callV_1x (y2 := mi_X8_fails) dX8_put_15 lk_X8_66 ms_X8_fails my_X8_fails (by first | exact ⟨_, rfl⟩ | assumption | exact ng_fld_obj (f := 0) (by assumption)) mc_X8 (by first | decide | exact Nat.le_of_ble_eq_true rfl) (s_X8_fails (k := 1) (by decide) (by decide) (by decide)) (by decide) ?_
    exact ng_ireturn dX8_put_18 ⟨_, rfl, by decide, rfl⟩
theorem r_put {X : Nat × (Nat → Int32)} {M : ng_M} {s j v : Int32} (hL : ∀ i, i < 4 → ∃ L, M 87 i = nI L ∧ L ≤ 40) : ng_EvI X 3 mi_X9_put [.ref 73, .int s, .int j, .int v] M (ng_e9 M (ng_putE M s j) (fun _ => 1) (fun _ M1 => M1 = ng_row M 88 (upd (M 88) (40 * s.toNatClampNeg + j.toNatClampNeg) (ng_low (M 86 s.toNatClampNeg) v)))) := by
  refine ng_EvI.of (lv := [some (.ref 73), some (.int s), some (.int j), some (.int v)]) (ty := .int) (by decide) (Nat.le_of_ble_eq_true rfl) rfl rfl (fun _ _ _ => rfl) ?_
  by_cases hin : ng_in s 0 3 = true
  · obtain ⟨q1, q2, q3⟩ := ng_s4 hin
    obtain ⟨L, hL, hL40⟩ := hL _ q2
    unfold ng_putE
    rw [if_pos hin]
    refine ng_iload_1 dX9_put_0 ?_
    refine ng_callS_1x (y2 := mi_X9_isSheet) dX9_put_1 lk_X9_115 ms_X9_isSheet my_X9_isSheet (by first | decide | exact Nat.le_of_ble_eq_true rfl) (s_X9_isSheet) (by decide) ?_
    refine ng_ifb_ne 14 dX9_put_4 (by decide +kernel) (fun h4 => ?_) (fun h4 => ?_)
    · refine ng_aload_0 dX9_put_14 ?_
      refine ng_gR dX9_put_15 fl_X9_54 (by first | rfl | assumption) ?_
      refine ng_iload_1 dX9_put_18 ?_
      refine ng_iald dX9_put_19 (by first | rfl | assumption) (by first | assumption | (unfold vp_in; decide)) ?_
      refine ng_if_ne 30 dX9_put_20 (by decide +kernel) (fun h20 => ?_) (fun h20 => ?_)
      · refine ng_iload_2 dX9_put_30 ?_
        refine ng_iconst_0 dX9_put_31 ?_
        refine ng_aload_0 dX9_put_32 ?_
        refine ng_gR dX9_put_33 fl_X9_57 (by first | rfl | assumption) ?_
        refine ng_iload_1 dX9_put_36 ?_
        refine ng_iald dX9_put_37 (by first | rfl | assumption) (by first | assumption | (unfold vp_in; decide)) ?_
        refine ng_iconst_1 dX9_put_38 ?_
        refine ng_isub dX9_put_39 ?_
        refine ng_callS_3x (y2 := mi_X9_within) dX9_put_40 lk_X9_80 ms_X9_within my_X9_within (by first | decide | exact Nat.le_of_ble_eq_true rfl) (s_X9_within) (by decide) ?_
        refine ng_ifb_ne 53 dX9_put_43 (by decide +kernel) (fun h43 => ?_) (fun h43 => ?_)
        · obtain ⟨w1, w2, w3⟩ := ng_vp_m h43 hL hL40 (by decide)
          have hx := ng_i40 q1 w3
          refine ng_aload_0 dX9_put_53 ?_
          refine ng_gR dX9_put_54 fl_X9_60 (by first | rfl | assumption) ?_
          refine ng_bipush (v := 40) dX9_put_57 (by decide) ?_
          refine ng_iload_1 dX9_put_59 ?_
          refine ng_imul dX9_put_60 ?_
          refine ng_iload_2 dX9_put_61 ?_
          refine ng_iadd dX9_put_62 ?_
          refine ng_aload_0 dX9_put_63 ?_
          refine ng_gR dX9_put_64 fl_X9_54 (by first | rfl | assumption) ?_
          refine ng_iload_1 dX9_put_67 ?_
          refine ng_iald dX9_put_68 (by first | rfl | assumption) (by first | assumption | (unfold vp_in; decide)) ?_
          refine ng_bipush (v := 8) dX9_put_69 (by decide) ?_
          refine ng_icmp_ne 79 dX9_put_71 (by decide +kernel) (fun h71 => ?_) (fun h71 => ?_)
          · refine ng_aload_0 dX9_put_79 ?_
            refine ng_gR dX9_put_80 fl_X9_54 (by first | rfl | assumption) ?_
            refine ng_iload_1 dX9_put_83 ?_
            refine ng_iald dX9_put_84 (by first | rfl | assumption) (by first | assumption | (unfold vp_in; decide)) ?_
            refine ng_bipush (v := 16) dX9_put_85 (by decide) ?_
            refine ng_icmp_ne 95 dX9_put_87 (by decide +kernel) (fun h87 => ?_) (fun h87 => ?_)
            · refine ng_iload_3 dX9_put_95 ?_
              refine ng_iastL (j := (40 * s.toNatClampNeg + j.toNatClampNeg)) dX9_put_96 (by first | rfl | assumption) (by rw [hx]; exact vp_in_nI (by omega) (by omega)) (by rw [hx, nI_clamp (by omega)]) ?_
              refine ng_iconst_1 dX9_put_97 ?_
              exact ng_ireturn dX9_put_98 ⟨_, rfl, by
  rw [if_neg h20, if_pos h43]
  refine ⟨rfl, ?_⟩
  unfold ng_low
  first
  | (rw [if_pos h71]; done)
  | (rw [if_neg h71, if_pos h87]; done)
  | (rw [if_neg h71, if_neg h87]; done)⟩
            · refine ng_iload_3 dX9_put_90 ?_
              refine ng_i2s dX9_put_91 ?_
              refine ng_goto 96 dX9_put_92 (by decide +kernel) ?_
              refine ng_iastL (j := (40 * s.toNatClampNeg + j.toNatClampNeg)) dX9_put_96 (by first | rfl | assumption) (by rw [hx]; exact vp_in_nI (by omega) (by omega)) (by rw [hx, nI_clamp (by omega)]) ?_
              refine ng_iconst_1 dX9_put_97 ?_
              exact ng_ireturn dX9_put_98 ⟨_, rfl, by
  rw [if_neg h20, if_pos h43]
  refine ⟨rfl, ?_⟩
  unfold ng_low
  first
  | (rw [if_pos h71]; done)
  | (rw [if_neg h71, if_pos h87]; done)
  | (rw [if_neg h71, if_neg h87]; done)⟩
          · refine ng_iload_3 dX9_put_74 ?_
            refine ng_i2b dX9_put_75 ?_
            refine ng_goto 96 dX9_put_76 (by decide +kernel) ?_
            refine ng_iastL (j := (40 * s.toNatClampNeg + j.toNatClampNeg)) dX9_put_96 (by first | rfl | assumption) (by rw [hx]; exact vp_in_nI (by omega) (by omega)) (by rw [hx, nI_clamp (by omega)]) ?_
            refine ng_iconst_1 dX9_put_97 ?_
            exact ng_ireturn dX9_put_98 ⟨_, rfl, by
  rw [if_neg h20, if_pos h43]
  refine ⟨rfl, ?_⟩
  unfold ng_low
  first
  | (rw [if_pos h71]; done)
  | (rw [if_neg h71, if_pos h87]; done)
  | (rw [if_neg h71, if_neg h87]; done)⟩
        · refine ng_aload_0 dX9_put_46 ?_
          refine ng_ldc dX9_put_47 kc_X9_91 ?_
          refine ng_callV_1x (y2 := mi_X9_finding) dX9_put_49 lk_X9_92 ms_X9_finding my_X9_finding (by first | exact ⟨_, rfl⟩ | assumption | exact ng_fld_obj (f := 0) (by assumption)) mc_X9 (by first | decide | exact Nat.le_of_ble_eq_true rfl) (s_X9_finding (k := 1) (by decide) (by decide) (by decide)) (by decide) ?_
          exact ng_ireturn dX9_put_52 ⟨_, rfl, by rw [if_neg h20, if_neg (by rw [h43]; decide)]; exact ⟨by decide, rfl⟩⟩
      · refine ng_aload_0 dX9_put_23 ?_
        refine ng_ldc dX9_put_24 kc_X9_118 ?_
        refine ng_callV_1x (y2 := mi_X9_finding) dX9_put_26 lk_X9_92 ms_X9_finding my_X9_finding (by first | exact ⟨_, rfl⟩ | assumption | exact ng_fld_obj (f := 0) (by assumption)) mc_X9 (by first | decide | exact Nat.le_of_ble_eq_true rfl) (s_X9_finding (k := 2) (by decide) (by decide) (by decide)) (by decide) ?_
        exact ng_ireturn dX9_put_29 ⟨_, rfl, by rw [if_pos h20]; exact ⟨by decide, rfl⟩⟩
    · rw [hin] at h4; exact absurd h4 (by decide)
  · have hf := (Bool.not_eq_true _).mp hin
    unfold ng_putE
    rw [if_neg hin]
    refine ng_iload_1 dX9_put_0 ?_
    refine ng_callS_1x (y2 := mi_X9_isSheet) dX9_put_1 lk_X9_115 ms_X9_isSheet my_X9_isSheet (by first | decide | exact Nat.le_of_ble_eq_true rfl) (s_X9_isSheet) (by decide) ?_
    refine ng_ifb_ne 14 dX9_put_4 (by decide +kernel) (fun h4 => ?_) (fun h4 => ?_)
    · exact absurd h4 hin
    · refine ng_aload_0 dX9_put_7 ?_
      refine ng_ldc dX9_put_8 kc_X9_91 ?_
      refine ng_callV_1x (y2 := mi_X9_finding) dX9_put_10 lk_X9_92 ms_X9_finding my_X9_finding (by first | exact ⟨_, rfl⟩ | assumption | exact ng_fld_obj (f := 0) (by assumption)) mc_X9 (by first | decide | exact Nat.le_of_ble_eq_true rfl) (s_X9_finding (k := 1) (by decide) (by decide) (by decide)) (by decide) ?_
      exact ng_ireturn dX9_put_13 ⟨_, rfl, by decide, rfl⟩
theorem pr_put {X : Nat × (Nat → Int32)} {M : ng_M} {s j v : Int32} (h : ng_inv M) : ng_pair X mi_X8_put mi_X9_put [.int s, .int j, .int v] M := by
  have h5 := h.2.2.2.2.1
  refine ng_pair.E h (c_put h5) (by decide) (d9 := 3) (by decide) (fun M1 e => ?_) (fun x M1 hE hm k hk => ?_) (fun x M1 M2 hE hm hr => ?_) (mR := fun M1 _ M2 => M2 = ng_row M1 88 (upd (M1 88) (40 * s.toNatClampNeg + j.toNatClampNeg) (ng_low (M 86 s.toNatClampNeg) v)))
  · have hE : ng_putE M s j = ng_putE M1 s j := by unfold ng_putE; rw [e 86 (by decide), e 87 (by decide)]
    rw [hE, ← e 86 (by decide)]
    exact r_put (fun i hi => by rw [e 87 (by decide)]; exact (h5 i hi).2.2.2.2)
  · obtain ⟨e1, -⟩ := ng_putE_v hE
    have q2 := (ng_s4 e1).2.1
    rw [hm, ng_row_ne (by omega)]
  · obtain ⟨e1, e2⟩ := ng_putE_v hE
    have q2 := (ng_s4 e1).2.1
    generalize s.toNatClampNeg = i at hm hr q2 e2
    obtain ⟨L, hL, hL40⟩ := (h5 i q2).2.2.2.2
    obtain ⟨w1, w2, w3⟩ := ng_vp_m e2 hL hL40 (by decide)
    have eR : ∀ k, k ≠ 88 → M2 k = M1 k := fun k k1 => by rw [hr, ng_row_ne k1]
    have eC : ∀ k, 72 ≤ k → M1 k = M k := fun k k1 => by rw [hm, ng_row_ne (by omega)]
    refine ng_inv_I5 h (h5.up q2 hm (fun k k1 k2 => eR k (by omega)) (by rw [eR 86 (by decide), eC 86 (by decide)]) (by rw [eR 87 (by decide), eC 87 (by decide)]) (fun k hk l hl => ?_)) (fun k k1 k2 => by rw [eR k (by omega), hm, ng_row_ne (by omega)])
    rw [hr, ng_row_eq, eC 88 (by decide)]
    by_cases q : k = i
    · subst q
      rw [if_pos rfl]
      by_cases ql : l = j.toNatClampNeg
      · subst ql; rw [ng_upd_eq, ng_upd_eq]
      · rw [ng_upd_ne (by omega), ng_upd_ne ql]; exact ((h5 k hk).2.2.1 l hl).symm
    · rw [if_neg q, ng_upd_ne (by omega)]
/-! move -/
def ng_hold (L j n : Int32) : Bool := !decide (n < 0) && (!decide (j < 0) && (decide (n ≤ L) && decide (j ≤ L - n)))
theorem ng_hold_I {L j n : Int32} {l : Nat} (hL : L = nI l) (hl : l ≤ 40) : ng_hold L j n = true ↔ 0 ≤ n.toInt ∧ 0 ≤ j.toInt ∧ j.toInt + n.toInt ≤ l := by
  have eL : L.toInt = l := by rw [hL, nI_toInt (by omega)]
  unfold ng_hold
  simp only [Bool.and_eq_true, Bool.not_eq_true', decide_eq_true_eq, decide_eq_false_iff_not]
  rw [ng_lt, ng_lt, ng_le, ng_le, ng_0, eL]
  constructor
  · rintro ⟨h1, h2, h3, h4⟩
    rw [ng_subI (by omega) (by omega), eL] at h4
    omega
  · rintro ⟨h1, h2, h3⟩
    refine ⟨by omega, by omega, by omega, ?_⟩
    rw [ng_subI (by omega) (by omega), eL]
    omega
theorem s_X4_holds {X : Nat × (Nat → Int32)} {M : ng_M} {i : Nat} {j n : Int32} (hi : i < 4) : ng_EvX X 1 mi_X4_holds [.ref (64 + 2 * i), .int j, .int n] M (some (.int (ng_bi (ng_hold (M (64 + 2 * i) 2) j n)))) M := by
  obtain ⟨hf0, hf1, hf2, hf3, hf4⟩ := ng_H hi
  refine ng_EvX.ofI (lv := [some (.ref (64 + 2 * i)), some (.int j), some (.int n)]) (ty := .boolean) (by decide) (Nat.le_of_ble_eq_true rfl) rfl rfl (ng_bi_nar _) ?_
  refine ng_iload_2 dX4_holds_0 ?_
  refine ng_if_lt 30 dX4_holds_1 (by decide +kernel) (fun h1 => ?_) (fun h1 => ?_)
  · refine ng_iconst_0 dX4_holds_30 ?_
    exact ng_ireturn dX4_holds_31 ⟨by
  first
  | (have q : ng_hold (M (64 + 2 * i) 2) j n = true := by simp [ng_hold, h1, h5, Int32.not_lt.mp h13, Int32.not_lt.mp h23]
     rw [q]; rfl)
  | (have q : ng_hold (M (64 + 2 * i) 2) j n = false := by simp [ng_hold, Int32.not_le.mpr h23]
     rw [q]; rfl)
  | (have q : ng_hold (M (64 + 2 * i) 2) j n = false := by simp [ng_hold, Int32.not_le.mpr h13]
     rw [q]; rfl)
  | (have q : ng_hold (M (64 + 2 * i) 2) j n = false := by simp [ng_hold, h5]
     rw [q]; rfl)
  | (have q : ng_hold (M (64 + 2 * i) 2) j n = false := by simp [ng_hold, h1]
     rw [q]; rfl), rfl⟩
  · refine ng_iload_1 dX4_holds_4 ?_
    refine ng_if_lt 30 dX4_holds_5 (by decide +kernel) (fun h5 => ?_) (fun h5 => ?_)
    · refine ng_iconst_0 dX4_holds_30 ?_
      exact ng_ireturn dX4_holds_31 ⟨by
  first
  | (have q : ng_hold (M (64 + 2 * i) 2) j n = true := by simp [ng_hold, h1, h5, Int32.not_lt.mp h13, Int32.not_lt.mp h23]
     rw [q]; rfl)
  | (have q : ng_hold (M (64 + 2 * i) 2) j n = false := by simp [ng_hold, Int32.not_le.mpr h23]
     rw [q]; rfl)
  | (have q : ng_hold (M (64 + 2 * i) 2) j n = false := by simp [ng_hold, Int32.not_le.mpr h13]
     rw [q]; rfl)
  | (have q : ng_hold (M (64 + 2 * i) 2) j n = false := by simp [ng_hold, h5]
     rw [q]; rfl)
  | (have q : ng_hold (M (64 + 2 * i) 2) j n = false := by simp [ng_hold, h1]
     rw [q]; rfl), rfl⟩
    · refine ng_iload_2 dX4_holds_8 ?_
      refine ng_aload_0 dX4_holds_9 ?_
      refine ng_gI dX4_holds_10 fl_X4_23 (by first | rfl | assumption) ?_
      refine ng_icmp_gt 30 dX4_holds_13 (by decide +kernel) (fun h13 => ?_) (fun h13 => ?_)
      · refine ng_iconst_0 dX4_holds_30 ?_
        exact ng_ireturn dX4_holds_31 ⟨by
  first
  | (have q : ng_hold (M (64 + 2 * i) 2) j n = true := by simp [ng_hold, h1, h5, Int32.not_lt.mp h13, Int32.not_lt.mp h23]
     rw [q]; rfl)
  | (have q : ng_hold (M (64 + 2 * i) 2) j n = false := by simp [ng_hold, Int32.not_le.mpr h23]
     rw [q]; rfl)
  | (have q : ng_hold (M (64 + 2 * i) 2) j n = false := by simp [ng_hold, Int32.not_le.mpr h13]
     rw [q]; rfl)
  | (have q : ng_hold (M (64 + 2 * i) 2) j n = false := by simp [ng_hold, h5]
     rw [q]; rfl)
  | (have q : ng_hold (M (64 + 2 * i) 2) j n = false := by simp [ng_hold, h1]
     rw [q]; rfl), rfl⟩
      · refine ng_iload_1 dX4_holds_16 ?_
        refine ng_aload_0 dX4_holds_17 ?_
        refine ng_gI dX4_holds_18 fl_X4_23 (by first | rfl | assumption) ?_
        refine ng_iload_2 dX4_holds_21 ?_
        refine ng_isub dX4_holds_22 ?_
        refine ng_icmp_gt 30 dX4_holds_23 (by decide +kernel) (fun h23 => ?_) (fun h23 => ?_)
        · refine ng_iconst_0 dX4_holds_30 ?_
          exact ng_ireturn dX4_holds_31 ⟨by
  first
  | (have q : ng_hold (M (64 + 2 * i) 2) j n = true := by simp [ng_hold, h1, h5, Int32.not_lt.mp h13, Int32.not_lt.mp h23]
     rw [q]; rfl)
  | (have q : ng_hold (M (64 + 2 * i) 2) j n = false := by simp [ng_hold, Int32.not_le.mpr h23]
     rw [q]; rfl)
  | (have q : ng_hold (M (64 + 2 * i) 2) j n = false := by simp [ng_hold, Int32.not_le.mpr h13]
     rw [q]; rfl)
  | (have q : ng_hold (M (64 + 2 * i) 2) j n = false := by simp [ng_hold, h5]
     rw [q]; rfl)
  | (have q : ng_hold (M (64 + 2 * i) 2) j n = false := by simp [ng_hold, h1]
     rw [q]; rfl), rfl⟩
        · refine ng_iconst_1 dX4_holds_26 ?_
          refine ng_goto 31 dX4_holds_27 (by decide +kernel) ?_
          exact ng_ireturn dX4_holds_31 ⟨by
  first
  | (have q : ng_hold (M (64 + 2 * i) 2) j n = true := by simp [ng_hold, h1, h5, Int32.not_lt.mp h13, Int32.not_lt.mp h23]
     rw [q]; rfl)
  | (have q : ng_hold (M (64 + 2 * i) 2) j n = false := by simp [ng_hold, Int32.not_le.mpr h23]
     rw [q]; rfl)
  | (have q : ng_hold (M (64 + 2 * i) 2) j n = false := by simp [ng_hold, Int32.not_le.mpr h13]
     rw [q]; rfl)
  | (have q : ng_hold (M (64 + 2 * i) 2) j n = false := by simp [ng_hold, h5]
     rw [q]; rfl)
  | (have q : ng_hold (M (64 + 2 * i) 2) j n = false := by simp [ng_hold, h1]
     rw [q]; rfl), rfl⟩
def ng_movE (M : ng_M) (s i o j n : Int32) : Nat ⊕ Unit := if ng_in s 0 3 && ng_in o 0 3 then (if M 86 s.toNatClampNeg = 0 ∨ M 86 o.toNatClampNeg = 0 then .inl 2 else if M 86 s.toNatClampNeg = M 86 o.toNatClampNeg then (if ng_hold (M 87 s.toNatClampNeg) i n && ng_hold (M 87 o.toNatClampNeg) j n then .inr () else .inl 1) else .inl 5) else .inl 1
theorem ng_movE_v {M : ng_M} {s i o j n : Int32} {x : Unit} (h : ng_movE M s i o j n = .inr x) : ng_in s 0 3 = true ∧ ng_in o 0 3 = true ∧ ng_hold (M 87 s.toNatClampNeg) i n = true ∧ ng_hold (M 87 o.toNatClampNeg) j n = true := by
  unfold ng_movE at h
  split at h
  · rename_i q
    split at h
    · cases h
    · split at h
      · split at h
        · rename_i q2
          obtain ⟨a1, a2⟩ := Bool.and_eq_true_iff.mp q
          obtain ⟨a3, a4⟩ := Bool.and_eq_true_iff.mp q2
          exact ⟨a1, a2, a3, a4⟩
        · cases h
      · cases h
  · cases h
theorem ng_nlt0 {x : Int32} (h : 0 ≤ x.toInt) : ¬ x < 0 := by rw [ng_lt, ng_0]; omega
theorem ng_clI {x : Int32} (h : 0 ≤ x.toInt) : (x.toNatClampNeg : Int) = x.toInt := by rw [ng_clamp]; omega
theorem c_move {X : Nat × (Nat → Int32)} {M : ng_M} {s i o j n : Int32} (h5 : ng_I5 M) : ng_EvI X 4 mi_X8_move [.ref 0, .int s, .int i, .int o, .int j, .int n] M (ng_e8 M (ng_movE M s i o j n) (fun _ => n) (fun _ M1 => M1 = ng_row M (65 + 2 * o.toNatClampNeg) (va_cpy (M (65 + 2 * s.toNatClampNeg)) (M (65 + 2 * o.toNatClampNeg)) i.toNatClampNeg j.toNatClampNeg n.toNatClampNeg))) := by
  refine ng_EvI.of (lv := [some (.ref 0), some (.int s), some (.int i), some (.int o), some (.int j), some (.int n), none, none]) (ty := .int) (by decide) (Nat.le_of_ble_eq_true rfl) rfl rfl (fun _ _ _ => rfl) ?_
  by_cases hs : ng_in s 0 3 = true
  · by_cases ho : ng_in o 0 3 = true
    · obtain ⟨q1, q2, q3⟩ := ng_s4 hs
      obtain ⟨o1, o2, o3⟩ := ng_s4 ho
      obtain ⟨hf0, hf1, hf2, hf3, hf4⟩ := ng_H q2
      obtain ⟨hg0, hg1, hg2, hg3, hg4⟩ := ng_H o2
      obtain ⟨i1, i2, i3, i4, L, hL, hL40⟩ := h5 _ q2
      obtain ⟨j1, j2, j3, j4, K, hK, hK40⟩ := h5 _ o2
      unfold ng_movE
      rw [if_pos (by rw [hs, ho]; rfl)]
      refine ng_aload_0 dX8_move_0 ?_
      refine ng_iload_1 dX8_move_1 ?_
      refine ng_callV_1x (y2 := mi_X8_sheetAt) dX8_move_2 lk_X8_122 ms_X8_sheetAt my_X8_sheetAt (by first | exact ⟨_, rfl⟩ | assumption | exact ng_fld_obj (f := 0) (by assumption)) mc_X8 (by first | decide | exact Nat.le_of_ble_eq_true rfl) (s_X8_sheetAt hs) (by decide) ?_
      refine ng_astore_6 dX8_move_5 (by first | rfl | assumption) ?_
      refine ng_aload_0 dX8_move_7 ?_
      refine ng_iload_3 dX8_move_8 ?_
      refine ng_callV_1x (y2 := mi_X8_sheetAt) dX8_move_9 lk_X8_122 ms_X8_sheetAt my_X8_sheetAt (by first | exact ⟨_, rfl⟩ | assumption | exact ng_fld_obj (f := 0) (by assumption)) mc_X8 (by first | decide | exact Nat.le_of_ble_eq_true rfl) (s_X8_sheetAt ho) (by decide) ?_
      refine ng_astore_7 dX8_move_12 (by first | rfl | assumption) ?_
      refine ng_aload_6 dX8_move_14 ?_
      refine ng_ifnull dX8_move_16 ?_
      refine ng_aload_7 dX8_move_19 ?_
      refine ng_ifnonnull 31 dX8_move_21 (by decide +kernel) ?_
      refine ng_aload_6 dX8_move_31 ?_
      refine ng_callV_0x (y2 := mi_X4_isMissing) dX8_move_33 lk_X8_126 ms_X4_isMissing my_X4_isMissing (by first | exact ⟨_, rfl⟩ | assumption | exact ng_fld_obj (f := 0) (by assumption)) mc_X4 (by first | decide | exact Nat.le_of_ble_eq_true rfl) (s_X4_isMissing q2) (by decide) ?_
      rw [i1]
      refine ng_ifb_ne 47 dX8_move_36 (by decide +kernel) (fun h36 => ?_) (fun h36 => ?_)
      · refine ng_aload_0 dX8_move_47 ?_
        refine ng_ldc dX8_move_48 kc_X8_130 ?_
        refine ng_callV_1x (y2 := mi_X8_fails) dX8_move_50 lk_X8_66 ms_X8_fails my_X8_fails (by first | exact ⟨_, rfl⟩ | assumption | exact ng_fld_obj (f := 0) (by assumption)) mc_X8 (by first | decide | exact Nat.le_of_ble_eq_true rfl) (s_X8_fails (k := 2) (by decide) (by decide) (by decide)) (by decide) ?_
        exact ng_ireturn dX8_move_53 ⟨_, rfl, by rw [if_pos (by first | exact Or.inl (of_decide_eq_true h36) | exact Or.inr (of_decide_eq_true h44))]; exact ⟨by decide, rfl⟩⟩
      · refine ng_aload_7 dX8_move_39 ?_
        refine ng_callV_0x (y2 := mi_X4_isMissing) dX8_move_41 lk_X8_126 ms_X4_isMissing my_X4_isMissing (by first | exact ⟨_, rfl⟩ | assumption | exact ng_fld_obj (f := 0) (by assumption)) mc_X4 (by first | decide | exact Nat.le_of_ble_eq_true rfl) (s_X4_isMissing o2) (by decide) ?_
        rw [j1]
        refine ng_ifb_eq 54 dX8_move_44 (by decide +kernel) (fun h44 => ?_) (fun h44 => ?_)
        · refine ng_aload_6 dX8_move_54 ?_
          refine ng_gI dX8_move_56 fl_X8_273 (by first | rfl | assumption) ?_
          refine ng_aload_7 dX8_move_59 ?_
          refine ng_gI dX8_move_61 fl_X8_273 (by first | rfl | assumption) ?_
          rw [i1, j1]
          refine ng_icmp_eq 74 dX8_move_64 (by decide +kernel) (fun h64 => ?_) (fun h64 => ?_)
          · refine ng_aload_6 dX8_move_74 ?_
            refine ng_iload_2 dX8_move_76 ?_
            refine ng_iload_5 dX8_move_77 ?_
            refine ng_callV_2x (y2 := mi_X4_holds) dX8_move_79 lk_X8_276 ms_X4_holds my_X4_holds (by first | exact ⟨_, rfl⟩ | assumption | exact ng_fld_obj (f := 0) (by assumption)) mc_X4 (by first | decide | exact Nat.le_of_ble_eq_true rfl) (s_X4_holds q2) (by decide) ?_
            rw [i2]
            refine ng_ifb_eq 97 dX8_move_82 (by decide +kernel) (fun h82 => ?_) (fun h82 => ?_)
            · refine ng_aload_0 dX8_move_97 ?_
              refine ng_ldc dX8_move_98 kc_X8_65 ?_
              refine ng_callV_1x (y2 := mi_X8_fails) dX8_move_100 lk_X8_66 ms_X8_fails my_X8_fails (by first | exact ⟨_, rfl⟩ | assumption | exact ng_fld_obj (f := 0) (by assumption)) mc_X8 (by first | decide | exact Nat.le_of_ble_eq_true rfl) (s_X8_fails (k := 1) (by decide) (by decide) (by decide)) (by decide) ?_
              exact ng_ireturn dX8_move_103 ⟨_, rfl, by rw [if_neg (by rintro (q | q); exact of_decide_eq_false h36 q; exact of_decide_eq_false h44 q), if_pos h64]; first | (rw [h82, Bool.false_and, if_neg (by decide)]; exact ⟨by decide, rfl⟩) | (rw [h82, h94, if_neg (by decide)]; exact ⟨by decide, rfl⟩)⟩
            · refine ng_aload_7 dX8_move_85 ?_
              refine ng_iload_4 dX8_move_87 ?_
              refine ng_iload_5 dX8_move_89 ?_
              refine ng_callV_2x (y2 := mi_X4_holds) dX8_move_91 lk_X8_276 ms_X4_holds my_X4_holds (by first | exact ⟨_, rfl⟩ | assumption | exact ng_fld_obj (f := 0) (by assumption)) mc_X4 (by first | decide | exact Nat.le_of_ble_eq_true rfl) (s_X4_holds o2) (by decide) ?_
              rw [j2]
              refine ng_ifb_ne 104 dX8_move_94 (by decide +kernel) (fun h94 => ?_) (fun h94 => ?_)
              · obtain ⟨w1, w2, w3⟩ := (ng_hold_I hL hL40).mp h82
                obtain ⟨u1, u2, u3⟩ := (ng_hold_I hK hK40).mp h94
                have c1 := ng_clI w1
                have c2 := ng_clI w2
                have c3 := ng_clI u2
                refine ng_aload_6 dX8_move_104 ?_
                refine ng_gR dX8_move_106 fl_X8_279 (by first | rfl | assumption) ?_
                refine ng_iload_2 dX8_move_109 ?_
                refine ng_aload_7 dX8_move_110 ?_
                refine ng_gR dX8_move_112 fl_X8_279 (by first | rfl | assumption) ?_
                refine ng_iload_4 dX8_move_115 ?_
                refine ng_iload_5 dX8_move_117 ?_
                refine ng_arraycopy dX8_move_119 lk_X8_282 mac_n mac_s li_J10 hf3 hg3 (ng_nlt0 w2) (ng_nlt0 u2) (ng_nlt0 w1) (by omega) (by omega) (by first | decide | exact Nat.le_of_ble_eq_true rfl) ?_
                refine ng_iload_5 dX8_move_122 ?_
                exact ng_ireturn dX8_move_124 ⟨_, rfl, by rw [if_neg (by rintro (q | q); exact of_decide_eq_false h36 q; exact of_decide_eq_false h44 q), if_pos h64, h82, h94, if_pos (by decide)]; exact ⟨rfl, rfl⟩⟩
              · refine ng_aload_0 dX8_move_97 ?_
                refine ng_ldc dX8_move_98 kc_X8_65 ?_
                refine ng_callV_1x (y2 := mi_X8_fails) dX8_move_100 lk_X8_66 ms_X8_fails my_X8_fails (by first | exact ⟨_, rfl⟩ | assumption | exact ng_fld_obj (f := 0) (by assumption)) mc_X8 (by first | decide | exact Nat.le_of_ble_eq_true rfl) (s_X8_fails (k := 1) (by decide) (by decide) (by decide)) (by decide) ?_
                exact ng_ireturn dX8_move_103 ⟨_, rfl, by rw [if_neg (by rintro (q | q); exact of_decide_eq_false h36 q; exact of_decide_eq_false h44 q), if_pos h64]; first | (rw [h82, Bool.false_and, if_neg (by decide)]; exact ⟨by decide, rfl⟩) | (rw [h82, h94, if_neg (by decide)]; exact ⟨by decide, rfl⟩)⟩
          · refine ng_aload_0 dX8_move_67 ?_
            refine ng_ldc dX8_move_68 kc_X8_121 ?_
            refine ng_callV_1x (y2 := mi_X8_fails) dX8_move_70 lk_X8_66 ms_X8_fails my_X8_fails (by first | exact ⟨_, rfl⟩ | assumption | exact ng_fld_obj (f := 0) (by assumption)) mc_X8 (by first | decide | exact Nat.le_of_ble_eq_true rfl) (s_X8_fails (k := 5) (by decide) (by decide) (by decide)) (by decide) ?_
            exact ng_ireturn dX8_move_73 ⟨_, rfl, by rw [if_neg (by rintro (q | q); exact of_decide_eq_false h36 q; exact of_decide_eq_false h44 q), if_neg h64]; exact ⟨by decide, rfl⟩⟩
        · refine ng_aload_0 dX8_move_47 ?_
          refine ng_ldc dX8_move_48 kc_X8_130 ?_
          refine ng_callV_1x (y2 := mi_X8_fails) dX8_move_50 lk_X8_66 ms_X8_fails my_X8_fails (by first | exact ⟨_, rfl⟩ | assumption | exact ng_fld_obj (f := 0) (by assumption)) mc_X8 (by first | decide | exact Nat.le_of_ble_eq_true rfl) (s_X8_fails (k := 2) (by decide) (by decide) (by decide)) (by decide) ?_
          exact ng_ireturn dX8_move_53 ⟨_, rfl, by rw [if_pos (by first | exact Or.inl (of_decide_eq_true h36) | exact Or.inr (of_decide_eq_true h44))]; exact ⟨by decide, rfl⟩⟩
    · obtain ⟨q1, q2, q3⟩ := ng_s4 hs
      obtain ⟨hf0, hf1, hf2, hf3, hf4⟩ := ng_H q2
      unfold ng_movE
      rw [if_neg (by rw [hs]; exact ho)]
      refine ng_aload_0 dX8_move_0 ?_
      refine ng_iload_1 dX8_move_1 ?_
      refine ng_callV_1x (y2 := mi_X8_sheetAt) dX8_move_2 lk_X8_122 ms_X8_sheetAt my_X8_sheetAt (by first | exact ⟨_, rfl⟩ | assumption | exact ng_fld_obj (f := 0) (by assumption)) mc_X8 (by first | decide | exact Nat.le_of_ble_eq_true rfl) (s_X8_sheetAt hs) (by decide) ?_
      refine ng_astore_6 dX8_move_5 (by first | rfl | assumption) ?_
      refine ng_aload_0 dX8_move_7 ?_
      refine ng_iload_3 dX8_move_8 ?_
      refine ng_callV_1x (y2 := mi_X8_sheetAt) dX8_move_9 lk_X8_122 ms_X8_sheetAt my_X8_sheetAt (by first | exact ⟨_, rfl⟩ | assumption | exact ng_fld_obj (f := 0) (by assumption)) mc_X8 (by first | decide | exact Nat.le_of_ble_eq_true rfl) (s_X8_sheetAtN ((Bool.not_eq_true _).mp ho)) (by decide) ?_
      refine ng_astoreN_7 dX8_move_12 (by first | rfl | assumption) ?_
      refine ng_aload_6 dX8_move_14 ?_
      refine ng_ifnull dX8_move_16 ?_
      refine ng_aloadN_7 dX8_move_19 ?_
      refine ng_ifnonnullN dX8_move_21 ?_
      refine ng_aload_0 dX8_move_24 ?_
      refine ng_ldc dX8_move_25 kc_X8_65 ?_
      refine ng_callV_1x (y2 := mi_X8_fails) dX8_move_27 lk_X8_66 ms_X8_fails my_X8_fails (by first | exact ⟨_, rfl⟩ | assumption | exact ng_fld_obj (f := 0) (by assumption)) mc_X8 (by first | decide | exact Nat.le_of_ble_eq_true rfl) (s_X8_fails (k := 1) (by decide) (by decide) (by decide)) (by decide) ?_
      exact ng_ireturn dX8_move_30 ⟨_, rfl, by decide, rfl⟩
  · have hE : ng_movE M s i o j n = .inl 1 := by rw [ng_movE, if_neg (by rw [(Bool.not_eq_true _).mp hs, Bool.false_and]; decide)]
    rw [hE]
    by_cases ho : ng_in o 0 3 = true
    · obtain ⟨o1, o2, o3⟩ := ng_s4 ho
      obtain ⟨hg0, hg1, hg2, hg3, hg4⟩ := ng_H o2
      refine ng_aload_0 dX8_move_0 ?_
      refine ng_iload_1 dX8_move_1 ?_
      refine ng_callV_1x (y2 := mi_X8_sheetAt) dX8_move_2 lk_X8_122 ms_X8_sheetAt my_X8_sheetAt (by first | exact ⟨_, rfl⟩ | assumption | exact ng_fld_obj (f := 0) (by assumption)) mc_X8 (by first | decide | exact Nat.le_of_ble_eq_true rfl) (s_X8_sheetAtN ((Bool.not_eq_true _).mp hs)) (by decide) ?_
      refine ng_astoreN_6 dX8_move_5 (by first | rfl | assumption) ?_
      refine ng_aload_0 dX8_move_7 ?_
      refine ng_iload_3 dX8_move_8 ?_
      refine ng_callV_1x (y2 := mi_X8_sheetAt) dX8_move_9 lk_X8_122 ms_X8_sheetAt my_X8_sheetAt (by first | exact ⟨_, rfl⟩ | assumption | exact ng_fld_obj (f := 0) (by assumption)) mc_X8 (by first | decide | exact Nat.le_of_ble_eq_true rfl) (s_X8_sheetAt ho) (by decide) ?_
      refine ng_astore_7 dX8_move_12 (by first | rfl | assumption) ?_
      refine ng_aloadN_6 dX8_move_14 ?_
      refine ng_ifnullN 24 dX8_move_16 (by decide +kernel) ?_
      refine ng_aload_0 dX8_move_24 ?_
      refine ng_ldc dX8_move_25 kc_X8_65 ?_
      refine ng_callV_1x (y2 := mi_X8_fails) dX8_move_27 lk_X8_66 ms_X8_fails my_X8_fails (by first | exact ⟨_, rfl⟩ | assumption | exact ng_fld_obj (f := 0) (by assumption)) mc_X8 (by first | decide | exact Nat.le_of_ble_eq_true rfl) (s_X8_fails (k := 1) (by decide) (by decide) (by decide)) (by decide) ?_
      exact ng_ireturn dX8_move_30 ⟨_, rfl, by decide, rfl⟩
    · skip
      refine ng_aload_0 dX8_move_0 ?_
      refine ng_iload_1 dX8_move_1 ?_
      refine ng_callV_1x (y2 := mi_X8_sheetAt) dX8_move_2 lk_X8_122 ms_X8_sheetAt my_X8_sheetAt (by first | exact ⟨_, rfl⟩ | assumption | exact ng_fld_obj (f := 0) (by assumption)) mc_X8 (by first | decide | exact Nat.le_of_ble_eq_true rfl) (s_X8_sheetAtN ((Bool.not_eq_true _).mp hs)) (by decide) ?_
      refine ng_astoreN_6 dX8_move_5 (by first | rfl | assumption) ?_
      refine ng_aload_0 dX8_move_7 ?_
      refine ng_iload_3 dX8_move_8 ?_
      refine ng_callV_1x (y2 := mi_X8_sheetAt) dX8_move_9 lk_X8_122 ms_X8_sheetAt my_X8_sheetAt (by first | exact ⟨_, rfl⟩ | assumption | exact ng_fld_obj (f := 0) (by assumption)) mc_X8 (by first | decide | exact Nat.le_of_ble_eq_true rfl) (s_X8_sheetAtN ((Bool.not_eq_true _).mp ho)) (by decide) ?_
      refine ng_astoreN_7 dX8_move_12 (by first | rfl | assumption) ?_
      refine ng_aloadN_6 dX8_move_14 ?_
      refine ng_ifnullN 24 dX8_move_16 (by decide +kernel) ?_
      refine ng_aload_0 dX8_move_24 ?_
      refine ng_ldc dX8_move_25 kc_X8_65 ?_
      refine ng_callV_1x (y2 := mi_X8_fails) dX8_move_27 lk_X8_66 ms_X8_fails my_X8_fails (by first | exact ⟨_, rfl⟩ | assumption | exact ng_fld_obj (f := 0) (by assumption)) mc_X8 (by first | decide | exact Nat.le_of_ble_eq_true rfl) (s_X8_fails (k := 1) (by decide) (by decide) (by decide)) (by decide) ?_
      exact ng_ireturn dX8_move_30 ⟨_, rfl, by decide, rfl⟩
theorem ng_i40b {s t u : Int32} {i k l : Nat} (hs : s = nI i) (ht : t = nI k) (hu : u = nI l) : 40 * s + t + u = nI (40 * i + k + l) := by
  rw [ng_i40 hs ht, hu, nI_add]
theorem l_X9_move1 {X : Nat × (Nat → Int32)} {M : ng_M} {s i o j n : Int32} {S I N : Nat} {F : Option Value → ng_M → Prop} (hs : s = nI S) (hS : S < 4) (hi : i = nI I) (hn : n = nI N) (hN : I + N ≤ 40) : ∀ (m k : Nat) (M1 : ng_M), k + m = N → ng_off [89] M M1 → (∀ l, l < k → M1 89 l = M 88 (40 * S + I + l)) →
    (∀ M2 x6, ng_off [89] M M2 → (∀ l, l < N → M2 89 l = M 88 (40 * S + I + l)) → ng_Go X mi_X9_move 3 161 [some (.ref 73), some (.int s), some (.int i), some (.int o), some (.int j), some (.int n), x6] [] M2 F) →
    ng_Go X mi_X9_move 3 127 [some (.ref 73), some (.int s), some (.int i), some (.int o), some (.int j), some (.int n), some (.int (nI k))] [] M1 F := by
  intro m
  induction m with
  | zero =>
    intro k M1 hk ho hv kk
    have hk2 : k = N := by omega
    subst hk2
    refine ng_iload_6 dX9_move_127 ?_
    refine ng_iload_5 dX9_move_129 ?_
    refine ng_icmp_ge 161 dX9_move_131 (by decide +kernel) (fun h131 => ?_) (fun h131 => ?_)
    · exact kk M1 _ ho hv
    · exact absurd (by rw [hn]; exact Int32.le_refl _) h131
  | succ m ih =>
    intro k M1 hk ho hv kk
    have hx := ng_i40b hs hi (rfl : nI k = nI k)
    have hvk : vp_in (nI k) 40 := vp_in_nI (by omega) (by omega)
    refine ng_iload_6 dX9_move_127 ?_
    refine ng_iload_5 dX9_move_129 ?_
    refine ng_icmp_ge 161 dX9_move_131 (by decide +kernel) (fun h131 => ?_) (fun h131 => ?_)
    · rw [hn] at h131; exact absurd h131 (nI_ge (by omega) (by omega))
    · refine ng_aload_0 dX9_move_134 ?_
      refine ng_gR dX9_move_135 fl_X9_63 (by first | rfl | assumption) ?_
      refine ng_iload_6 dX9_move_138 ?_
      refine ng_aload_0 dX9_move_140 ?_
      refine ng_gR dX9_move_141 fl_X9_60 (by first | rfl | assumption) ?_
      refine ng_bipush (v := 40) dX9_move_144 (by decide) ?_
      refine ng_iload_1 dX9_move_146 ?_
      refine ng_imul dX9_move_147 ?_
      refine ng_iload_2 dX9_move_148 ?_
      refine ng_iadd dX9_move_149 ?_
      refine ng_iload_6 dX9_move_150 ?_
      refine ng_iadd dX9_move_152 ?_
      refine ng_ialdL (j := (40 * S + I + k)) dX9_move_153 (by first | rfl | assumption) (by rw [hx]; exact vp_in_nI (by omega) (by omega)) (by rw [hx, nI_clamp (by omega)]) ?_
      refine ng_iastL (j := k) dX9_move_154 (by first | rfl | assumption) (by first | assumption | (unfold vp_in; decide)) (by first | assumption | exact nI_clamp (by omega)) ?_
      refine ng_iinc_6 (w := 1) dX9_move_155 (by decide) rfl ?_
      refine ng_goto 127 dX9_move_158 (by decide +kernel) ?_
      rw [nI_1]
      refine ih (k + 1) _ (by omega) (ho.row (by simp)) (fun l hl => ?_) kk
      rw [ng_row_eq, ho 88 (by decide)]
      by_cases q : l = k
      · subst q; rw [ng_upd_eq]
      · rw [ng_upd_ne q]; exact hv l (by omega)
theorem l_X9_move2 {X : Nat × (Nat → Int32)} {M : ng_M} {s i o j n : Int32} {O J N : Nat} {w : Nat → Int32} (hs : o = nI O) (hO : O < 4) (hj : j = nI J) (hn : n = nI N) (hN : J + N ≤ 40) : ∀ (m k : Nat) (M1 : ng_M), k + m = N → ng_off [88, 89] M M1 → (∀ l, l < N → M1 89 l = w l) → (∀ l, M1 88 l = if 40 * O + J ≤ l ∧ l < 40 * O + J + k then w (l - (40 * O + J)) else M 88 l) →
    ng_Go X mi_X9_move 3 164 [some (.ref 73), some (.int s), some (.int i), some (.int o), some (.int j), some (.int n), some (.int (nI k))] [] M1 (fun r' M' => ∃ v, r' = some (.int v) ∧ v = n ∧ ng_off [88, 89] M M' ∧ ∀ l, M' 88 l = if 40 * O + J ≤ l ∧ l < 40 * O + J + N then w (l - (40 * O + J)) else M 88 l) := by
  intro m
  induction m with
  | zero =>
    intro k M1 hk ho hw hv
    have hk2 : k = N := by omega
    subst hk2
    refine ng_iload_6 dX9_move_164 ?_
    refine ng_iload_5 dX9_move_166 ?_
    refine ng_icmp_ge 199 dX9_move_168 (by decide +kernel) (fun h168 => ?_) (fun h168 => ?_)
    · refine ng_iload_5 dX9_move_199 ?_
      exact ng_ireturn dX9_move_201 ⟨_, rfl, rfl, ho, hv⟩
    · exact absurd (by rw [hn]; exact Int32.le_refl _) h168
  | succ m ih =>
    intro k M1 hk ho hw hv
    have hx := ng_i40b hs hj (rfl : nI k = nI k)
    have hvk : vp_in (nI k) 40 := vp_in_nI (by omega) (by omega)
    refine ng_iload_6 dX9_move_164 ?_
    refine ng_iload_5 dX9_move_166 ?_
    refine ng_icmp_ge 199 dX9_move_168 (by decide +kernel) (fun h168 => ?_) (fun h168 => ?_)
    · rw [hn] at h168; exact absurd h168 (nI_ge (by omega) (by omega))
    · refine ng_aload_0 dX9_move_171 ?_
      refine ng_gR dX9_move_172 fl_X9_60 (by first | rfl | assumption) ?_
      refine ng_bipush (v := 40) dX9_move_175 (by decide) ?_
      refine ng_iload_3 dX9_move_177 ?_
      refine ng_imul dX9_move_178 ?_
      refine ng_iload_4 dX9_move_179 ?_
      refine ng_iadd dX9_move_181 ?_
      refine ng_iload_6 dX9_move_182 ?_
      refine ng_iadd dX9_move_184 ?_
      refine ng_aload_0 dX9_move_185 ?_
      refine ng_gR dX9_move_186 fl_X9_63 (by first | rfl | assumption) ?_
      refine ng_iload_6 dX9_move_189 ?_
      refine ng_ialdL (j := k) dX9_move_191 (by first | rfl | assumption) (by first | assumption | (unfold vp_in; decide)) (by first | assumption | exact nI_clamp (by omega)) ?_
      refine ng_iastL (j := (40 * O + J + k)) dX9_move_192 (by first | rfl | assumption) (by rw [hx]; exact vp_in_nI (by omega) (by omega)) (by rw [hx, nI_clamp (by omega)]) ?_
      refine ng_iinc_6 (w := 1) dX9_move_193 (by decide) rfl ?_
      refine ng_goto 164 dX9_move_196 (by decide +kernel) ?_
      rw [nI_1]
      refine ih (k + 1) _ (by omega) (ho.row (by simp)) (fun l hl => by rw [ng_row_ne (by decide)]; exact hw l hl) (fun l => ?_)
      rw [ng_row_eq, hw k (by omega)]
      by_cases q : l = 40 * O + J + k
      · subst q; rw [ng_upd_eq, if_pos (by omega)]; congr 1; omega
      · rw [ng_upd_ne q, hv l]
        by_cases q2 : 40 * O + J ≤ l ∧ l < 40 * O + J + k
        · rw [if_pos q2, if_pos (by omega)]
        · rw [if_neg q2, if_neg (by omega)]
theorem ng_addLI {x y : Int32} : (x.toInt64 + y.toInt64).toInt = x.toInt + y.toInt := by
  have hx := ng_rng x
  have hy := ng_rng y
  rw [ng_addL (by rw [Int32.toInt_toInt64, Int32.toInt_toInt64]; omega) (by rw [Int32.toInt_toInt64, Int32.toInt_toInt64]; omega), Int32.toInt_toInt64, Int32.toInt_toInt64]
theorem r_move {X : Nat × (Nat → Int32)} {M : ng_M} {s i o j n : Int32} (hL : ∀ i, i < 4 → ∃ L, M 87 i = nI L ∧ L ≤ 40) : ng_EvI X 3 mi_X9_move [.ref 73, .int s, .int i, .int o, .int j, .int n] M (ng_e9 M (ng_movE M s i o j n) (fun _ => n) (fun _ M1 => ng_off [88, 89] M M1 ∧ ∀ l, M1 88 l = if 40 * o.toNatClampNeg + j.toNatClampNeg ≤ l ∧ l < 40 * o.toNatClampNeg + j.toNatClampNeg + n.toNatClampNeg then M 88 (40 * s.toNatClampNeg + i.toNatClampNeg + (l - (40 * o.toNatClampNeg + j.toNatClampNeg))) else M 88 l)) := by
  refine ng_EvI.of (lv := [some (.ref 73), some (.int s), some (.int i), some (.int o), some (.int j), some (.int n), none]) (ty := .int) (by decide) (Nat.le_of_ble_eq_true rfl) rfl rfl (fun _ _ _ => rfl) ?_
  by_cases hsi : ng_in s 0 3 = true
  · by_cases hoi : ng_in o 0 3 = true
    · obtain ⟨q1, q2, q3⟩ := ng_s4 hsi
      obtain ⟨o1, o2, o3⟩ := ng_s4 hoi
      obtain ⟨K, hK, hK40⟩ := hL _ o2
      obtain ⟨L, hL, hL40⟩ := hL _ q2
      have bad : (¬ (0 ≤ n.toInt ∧ 0 ≤ i.toInt ∧ 0 ≤ j.toInt ∧ i.toInt + n.toInt ≤ L ∧ j.toInt + n.toInt ≤ K)) → (ng_hold (M 87 s.toNatClampNeg) i n && ng_hold (M 87 o.toNatClampNeg) j n) = false := by
        intro z
        refine (Bool.not_eq_true _).mp (fun q => z ?_)
        obtain ⟨a1, a2⟩ := Bool.and_eq_true_iff.mp q
        have b1 := (ng_hold_I hL hL40).mp a1
        have b2 := (ng_hold_I hK hK40).mp a2
        omega
      have eL : (M 87 s.toNatClampNeg).toInt64.toInt = L := by rw [Int32.toInt_toInt64, hL, nI_toInt (by omega)]
      have eK : (M 87 o.toNatClampNeg).toInt64.toInt = K := by rw [Int32.toInt_toInt64, hK, nI_toInt (by omega)]
      unfold ng_movE
      rw [if_pos (by rw [hsi, hoi]; rfl)]
      refine ng_iload_1 dX9_move_0 ?_
      refine ng_callS_1x (y2 := mi_X9_isSheet) dX9_move_1 lk_X9_115 ms_X9_isSheet my_X9_isSheet (by first | decide | exact Nat.le_of_ble_eq_true rfl) (s_X9_isSheet) (by decide) ?_
      refine ng_ifb_eq 14 dX9_move_4 (by decide +kernel) (fun h4 => ?_) (fun h4 => ?_)
      · rw [hsi] at h4; exact absurd h4 (by decide)
      · refine ng_iload_3 dX9_move_7 ?_
        refine ng_callS_1x (y2 := mi_X9_isSheet) dX9_move_8 lk_X9_115 ms_X9_isSheet my_X9_isSheet (by first | decide | exact Nat.le_of_ble_eq_true rfl) (s_X9_isSheet) (by decide) ?_
        refine ng_ifb_ne 21 dX9_move_11 (by decide +kernel) (fun h11 => ?_) (fun h11 => ?_)
        · refine ng_aload_0 dX9_move_21 ?_
          refine ng_gR dX9_move_22 fl_X9_54 (by first | rfl | assumption) ?_
          refine ng_iload_1 dX9_move_25 ?_
          refine ng_iald dX9_move_26 (by first | rfl | assumption) (by first | assumption | (unfold vp_in; decide)) ?_
          refine ng_if_eq 39 dX9_move_27 (by decide +kernel) (fun h27 => ?_) (fun h27 => ?_)
          · refine ng_aload_0 dX9_move_39 ?_
            refine ng_ldc dX9_move_40 kc_X9_118 ?_
            refine ng_callV_1x (y2 := mi_X9_finding) dX9_move_42 lk_X9_92 ms_X9_finding my_X9_finding (by first | exact ⟨_, rfl⟩ | assumption | exact ng_fld_obj (f := 0) (by assumption)) mc_X9 (by first | decide | exact Nat.le_of_ble_eq_true rfl) (s_X9_finding (k := 2) (by decide) (by decide) (by decide)) (by decide) ?_
            exact ng_ireturn dX9_move_45 ⟨_, rfl, by rw [if_pos (by first | exact Or.inl h27 | exact Or.inr h36)]; exact ⟨by decide, rfl⟩⟩
          · refine ng_aload_0 dX9_move_30 ?_
            refine ng_gR dX9_move_31 fl_X9_54 (by first | rfl | assumption) ?_
            refine ng_iload_3 dX9_move_34 ?_
            refine ng_iald dX9_move_35 (by first | rfl | assumption) (by first | assumption | (unfold vp_in; decide)) ?_
            refine ng_if_ne 46 dX9_move_36 (by decide +kernel) (fun h36 => ?_) (fun h36 => ?_)
            · refine ng_aload_0 dX9_move_46 ?_
              refine ng_gR dX9_move_47 fl_X9_54 (by first | rfl | assumption) ?_
              refine ng_iload_1 dX9_move_50 ?_
              refine ng_iald dX9_move_51 (by first | rfl | assumption) (by first | assumption | (unfold vp_in; decide)) ?_
              refine ng_aload_0 dX9_move_52 ?_
              refine ng_gR dX9_move_53 fl_X9_54 (by first | rfl | assumption) ?_
              refine ng_iload_3 dX9_move_56 ?_
              refine ng_iald dX9_move_57 (by first | rfl | assumption) (by first | assumption | (unfold vp_in; decide)) ?_
              refine ng_icmp_eq 68 dX9_move_58 (by decide +kernel) (fun h58 => ?_) (fun h58 => ?_)
              · refine ng_iload_5 dX9_move_68 ?_
                refine ng_if_lt 117 dX9_move_70 (by decide +kernel) (fun h70 => ?_) (fun h70 => ?_)
                · refine ng_aload_0 dX9_move_117 ?_
                  refine ng_ldc dX9_move_118 kc_X9_91 ?_
                  refine ng_callV_1x (y2 := mi_X9_finding) dX9_move_120 lk_X9_92 ms_X9_finding my_X9_finding (by first | exact ⟨_, rfl⟩ | assumption | exact ng_fld_obj (f := 0) (by assumption)) mc_X9 (by first | decide | exact Nat.le_of_ble_eq_true rfl) (s_X9_finding (k := 1) (by decide) (by decide) (by decide)) (by decide) ?_
                  exact ng_ireturn dX9_move_123 ⟨_, rfl, by
  rw [if_neg (by rintro (q | q); exact h27 q; exact h36 q), if_pos h58]
  rw [bad ?_, if_neg (by decide)]
  · exact ⟨by decide, rfl⟩
  · first
    | (rw [ng_lt, ng_0] at h70; omega)
    | (rw [ng_lt, ng_0] at h74; omega)
    | (rw [ng_lt, ng_0] at h79; omega)
    | (rw [lg_cmp_gt, Int64.lt_iff_toInt_lt, ng_addLI, eL] at h96; omega)
    | (rw [lg_cmp_le, Int64.le_iff_toInt_le, ng_addLI, eK] at h114; omega)⟩
                · refine ng_iload_2 dX9_move_73 ?_
                  refine ng_if_lt 117 dX9_move_74 (by decide +kernel) (fun h74 => ?_) (fun h74 => ?_)
                  · refine ng_aload_0 dX9_move_117 ?_
                    refine ng_ldc dX9_move_118 kc_X9_91 ?_
                    refine ng_callV_1x (y2 := mi_X9_finding) dX9_move_120 lk_X9_92 ms_X9_finding my_X9_finding (by first | exact ⟨_, rfl⟩ | assumption | exact ng_fld_obj (f := 0) (by assumption)) mc_X9 (by first | decide | exact Nat.le_of_ble_eq_true rfl) (s_X9_finding (k := 1) (by decide) (by decide) (by decide)) (by decide) ?_
                    exact ng_ireturn dX9_move_123 ⟨_, rfl, by
  rw [if_neg (by rintro (q | q); exact h27 q; exact h36 q), if_pos h58]
  rw [bad ?_, if_neg (by decide)]
  · exact ⟨by decide, rfl⟩
  · first
    | (rw [ng_lt, ng_0] at h70; omega)
    | (rw [ng_lt, ng_0] at h74; omega)
    | (rw [ng_lt, ng_0] at h79; omega)
    | (rw [lg_cmp_gt, Int64.lt_iff_toInt_lt, ng_addLI, eL] at h96; omega)
    | (rw [lg_cmp_le, Int64.le_iff_toInt_le, ng_addLI, eK] at h114; omega)⟩
                  · refine ng_iload_4 dX9_move_77 ?_
                    refine ng_if_lt 117 dX9_move_79 (by decide +kernel) (fun h79 => ?_) (fun h79 => ?_)
                    · refine ng_aload_0 dX9_move_117 ?_
                      refine ng_ldc dX9_move_118 kc_X9_91 ?_
                      refine ng_callV_1x (y2 := mi_X9_finding) dX9_move_120 lk_X9_92 ms_X9_finding my_X9_finding (by first | exact ⟨_, rfl⟩ | assumption | exact ng_fld_obj (f := 0) (by assumption)) mc_X9 (by first | decide | exact Nat.le_of_ble_eq_true rfl) (s_X9_finding (k := 1) (by decide) (by decide) (by decide)) (by decide) ?_
                      exact ng_ireturn dX9_move_123 ⟨_, rfl, by
  rw [if_neg (by rintro (q | q); exact h27 q; exact h36 q), if_pos h58]
  rw [bad ?_, if_neg (by decide)]
  · exact ⟨by decide, rfl⟩
  · first
    | (rw [ng_lt, ng_0] at h70; omega)
    | (rw [ng_lt, ng_0] at h74; omega)
    | (rw [ng_lt, ng_0] at h79; omega)
    | (rw [lg_cmp_gt, Int64.lt_iff_toInt_lt, ng_addLI, eL] at h96; omega)
    | (rw [lg_cmp_le, Int64.le_iff_toInt_le, ng_addLI, eK] at h114; omega)⟩
                    · refine ng_iload_2 dX9_move_82 ?_
                      refine ng_i2l dX9_move_83 ?_
                      refine ng_iload_5 dX9_move_84 ?_
                      refine ng_i2l dX9_move_86 ?_
                      refine ng_ladd dX9_move_87 ?_
                      refine ng_aload_0 dX9_move_88 ?_
                      refine ng_gR dX9_move_89 fl_X9_57 (by first | rfl | assumption) ?_
                      refine ng_iload_1 dX9_move_92 ?_
                      refine ng_iald dX9_move_93 (by first | rfl | assumption) (by first | assumption | (unfold vp_in; decide)) ?_
                      refine ng_i2l dX9_move_94 ?_
                      refine ng_lcmp dX9_move_95 ?_
                      refine ng_if_gt 117 dX9_move_96 (by decide +kernel) (fun h96 => ?_) (fun h96 => ?_)
                      · refine ng_aload_0 dX9_move_117 ?_
                        refine ng_ldc dX9_move_118 kc_X9_91 ?_
                        refine ng_callV_1x (y2 := mi_X9_finding) dX9_move_120 lk_X9_92 ms_X9_finding my_X9_finding (by first | exact ⟨_, rfl⟩ | assumption | exact ng_fld_obj (f := 0) (by assumption)) mc_X9 (by first | decide | exact Nat.le_of_ble_eq_true rfl) (s_X9_finding (k := 1) (by decide) (by decide) (by decide)) (by decide) ?_
                        exact ng_ireturn dX9_move_123 ⟨_, rfl, by
  rw [if_neg (by rintro (q | q); exact h27 q; exact h36 q), if_pos h58]
  rw [bad ?_, if_neg (by decide)]
  · exact ⟨by decide, rfl⟩
  · first
    | (rw [ng_lt, ng_0] at h70; omega)
    | (rw [ng_lt, ng_0] at h74; omega)
    | (rw [ng_lt, ng_0] at h79; omega)
    | (rw [lg_cmp_gt, Int64.lt_iff_toInt_lt, ng_addLI, eL] at h96; omega)
    | (rw [lg_cmp_le, Int64.le_iff_toInt_le, ng_addLI, eK] at h114; omega)⟩
                      · refine ng_iload_4 dX9_move_99 ?_
                        refine ng_i2l dX9_move_101 ?_
                        refine ng_iload_5 dX9_move_102 ?_
                        refine ng_i2l dX9_move_104 ?_
                        refine ng_ladd dX9_move_105 ?_
                        refine ng_aload_0 dX9_move_106 ?_
                        refine ng_gR dX9_move_107 fl_X9_57 (by first | rfl | assumption) ?_
                        refine ng_iload_3 dX9_move_110 ?_
                        refine ng_iald dX9_move_111 (by first | rfl | assumption) (by first | assumption | (unfold vp_in; decide)) ?_
                        refine ng_i2l dX9_move_112 ?_
                        refine ng_lcmp dX9_move_113 ?_
                        refine ng_if_le 124 dX9_move_114 (by decide +kernel) (fun h114 => ?_) (fun h114 => ?_)
                        · refine ng_iconst_0 dX9_move_124 ?_
                          refine ng_istore_6 dX9_move_125 (by first | rfl | assumption) ?_
                          rw [lg_cmp_gt, Int64.lt_iff_toInt_lt, ng_addLI, eL] at h96
                          rw [lg_cmp_le, Int64.le_iff_toInt_le, ng_addLI, eK] at h114
                          have n0 : 0 ≤ n.toInt := by rw [ng_lt, ng_0] at h70; omega
                          have i0 : 0 ≤ i.toInt := by rw [ng_lt, ng_0] at h74; omega
                          have j0 : 0 ≤ j.toInt := by rw [ng_lt, ng_0] at h79; omega
                          have c1 := ng_clI n0
                          have c2 := ng_clI i0
                          have c3 := ng_clI j0
                          have g1 : ng_hold (M 87 s.toNatClampNeg) i n = true := (ng_hold_I hL hL40).mpr ⟨n0, i0, by omega⟩
                          have g2 : ng_hold (M 87 o.toNatClampNeg) j n = true := (ng_hold_I hK hK40).mpr ⟨n0, j0, by omega⟩
                          have en : n = nI n.toNatClampNeg := ng_nat (n := 41) (ng_vp n0 (by omega))
                          have ei : i = nI i.toNatClampNeg := ng_nat (n := 41) (ng_vp i0 (by omega))
                          have ej : j = nI j.toNatClampNeg := ng_nat (n := 41) (ng_vp j0 (by omega))
                          rw [if_neg (by rintro (q | q); exact h27 q; exact h36 q), if_pos h58, g1, g2, if_pos (by decide)]
                          refine l_X9_move1 (M := M) q1 q2 ei en (by omega) n.toNatClampNeg 0 M (by omega) ng_off.rf (fun l hl => by omega) (fun M2 x6 a1 a2 => ?_)
                          refine ng_iconst_0 dX9_move_161 ?_
                          refine ng_istore_6 dX9_move_162 (by first | rfl | assumption) ?_
                          have e88 : M2 88 = M 88 := a1 88 (by decide)
                          refine (l_X9_move2 (M := M) (w := fun l => M 88 (40 * s.toNatClampNeg + i.toNatClampNeg + l)) o1 o2 ej en (by omega) n.toNatClampNeg 0 M2 (by omega) (a1.mono (by decide)) a2 (fun l => by rw [if_neg (by omega), e88])).imp (fun r M3 z => ?_)
                          obtain ⟨v, z1, z2, z3, z4⟩ := z
                          exact ⟨v, z1, z2, z3, z4⟩
                        · refine ng_aload_0 dX9_move_117 ?_
                          refine ng_ldc dX9_move_118 kc_X9_91 ?_
                          refine ng_callV_1x (y2 := mi_X9_finding) dX9_move_120 lk_X9_92 ms_X9_finding my_X9_finding (by first | exact ⟨_, rfl⟩ | assumption | exact ng_fld_obj (f := 0) (by assumption)) mc_X9 (by first | decide | exact Nat.le_of_ble_eq_true rfl) (s_X9_finding (k := 1) (by decide) (by decide) (by decide)) (by decide) ?_
                          exact ng_ireturn dX9_move_123 ⟨_, rfl, by
  rw [if_neg (by rintro (q | q); exact h27 q; exact h36 q), if_pos h58]
  rw [bad ?_, if_neg (by decide)]
  · exact ⟨by decide, rfl⟩
  · first
    | (rw [ng_lt, ng_0] at h70; omega)
    | (rw [ng_lt, ng_0] at h74; omega)
    | (rw [ng_lt, ng_0] at h79; omega)
    | (rw [lg_cmp_gt, Int64.lt_iff_toInt_lt, ng_addLI, eL] at h96; omega)
    | (rw [lg_cmp_le, Int64.le_iff_toInt_le, ng_addLI, eK] at h114; omega)⟩
              · refine ng_aload_0 dX9_move_61 ?_
                refine ng_ldc dX9_move_62 kc_X9_114 ?_
                refine ng_callV_1x (y2 := mi_X9_finding) dX9_move_64 lk_X9_92 ms_X9_finding my_X9_finding (by first | exact ⟨_, rfl⟩ | assumption | exact ng_fld_obj (f := 0) (by assumption)) mc_X9 (by first | decide | exact Nat.le_of_ble_eq_true rfl) (s_X9_finding (k := 5) (by decide) (by decide) (by decide)) (by decide) ?_
                exact ng_ireturn dX9_move_67 ⟨_, rfl, by rw [if_neg (by rintro (q | q); exact h27 q; exact h36 q), if_neg h58]; exact ⟨by decide, rfl⟩⟩
            · refine ng_aload_0 dX9_move_39 ?_
              refine ng_ldc dX9_move_40 kc_X9_118 ?_
              refine ng_callV_1x (y2 := mi_X9_finding) dX9_move_42 lk_X9_92 ms_X9_finding my_X9_finding (by first | exact ⟨_, rfl⟩ | assumption | exact ng_fld_obj (f := 0) (by assumption)) mc_X9 (by first | decide | exact Nat.le_of_ble_eq_true rfl) (s_X9_finding (k := 2) (by decide) (by decide) (by decide)) (by decide) ?_
              exact ng_ireturn dX9_move_45 ⟨_, rfl, by rw [if_pos (by first | exact Or.inl h27 | exact Or.inr h36)]; exact ⟨by decide, rfl⟩⟩
        · rw [hoi] at h11; exact absurd h11 (by decide)
    · unfold ng_movE
      rw [if_neg (by rw [hsi]; exact hoi)]
      refine ng_iload_1 dX9_move_0 ?_
      refine ng_callS_1x (y2 := mi_X9_isSheet) dX9_move_1 lk_X9_115 ms_X9_isSheet my_X9_isSheet (by first | decide | exact Nat.le_of_ble_eq_true rfl) (s_X9_isSheet) (by decide) ?_
      refine ng_ifb_eq 14 dX9_move_4 (by decide +kernel) (fun h4 => ?_) (fun h4 => ?_)
      · rw [hsi] at h4; exact absurd h4 (by decide)
      · refine ng_iload_3 dX9_move_7 ?_
        refine ng_callS_1x (y2 := mi_X9_isSheet) dX9_move_8 lk_X9_115 ms_X9_isSheet my_X9_isSheet (by first | decide | exact Nat.le_of_ble_eq_true rfl) (s_X9_isSheet) (by decide) ?_
        refine ng_ifb_ne 21 dX9_move_11 (by decide +kernel) (fun h11 => ?_) (fun h11 => ?_)
        · exact absurd h11 hoi
        · refine ng_aload_0 dX9_move_14 ?_
          refine ng_ldc dX9_move_15 kc_X9_91 ?_
          refine ng_callV_1x (y2 := mi_X9_finding) dX9_move_17 lk_X9_92 ms_X9_finding my_X9_finding (by first | exact ⟨_, rfl⟩ | assumption | exact ng_fld_obj (f := 0) (by assumption)) mc_X9 (by first | decide | exact Nat.le_of_ble_eq_true rfl) (s_X9_finding (k := 1) (by decide) (by decide) (by decide)) (by decide) ?_
          exact ng_ireturn dX9_move_20 ⟨_, rfl, by decide, rfl⟩
  · have hf := (Bool.not_eq_true _).mp hsi
    unfold ng_movE
    rw [if_neg (by rw [hf, Bool.false_and]; decide)]
    refine ng_iload_1 dX9_move_0 ?_
    refine ng_callS_1x (y2 := mi_X9_isSheet) dX9_move_1 lk_X9_115 ms_X9_isSheet my_X9_isSheet (by first | decide | exact Nat.le_of_ble_eq_true rfl) (s_X9_isSheet) (by decide) ?_
    refine ng_ifb_eq 14 dX9_move_4 (by decide +kernel) (fun h4 => ?_) (fun h4 => ?_)
    · refine ng_aload_0 dX9_move_14 ?_
      refine ng_ldc dX9_move_15 kc_X9_91 ?_
      refine ng_callV_1x (y2 := mi_X9_finding) dX9_move_17 lk_X9_92 ms_X9_finding my_X9_finding (by first | exact ⟨_, rfl⟩ | assumption | exact ng_fld_obj (f := 0) (by assumption)) mc_X9 (by first | decide | exact Nat.le_of_ble_eq_true rfl) (s_X9_finding (k := 1) (by decide) (by decide) (by decide)) (by decide) ?_
      exact ng_ireturn dX9_move_20 ⟨_, rfl, by decide, rfl⟩
    · rw [hf] at h4; exact absurd h4 (by decide)
theorem pr_move {X : Nat × (Nat → Int32)} {M : ng_M} {s i o j n : Int32} (h : ng_inv M) : ng_pair X mi_X8_move mi_X9_move [.int s, .int i, .int o, .int j, .int n] M := by
  have h5 := h.2.2.2.2.1
  refine ng_pair.E h (c_move h5) (by decide) (d9 := 3) (by decide) (fun M1 e => ?_) (fun x M1 hE hm k hk => ?_) (fun x M1 M2 hE hm hr => ?_) (mR := fun M1 _ M2 => ng_off [88, 89] M1 M2 ∧ ∀ l, M2 88 l = if 40 * o.toNatClampNeg + j.toNatClampNeg ≤ l ∧ l < 40 * o.toNatClampNeg + j.toNatClampNeg + n.toNatClampNeg then M1 88 (40 * s.toNatClampNeg + i.toNatClampNeg + (l - (40 * o.toNatClampNeg + j.toNatClampNeg))) else M1 88 l)
  · have hE : ng_movE M s i o j n = ng_movE M1 s i o j n := by unfold ng_movE; rw [e 86 (by decide), e 87 (by decide)]
    rw [hE]
    exact r_move (fun i hi => by rw [e 87 (by decide)]; exact (h5 i hi).2.2.2.2)
  · obtain ⟨-, e1, -⟩ := ng_movE_v hE
    have q2 := (ng_s4 e1).2.1
    rw [hm, ng_row_ne (by omega)]
  · obtain ⟨e0, e1, e2, e3⟩ := ng_movE_v hE
    have p2 := (ng_s4 e0).2.1
    have q2 := (ng_s4 e1).2.1
    generalize s.toNatClampNeg = S at hm hr p2 e2
    generalize o.toNatClampNeg = O at hm hr q2 e3
    obtain ⟨L, hL, hL40⟩ := (h5 S p2).2.2.2.2
    obtain ⟨K, hK, hK40⟩ := (h5 O q2).2.2.2.2
    obtain ⟨w1, w2, w3⟩ := (ng_hold_I hL hL40).mp e2
    obtain ⟨u1, u2, u3⟩ := (ng_hold_I hK hK40).mp e3
    have c1 := ng_clI w1
    have c2 := ng_clI w2
    have c3 := ng_clI u2
    obtain ⟨a1, a2⟩ := hr
    have eC : ∀ k, 72 ≤ k → M1 k = M k := fun k k1 => by rw [hm, ng_row_ne (by omega)]
    refine ng_inv_I5 h (h5.up q2 hm (fun k k1 k2 => a1 k (by simp; omega)) (by rw [a1 86 (by decide), eC 86 (by decide)]) (by rw [a1 87 (by decide), eC 87 (by decide)]) (fun k hk l hl => ?_)) (fun k k1 k2 => by rw [a1 k (by simp; omega), hm, ng_row_ne (by omega)])
    rw [a2, eC 88 (by decide)]
    by_cases q : k = O
    · subst q
      rw [if_pos rfl, va_cpy]
      by_cases ql : j.toNatClampNeg ≤ l ∧ l < j.toNatClampNeg + n.toNatClampNeg
      · rw [if_pos (by omega), if_pos ql, (h5 S p2).2.2.1 _ (by omega)]
        congr 1
        omega
      · rw [if_neg (by omega), if_neg ql]; exact ((h5 k hk).2.2.1 l hl).symm
    · rw [if_neg q, if_neg (by omega)]
