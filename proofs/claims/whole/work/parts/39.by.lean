/-! ===== pair: by ===== -/
def ng_bys (g : Nat → Int32) : Nat → Nat → ng_R → ng_R
  | 0, _, a => a
  | m + 1, i, a => if ng_in (g i) 0 9 then ng_bys g m (i + 1) (ng_yr a (g i) 0 ng_all) else a
def ng_byE (M : ng_M) (s w : Int32) : Nat ⊕ Int32 := if (ng_in s 0 3 && ng_in w 0 4) = true then (if M 86 s.toNatClampNeg = 0 then .inl 2 else .inr (ng_fig (ng_bys (fun j => M 88 (40 * s.toNatClampNeg + j)) (M 87 s.toNatClampNeg).toNatClampNeg 0 (M 74)) w)) else .inl 1
theorem s_X4_numA {X : Nat × (Nat → Int32)} {M : ng_M} {i L j : Nat} (hi : i < 4) (hL : M (64 + 2 * i) 2 = nI L) (hL40 : L ≤ 40) (hj : j < L) : ng_EvX X 2 mi_X4_number [.ref (64 + 2 * i), .int (nI j)] M (some (.int (M (65 + 2 * i) j))) M := by
  have q : ng_in (nI j) 0 (M (64 + 2 * i) 2 - 1) = true := by
    obtain ⟨K, rfl⟩ : ∃ K, L = K + 1 := ⟨L - 1, by omega⟩
    rw [ng_inT, hL, nI_pred, nI_toInt (by omega), nI_toInt (by omega), ng_0]
    omega
  exact (s_X4_number hi hL hL40).cast (by rw [if_pos q, nI_clamp (by omega)]) rfl
theorem l_X8_by {X : Nat × (Nat → Int32)} {M : ng_M} {s w : Int32} {S L : Nat} {g : Nat → Int32} (hS : S < 4) (hL : M (64 + 2 * S) 2 = nI L) (hL40 : L ≤ 40) (hg : ∀ j, j < 40 → M (65 + 2 * S) j = g j) : ∀ (m i : Nat) (a : ng_R) (M1 : ng_M), i + m = L → ng_ca M M1 41 a →
    ng_Go X mi_X8_by 7 59 [some (.ref 0), some (.int s), some (.int w), some (.ref (64 + 2 * S)), some (.ref 41), some (.int (nI i))] [] M1 (fun r' M' => ∃ v, r' = some (.int v) ∧ v = ng_fig (ng_bys g m i a) w ∧ ng_out M M') := by
  obtain ⟨hf0, hf1, hf2, hf3, hf4⟩ := ng_H hS
  intro m
  induction m with
  | zero =>
    intro i a M1 hi h
    have hi2 : i = L := by omega
    subst hi2
    have e2 : M1 (64 + 2 * S) 2 = nI i := by rw [h.1 (64 + 2 * S) (by simp; omega)]; exact hL
    refine ng_iload_5 dX8_by_59 ?_
    refine ng_aload_3 dX8_by_61 ?_
    refine ng_gI dX8_by_62 fl_X8_135 (by first | rfl | assumption) ?_
    refine ng_icmp_ge 101 dX8_by_65 (by decide +kernel) (fun h65 => ?_) (fun h65 => ?_)
    · refine ng_aload_4 dX8_by_101 ?_
      refine ng_iload_2 dX8_by_103 ?_
      refine ng_callV_1x (y2 := mi_X5_figure) dX8_by_104 lk_X8_217 ms_X5_figure my_X5_figure (by first | exact ⟨_, rfl⟩ | assumption | exact ng_fld_obj (f := 0) (by assumption)) mc_X5 (by first | decide | exact Nat.le_of_ble_eq_true rfl) (s_X5_figure ng_isS41 h.2.1 h.2.2.1 h.2.2.2) (by decide) ?_
      exact ng_ireturn dX8_by_107 ⟨_, rfl, rfl, ng_out.of h.1 (by decide)⟩
    · exact absurd (by rw [e2]; exact Int32.le_refl _) h65
  | succ m ih =>
    intro i a M1 hi h
    have e2 : M1 (64 + 2 * S) 2 = nI L := by rw [h.1 (64 + 2 * S) (by simp; omega)]; exact hL
    have hnum : ng_EvX X 2 mi_X4_number [.ref (64 + 2 * S), .int (nI i)] M1 (some (.int (g i))) M1 := (s_X4_numA hS e2 hL40 (by omega)).cast (by rw [h.1 (65 + 2 * S) (by simp; omega), hg i (by omega)]) rfl
    refine ng_iload_5 dX8_by_59 ?_
    refine ng_aload_3 dX8_by_61 ?_
    refine ng_gI dX8_by_62 fl_X8_135 (by first | rfl | assumption) ?_
    refine ng_icmp_ge 101 dX8_by_65 (by decide +kernel) (fun h65 => ?_) (fun h65 => ?_)
    · rw [e2] at h65; exact absurd h65 (nI_ge (by omega) (by omega))
    · refine ng_aload_3 dX8_by_68 ?_
      refine ng_iload_5 dX8_by_69 ?_
      refine ng_callV_1x (y2 := mi_X4_number) dX8_by_71 lk_X8_139 ms_X4_number my_X4_number (by first | exact ⟨_, rfl⟩ | assumption | exact ng_fld_obj (f := 0) (by assumption)) mc_X4 (by first | decide | exact Nat.le_of_ble_eq_true rfl) (hnum) (by decide) ?_
      refine ng_callS_1x (y2 := mi_X8_isStep) dX8_by_74 lk_X8_57 ms_X8_isStep my_X8_isStep (by first | decide | exact Nat.le_of_ble_eq_true rfl) (s_X8_isStep) (by decide) ?_
      refine ng_ifb_eq 101 dX8_by_77 (by decide +kernel) (fun h77 => ?_) (fun h77 => ?_)
      · refine ng_aload_4 dX8_by_101 ?_
        refine ng_iload_2 dX8_by_103 ?_
        refine ng_callV_1x (y2 := mi_X5_figure) dX8_by_104 lk_X8_217 ms_X5_figure my_X5_figure (by first | exact ⟨_, rfl⟩ | assumption | exact ng_fld_obj (f := 0) (by assumption)) mc_X5 (by first | decide | exact Nat.le_of_ble_eq_true rfl) (s_X5_figure ng_isS41 h.2.1 h.2.2.1 h.2.2.2) (by decide) ?_
        exact ng_ireturn dX8_by_107 ⟨_, rfl, by rw [ng_bys, if_neg (by rw [h77]; decide)], ng_out.of h.1 (by decide)⟩
      · refine ng_aload_4 dX8_by_80 ?_
        refine ng_aload_3 dX8_by_82 ?_
        refine ng_iload_5 dX8_by_83 ?_
        refine ng_callV_1x (y2 := mi_X4_number) dX8_by_85 lk_X8_139 ms_X4_number my_X4_number (by first | exact ⟨_, rfl⟩ | assumption | exact ng_fld_obj (f := 0) (by assumption)) mc_X4 (by first | decide | exact Nat.le_of_ble_eq_true rfl) (hnum) (by decide) ?_
        refine ng_iconst_0 dX8_by_88 ?_
        refine ng_sipush (v := 255) dX8_by_89 (by decide) ?_
        refine ng_callV_3w (y2 := mi_X5_goes) dX8_by_92 lk_X8_192 ms_X5_goes my_X5_goes (by first | exact ⟨_, rfl⟩ | assumption | exact ng_fld_obj (f := 0) (by assumption)) mc_X5 (by first | decide | exact Nat.le_of_ble_eq_true rfl) (s_X5_goesA ng_isS41 h (ng_vin h77 (n := 10) (by decide)).1 (by decide) (by decide)) (by decide) (fun M2 hg2 => ?_)
        refine ng_iinc_5 (w := 1) dX8_by_95 (by decide) rfl ?_
        refine ng_goto 59 dX8_by_98 (by decide +kernel) ?_
        rw [nI_1, ng_bys, if_pos h77]
        exact ih (i + 1) _ M2 (by omega) hg2.1
theorem c_by {X : Nat × (Nat → Int32)} {M : ng_M} {s w : Int32} (h : ng_I1 M) (h5 : ng_I5 M) : ng_EvI X 7 mi_X8_by [.ref 0, .int s, .int w] M (ng_a8 M (ng_byE M s w)) := by
  refine ng_EvI.of (lv := [some (.ref 0), some (.int s), some (.int w), none, none, none]) (ty := .int) (by decide) (Nat.le_of_ble_eq_true rfl) rfl rfl (fun _ _ _ => rfl) ?_
  unfold ng_byE
  by_cases hin : ng_in s 0 3 = true
  · obtain ⟨q1, q2, q3⟩ := ng_s4 hin
    obtain ⟨hf0, hf1, hf2, hf3, hf4⟩ := ng_H q2
    obtain ⟨i1, i2, i3, i4, L, hL, hL40⟩ := h5 _ q2
    have hI := h.1.rl
    have hLc : (M 87 s.toNatClampNeg).toNatClampNeg = L := by rw [hL, nI_clamp (by omega)]
    rw [hin]
    refine ng_aload_0 dX8_by_0 ?_
    refine ng_iload_1 dX8_by_1 ?_
    refine ng_callV_1x (y2 := mi_X8_sheetAt) dX8_by_2 lk_X8_122 ms_X8_sheetAt my_X8_sheetAt (by first | exact ⟨_, rfl⟩ | assumption | exact ng_fld_obj (f := 0) (by assumption)) mc_X8 (by first | decide | exact Nat.le_of_ble_eq_true rfl) (s_X8_sheetAt hin) (by decide) ?_
    refine ng_astore_3 dX8_by_5 (by first | rfl | assumption) ?_
    refine ng_aload_3 dX8_by_6 ?_
    refine ng_ifnull dX8_by_7 ?_
    refine ng_iload_2 dX8_by_10 ?_
    refine ng_iconst_0 dX8_by_11 ?_
    refine ng_iconst_4 dX8_by_12 ?_
    refine ng_callS_3x (y2 := mi_X8_isWithin) dX8_by_13 lk_X8_61 ms_X8_isWithin my_X8_isWithin (by first | decide | exact Nat.le_of_ble_eq_true rfl) (s_X8_isWithin) (by decide) ?_
    refine ng_ifb_ne 26 dX8_by_16 (by decide +kernel) (fun h16 => ?_) (fun h16 => ?_)
    · refine ng_aload_3 dX8_by_26 ?_
      refine ng_callV_0x (y2 := mi_X4_isMissing) dX8_by_27 lk_X8_126 ms_X4_isMissing my_X4_isMissing (by first | exact ⟨_, rfl⟩ | assumption | exact ng_fld_obj (f := 0) (by assumption)) mc_X4 (by first | decide | exact Nat.le_of_ble_eq_true rfl) (s_X4_isMissing q2) (by decide) ?_
      rw [i1]
      refine ng_ifb_eq 40 dX8_by_30 (by decide +kernel) (fun h30 => ?_) (fun h30 => ?_)
      · refine ng_aload_0 dX8_by_40 ?_
        refine ng_gR dX8_by_41 fl_X8_28 (by first | rfl | assumption) ?_
        refine ng_aload_0 dX8_by_44 ?_
        refine ng_gR dX8_by_45 fl_X8_12 (by first | rfl | assumption) ?_
        refine ng_gR dX8_by_48 fl_X8_81 (by first | rfl | assumption) ?_
        refine ng_callV_1r (y2 := mi_X1_from) dX8_by_51 lk_X8_210 ms_X1_from my_X1_from (by first | exact ⟨_, rfl⟩ | assumption | exact ng_fld_obj (f := 0) (by assumption)) mc_X1 (by first | decide | exact Nat.le_of_ble_eq_true rfl) (s_X1_from hI.1 hI.2.1 h.2.Y) (by decide) (fun M2 hf => ?_)
        refine ng_astore_4 dX8_by_54 (by first | rfl | assumption) ?_
        refine ng_iconst_0 dX8_by_56 ?_
        refine ng_istore_5 dX8_by_57 (by first | rfl | assumption) ?_
        rw [if_pos (show (true && ng_in w 0 4) = true by rw [h16]; rfl), if_neg (of_decide_eq_false h30), hLc]
        refine (l_X8_by q2 (i2.trans hL) hL40 i3 L 0 (M 74) M2 (by omega) hf).imp (fun r M' z => ?_)
        obtain ⟨v, z1, z2, z3⟩ := z
        exact ⟨v, z1, M', z3, z2, rfl⟩
      · refine ng_aload_0 dX8_by_33 ?_
        refine ng_ldc dX8_by_34 kc_X8_130 ?_
        refine ng_callV_1x (y2 := mi_X8_fails) dX8_by_36 lk_X8_66 ms_X8_fails my_X8_fails (by first | exact ⟨_, rfl⟩ | assumption | exact ng_fld_obj (f := 0) (by assumption)) mc_X8 (by first | decide | exact Nat.le_of_ble_eq_true rfl) (s_X8_fails (k := 2) (by decide) (by decide) (by decide)) (by decide) ?_
        exact ng_ireturn dX8_by_39 ⟨_, rfl, by rw [if_pos (by rw [h16]; rfl), if_pos (of_decide_eq_true h30)]; exact ⟨M, fun _ _ => rfl, by decide, rfl⟩⟩
    · refine ng_aload_0 dX8_by_19 ?_
      refine ng_ldc dX8_by_20 kc_X8_65 ?_
      refine ng_callV_1x (y2 := mi_X8_fails) dX8_by_22 lk_X8_66 ms_X8_fails my_X8_fails (by first | exact ⟨_, rfl⟩ | assumption | exact ng_fld_obj (f := 0) (by assumption)) mc_X8 (by first | decide | exact Nat.le_of_ble_eq_true rfl) (s_X8_fails (k := 1) (by decide) (by decide) (by decide)) (by decide) ?_
      exact ng_ireturn dX8_by_25 ⟨_, rfl, by rw [if_neg (by rw [h16]; decide)]; exact ⟨M, fun _ _ => rfl, by decide, rfl⟩⟩
  · rw [(Bool.not_eq_true _).mp hin, Bool.false_and, if_neg (by decide)]
    refine ng_aload_0 dX8_by_0 ?_
    refine ng_iload_1 dX8_by_1 ?_
    refine ng_callV_1x (y2 := mi_X8_sheetAt) dX8_by_2 lk_X8_122 ms_X8_sheetAt my_X8_sheetAt (by first | exact ⟨_, rfl⟩ | assumption | exact ng_fld_obj (f := 0) (by assumption)) mc_X8 (by first | decide | exact Nat.le_of_ble_eq_true rfl) (s_X8_sheetAtN ((Bool.not_eq_true _).mp hin)) (by decide) ?_
    refine ng_astoreN_3 dX8_by_5 (by first | rfl | assumption) ?_
    refine ng_aloadN_3 dX8_by_6 ?_
    refine ng_ifnullN 19 dX8_by_7 (by decide +kernel) ?_
    refine ng_aload_0 dX8_by_19 ?_
    refine ng_ldc dX8_by_20 kc_X8_65 ?_
    refine ng_callV_1x (y2 := mi_X8_fails) dX8_by_22 lk_X8_66 ms_X8_fails my_X8_fails (by first | exact ⟨_, rfl⟩ | assumption | exact ng_fld_obj (f := 0) (by assumption)) mc_X8 (by first | decide | exact Nat.le_of_ble_eq_true rfl) (s_X8_fails (k := 1) (by decide) (by decide) (by decide)) (by decide) ?_
    exact ng_ireturn dX8_by_25 ⟨_, rfl, M, fun _ _ => rfl, by decide, rfl⟩
theorem l_X9_by {X : Nat × (Nat → Int32)} {M : ng_M} {s w : Int32} {S L : Nat} {g : Nat → Int32} (hs : s = nI S) (hS : S < 4) (hL : M 87 S = nI L) (hL40 : L ≤ 40) (hg : ∀ j, M 88 (40 * S + j) = g j) : ∀ (m i : Nat) (a : ng_R) (M1 : ng_M), i + m = L → ng_ra (ng_asd M) M1 a →
    ng_Go X mi_X9_by 9 52 [some (.ref 73), some (.int s), some (.int w), some (.int (nI i))] [] M1 (fun r' M' => ∃ v, r' = some (.int v) ∧ v = ng_fig (ng_bys g m i a) w ∧ ng_rout M M') := by
  have hv : vp_in s 4 := by rw [hs]; exact vp_in_nI hS (by omega)
  have hc : s.toNatClampNeg = S := by rw [hs, nI_clamp (by omega)]
  intro m
  induction m with
  | zero =>
    intro i a M1 hi h
    have hi2 : i = L := by omega
    subst hi2
    have e2 : M1 87 S = nI i := (congrFun (h.1 87 (by decide)) S).trans hL
    refine ng_iload_3 dX9_by_52 ?_
    refine ng_aload_0 dX9_by_53 ?_
    refine ng_gR dX9_by_54 fl_X9_57 (by first | rfl | assumption) ?_
    refine ng_iload_1 dX9_by_57 ?_
    refine ng_ialdL (j := S) dX9_by_58 (by first | rfl | assumption) (by exact hv) (by exact hc) ?_
    refine ng_icmp_ge 101 dX9_by_59 (by decide +kernel) (fun h59 => ?_) (fun h59 => ?_)
    · refine ng_aload_0 dX9_by_101 ?_
      refine ng_aload_0 dX9_by_102 ?_
      refine ng_iload_2 dX9_by_103 ?_
      refine ng_callV_1x (y2 := mi_X9_toldOf) dX9_by_104 lk_X9_237 ms_X9_toldOf my_X9_toldOf (by first | exact ⟨_, rfl⟩ | assumption | exact ng_fld_obj (f := 0) (by assumption)) mc_X9 (by first | decide | exact Nat.le_of_ble_eq_true rfl) (s_X9_toldOf (by rw [h.2.1]; exact h.2.2.2)) (by decide) ?_
      refine ng_callV_1x (y2 := mi_X9_putBack) dX9_by_107 lk_X9_240 ms_X9_putBack my_X9_putBack (by first | exact ⟨_, rfl⟩ | assumption | exact ng_fld_obj (f := 0) (by assumption)) mc_X9 (by first | decide | exact Nat.le_of_ble_eq_true rfl) (s_X9_putBack) (by decide) ?_
      exact ng_ireturn dX9_by_110 ⟨_, rfl, by rw [h.2.1]; rfl, h.rout⟩
    · exact absurd (by rw [e2]; exact Int32.le_refl _) h59
  | succ m ih =>
    intro i a M1 hi h
    have e2 : M1 87 S = nI L := (congrFun (h.1 87 (by decide)) S).trans hL
    have e3 : M1 88 (40 * S + i) = g i := (congrFun (h.1 88 (by decide)) _).trans (hg i)
    have hx : 40 * s + nI i = nI (40 * S + i) := ng_i40 hs rfl
    refine ng_iload_3 dX9_by_52 ?_
    refine ng_aload_0 dX9_by_53 ?_
    refine ng_gR dX9_by_54 fl_X9_57 (by first | rfl | assumption) ?_
    refine ng_iload_1 dX9_by_57 ?_
    refine ng_ialdL (j := S) dX9_by_58 (by first | rfl | assumption) (by exact hv) (by exact hc) ?_
    refine ng_icmp_ge 101 dX9_by_59 (by decide +kernel) (fun h59 => ?_) (fun h59 => ?_)
    · rw [e2] at h59; exact absurd h59 (nI_ge (by omega) (by omega))
    · refine ng_aload_0 dX9_by_62 ?_
      refine ng_gR dX9_by_63 fl_X9_60 (by first | rfl | assumption) ?_
      refine ng_bipush (v := 40) dX9_by_66 (by decide) ?_
      refine ng_iload_1 dX9_by_68 ?_
      refine ng_imul dX9_by_69 ?_
      refine ng_iload_3 dX9_by_70 ?_
      refine ng_iadd dX9_by_71 ?_
      refine ng_ialdL (j := (40 * S + i)) dX9_by_72 (by first | rfl | assumption) (by rw [hx]; exact vp_in_nI (by omega) (by omega)) (by rw [hx, nI_clamp (by omega)]) ?_
      rw [e3]
      refine ng_callS_1x (y2 := mi_X9_isStep) dX9_by_73 lk_X9_84 ms_X9_isStep my_X9_isStep (by first | decide | exact Nat.le_of_ble_eq_true rfl) (s_X9_isStep) (by decide) ?_
      refine ng_ifb_eq 101 dX9_by_76 (by decide +kernel) (fun h76 => ?_) (fun h76 => ?_)
      · refine ng_aload_0 dX9_by_101 ?_
        refine ng_aload_0 dX9_by_102 ?_
        refine ng_iload_2 dX9_by_103 ?_
        refine ng_callV_1x (y2 := mi_X9_toldOf) dX9_by_104 lk_X9_237 ms_X9_toldOf my_X9_toldOf (by first | exact ⟨_, rfl⟩ | assumption | exact ng_fld_obj (f := 0) (by assumption)) mc_X9 (by first | decide | exact Nat.le_of_ble_eq_true rfl) (s_X9_toldOf (by rw [h.2.1]; exact h.2.2.2)) (by decide) ?_
        refine ng_callV_1x (y2 := mi_X9_putBack) dX9_by_107 lk_X9_240 ms_X9_putBack my_X9_putBack (by first | exact ⟨_, rfl⟩ | assumption | exact ng_fld_obj (f := 0) (by assumption)) mc_X9 (by first | decide | exact Nat.le_of_ble_eq_true rfl) (s_X9_putBack) (by decide) ?_
        exact ng_ireturn dX9_by_110 ⟨_, rfl, by rw [h.2.1, ng_bys, if_neg (by rw [h76]; decide)], h.rout⟩
      · refine ng_aload_0 dX9_by_79 ?_
        refine ng_iconst_1 dX9_by_80 ?_
        refine ng_aload_0 dX9_by_81 ?_
        refine ng_gR dX9_by_82 fl_X9_60 (by first | rfl | assumption) ?_
        refine ng_bipush (v := 40) dX9_by_85 (by decide) ?_
        refine ng_iload_1 dX9_by_87 ?_
        refine ng_imul dX9_by_88 ?_
        refine ng_iload_3 dX9_by_89 ?_
        refine ng_iadd dX9_by_90 ?_
        refine ng_ialdL (j := (40 * S + i)) dX9_by_91 (by first | rfl | assumption) (by rw [hx]; exact vp_in_nI (by omega) (by omega)) (by rw [hx, nI_clamp (by omega)]) ?_
        rw [e3]
        refine ng_callV_2w (y2 := mi_X9_yearsGo) dX9_by_92 lk_X9_233 ms_X9_yearsGo my_X9_yearsGo (by first | exact ⟨_, rfl⟩ | assumption | exact ng_fld_obj (f := 0) (by assumption)) mc_X9 (by first | decide | exact Nat.le_of_ble_eq_true rfl) (s_X9_yearsGo (N := 1) h (ng_vin h76 (n := 10) (by decide)).1 rfl (by decide)) (by decide) (fun M2 hg2 => ?_)
        refine ng_iinc_3 (w := 1) dX9_by_95 (by decide) rfl ?_
        refine ng_goto 52 dX9_by_98 (by decide +kernel) ?_
        rw [nI_1, ng_bys, if_pos h76]
        exact ih (i + 1) _ M2 (by omega) hg2
theorem r_by {X : Nat × (Nat → Int32)} {M : ng_M} {s w : Int32} (h : ng_ok (M 74)) (hL : ∀ i, i < 4 → ∃ L, M 87 i = nI L ∧ L ≤ 40) : ng_EvI X 9 mi_X9_by [.ref 73, .int s, .int w] M (ng_a9 M (ng_byE M s w)) := by
  refine ng_EvI.of (lv := [some (.ref 73), some (.int s), some (.int w), none]) (ty := .int) (by decide) (Nat.le_of_ble_eq_true rfl) rfl rfl (fun _ _ _ => rfl) ?_
  unfold ng_byE
  by_cases hin : ng_in s 0 3 = true
  · obtain ⟨q1, q2, q3⟩ := ng_s4 hin
    obtain ⟨L, hL, hL40⟩ := hL _ q2
    have hLc : (M 87 s.toNatClampNeg).toNatClampNeg = L := by rw [hL, nI_clamp (by omega)]
    rw [hin]
    refine ng_iload_1 dX9_by_0 ?_
    refine ng_callS_1x (y2 := mi_X9_isSheet) dX9_by_1 lk_X9_115 ms_X9_isSheet my_X9_isSheet (by first | decide | exact Nat.le_of_ble_eq_true rfl) (s_X9_isSheet) (by decide) ?_
    refine ng_ifb_eq 16 dX9_by_4 (by decide +kernel) (fun h4 => ?_) (fun h4 => ?_)
    · rw [hin] at h4; exact absurd h4 (by decide)
    · refine ng_iload_2 dX9_by_7 ?_
      refine ng_iconst_0 dX9_by_8 ?_
      refine ng_iconst_4 dX9_by_9 ?_
      refine ng_callS_3x (y2 := mi_X9_within) dX9_by_10 lk_X9_80 ms_X9_within my_X9_within (by first | decide | exact Nat.le_of_ble_eq_true rfl) (s_X9_within) (by decide) ?_
      refine ng_ifb_ne 23 dX9_by_13 (by decide +kernel) (fun h13 => ?_) (fun h13 => ?_)
      · refine ng_aload_0 dX9_by_23 ?_
        refine ng_gR dX9_by_24 fl_X9_54 (by first | rfl | assumption) ?_
        refine ng_iload_1 dX9_by_27 ?_
        refine ng_iald dX9_by_28 (by first | rfl | assumption) (by exact q3) ?_
        refine ng_if_ne 39 dX9_by_29 (by decide +kernel) (fun h29 => ?_) (fun h29 => ?_)
        · refine ng_aload_0 dX9_by_39 ?_
          refine ng_gR dX9_by_40 fl_X9_9 (by first | rfl | assumption) ?_
          refine ng_aload_0 dX9_by_43 ?_
          refine ng_gR dX9_by_44 fl_X9_16 (by first | rfl | assumption) ?_
          refine ng_callS_2v (y2 := mi_X9_copy) dX9_by_47 lk_X9_76 ms_X9_copy my_X9_copy (by first | decide | exact Nat.le_of_ble_eq_true rfl) (s_X9_copy rfl rfl (by decide)) (by decide) ?_
          refine ng_iconst_0 dX9_by_50 ?_
          refine ng_istore_3 dX9_by_51 (by first | rfl | assumption) ?_
          rw [if_pos (show (true && ng_in w 0 4) = true by rw [h13]; rfl), if_neg h29, hLc]
          refine (l_X9_by (M := M) q1 q2 hL hL40 (fun _ => rfl) L 0 (M 74) _ (by omega) (ng_ra.start h.Y)).imp (fun r M' z => ?_)
          obtain ⟨v, z1, z2, z3⟩ := z
          exact ⟨v, z1, M', z3, z2, rfl⟩
        · refine ng_aload_0 dX9_by_32 ?_
          refine ng_ldc dX9_by_33 kc_X9_118 ?_
          refine ng_callV_1x (y2 := mi_X9_finding) dX9_by_35 lk_X9_92 ms_X9_finding my_X9_finding (by first | exact ⟨_, rfl⟩ | assumption | exact ng_fld_obj (f := 0) (by assumption)) mc_X9 (by first | decide | exact Nat.le_of_ble_eq_true rfl) (s_X9_finding (k := 2) (by decide) (by decide) (by decide)) (by decide) ?_
          exact ng_ireturn dX9_by_38 ⟨_, rfl, by rw [if_pos (by rw [h13]; rfl), if_pos h29]; exact ⟨M, ng_rout.rf, by decide, rfl⟩⟩
      · refine ng_aload_0 dX9_by_16 ?_
        refine ng_ldc dX9_by_17 kc_X9_91 ?_
        refine ng_callV_1x (y2 := mi_X9_finding) dX9_by_19 lk_X9_92 ms_X9_finding my_X9_finding (by first | exact ⟨_, rfl⟩ | assumption | exact ng_fld_obj (f := 0) (by assumption)) mc_X9 (by first | decide | exact Nat.le_of_ble_eq_true rfl) (s_X9_finding (k := 1) (by decide) (by decide) (by decide)) (by decide) ?_
        exact ng_ireturn dX9_by_22 ⟨_, rfl, by rw [if_neg (by rw [h13]; decide)]; exact ⟨M, ng_rout.rf, by decide, rfl⟩⟩
  · have hf := (Bool.not_eq_true _).mp hin
    rw [hf, Bool.false_and, if_neg (by decide)]
    refine ng_iload_1 dX9_by_0 ?_
    refine ng_callS_1x (y2 := mi_X9_isSheet) dX9_by_1 lk_X9_115 ms_X9_isSheet my_X9_isSheet (by first | decide | exact Nat.le_of_ble_eq_true rfl) (s_X9_isSheet) (by decide) ?_
    refine ng_ifb_eq 16 dX9_by_4 (by decide +kernel) (fun h4 => ?_) (fun h4 => ?_)
    · refine ng_aload_0 dX9_by_16 ?_
      refine ng_ldc dX9_by_17 kc_X9_91 ?_
      refine ng_callV_1x (y2 := mi_X9_finding) dX9_by_19 lk_X9_92 ms_X9_finding my_X9_finding (by first | exact ⟨_, rfl⟩ | assumption | exact ng_fld_obj (f := 0) (by assumption)) mc_X9 (by first | decide | exact Nat.le_of_ble_eq_true rfl) (s_X9_finding (k := 1) (by decide) (by decide) (by decide)) (by decide) ?_
      exact ng_ireturn dX9_by_22 ⟨_, rfl, M, ng_rout.rf, by decide, rfl⟩
    · rw [hf] at h4; exact absurd h4 (by decide)
theorem pr_by {X : Nat × (Nat → Int32)} {M : ng_M} {s w : Int32} (h : ng_inv M) : ng_pair X mi_X8_by mi_X9_by [.int s, .int w] M :=
  ng_pair.A h (c_by h.1 h.2.2.2.2.1) (by decide) (d9 := 9) (by decide) (fun M1 e => by
    have hE : ng_byE M s w = ng_byE M1 s w := by unfold ng_byE; rw [e 86 (by decide), e 87 (by decide), e 88 (by decide), e 74 (by decide)]
    rw [hE]
    exact r_by (by rw [e 74 (by decide)]; exact h.1.2) (fun i hi => by rw [e 87 (by decide)]; exact (h.2.2.2.2.1 i hi).2.2.2.2))

