def ng_CR (X : Nat × (Nat → Int32)) (M : ng_M) (L d : Nat) (r o : Int32) (f : Nat → ng_Rs) : Prop := ∀ (p : Nat) (cs : List Int32), p ≤ L → cs.length ≤ p → ng_EvX X d mi_X2_readsRule [.ref 60, .int r, .int o] (ng_RD M p cs) (some (.int (ng_bi (f p).1))) (ng_RD M (f p).2.1 (cs ++ (f p).2.2))
def ng_CQ (X : Nat × (Nat → Int32)) (M : ng_M) (L d : Nat) (o : Int32) (f : Nat → ng_Rs) : Prop := ∀ (p : Nat) (cs : List Int32), p ≤ L → cs.length ≤ p → ng_EvX X d mi_X2_readsQ [.ref 60, .int o] (ng_RD M p cs) (some (.int (ng_bi (f p).1))) (ng_RD M (f p).2.1 (cs ++ (f p).2.2))
theorem l_X2_rule {X : Nat × (Nat → Int32)} {M : ng_M} {H : Nat → Int32} {L d R : Nat} {u o : Int32} {f : Nat → ng_Rs} {cs0 : List Int32} (hc : ng_RC M H L u) (hg : ng_gd L f) (hd : 1 ≤ d) (hR : R < 5) (hs : ng_CR X M L d (nI (R + 1)) o f) : ∀ (n j q : Nat) (cs : List Int32) (x4 : Option Value), (¬ R = 2 ∧ j + n = 50 ∨ R = 2 ∧ j + n = 1) → q ≤ L → (cs0 ++ cs).length ≤ q →
    ng_Go X mi_X2_readsRule (d + 1) 26 [some (.ref 60), some (.int (nI R)), some (.int o), some (.int (nI j)), x4] [] (ng_RD M q (cs0 ++ cs)) (fun r' M' => r' = some (.int (ng_bi (ng_jl H (nI R) f n q cs).1)) ∧ M' = ng_RD M (ng_jl H (nI R) f n q cs).2.1 (cs0 ++ (ng_jl H (nI R) f n q cs).2.2)) := by
  have hL := hc.1.1
  intro n
  induction n with
  | zero =>
    intro j q cs x4 hj hq hl
    refine ng_iload_3 dX2_readsRule_26 ?_
    refine ng_bipush (v := 50) dX2_readsRule_27 (by decide) ?_
    refine ng_icmp_ge 98 dX2_readsRule_29 (by decide +kernel) (fun h29 => ?_) (fun h29 => ?_)
    · refine ng_iconst_1 dX2_readsRule_98 ?_
      exact ng_ireturn dX2_readsRule_99 ⟨rfl, rfl⟩
    · have hq2 : R = 2 ∧ j = 1 := by
        rcases hj with z | z
        · exact absurd (show nI 50 ≤ nI j by rw [show j = 50 by omega]; exact Int32.le_refl _) h29
        · exact ⟨z.1, by omega⟩
      refine ng_aload_0 dX2_readsRule_32 ?_
      refine ng_callV_0x (y2 := mi_X2_ahead) dX2_readsRule_33 lk_X2_55 ms_X2_ahead my_X2_ahead (by first | exact ⟨_, rfl⟩ | assumption | exact ng_fld_obj (f := 0) (by assumption)) mc_X2 (by first | decide | exact Nat.le_of_ble_eq_true rfl) (s_X2_ahead hc hq) hd ?_
      refine ng_istore_4 dX2_readsRule_36 (by first | rfl | assumption) ?_
      refine ng_iload_4 dX2_readsRule_38 ?_
      refine ng_callS_1x (y2 := mi_X2_ruleOf) dX2_readsRule_40 lk_X2_59 ms_X2_ruleOf my_X2_ruleOf (by first | decide | exact Nat.le_of_ble_eq_true rfl) (s_X2_ruleOf) hd ?_
      refine ng_iload_1 dX2_readsRule_43 ?_
      refine ng_icmp_ne 57 dX2_readsRule_44 (by decide +kernel) (fun h44 => ?_) (fun h44 => ?_)
      · refine ng_iconst_1 dX2_readsRule_57 ?_
        exact ng_ireturn dX2_readsRule_58 ⟨rfl, rfl⟩
      · refine ng_iload_1 dX2_readsRule_47 ?_
        refine ng_iconst_2 dX2_readsRule_48 ?_
        refine ng_icmp_ne 59 dX2_readsRule_49 (by decide +kernel) (fun h49 => ?_) (fun h49 => ?_)
        · exact absurd (by rw [hq2.1]; rfl) h49
        · refine ng_iload_3 dX2_readsRule_52 ?_
          refine ng_iconst_1 dX2_readsRule_53 ?_
          refine ng_icmp_ne 59 dX2_readsRule_54 (by decide +kernel) (fun h54 => ?_) (fun h54 => ?_)
          · exact absurd (by rw [hq2.2]; rfl) h54
          · refine ng_iconst_1 dX2_readsRule_57 ?_
            exact ng_ireturn dX2_readsRule_58 ⟨rfl, rfl⟩
  | succ n ih =>
    intro j q cs x4 hj hq hl
    have hR0 : (0 : Int32) ≤ nI R := nI_pos' (by omega)
    have hj50 : j < 50 := by omega
    refine ng_iload_3 dX2_readsRule_26 ?_
    refine ng_bipush (v := 50) dX2_readsRule_27 (by decide) ?_
    refine ng_icmp_ge 98 dX2_readsRule_29 (by decide +kernel) (fun h29 => ?_) (fun h29 => ?_)
    · exact absurd (show nI 50 ≤ nI j from h29) (nI_ge (by omega) (by omega))
    · refine ng_aload_0 dX2_readsRule_32 ?_
      refine ng_callV_0x (y2 := mi_X2_ahead) dX2_readsRule_33 lk_X2_55 ms_X2_ahead my_X2_ahead (by first | exact ⟨_, rfl⟩ | assumption | exact ng_fld_obj (f := 0) (by assumption)) mc_X2 (by first | decide | exact Nat.le_of_ble_eq_true rfl) (s_X2_ahead hc hq) hd ?_
      refine ng_istore_4 dX2_readsRule_36 (by first | rfl | assumption) ?_
      refine ng_iload_4 dX2_readsRule_38 ?_
      refine ng_callS_1x (y2 := mi_X2_ruleOf) dX2_readsRule_40 lk_X2_59 ms_X2_ruleOf my_X2_ruleOf (by first | decide | exact Nat.le_of_ble_eq_true rfl) (s_X2_ruleOf) hd ?_
      refine ng_iload_1 dX2_readsRule_43 ?_
      refine ng_icmp_ne 57 dX2_readsRule_44 (by decide +kernel) (fun h44 => ?_) (fun h44 => ?_)
      · refine ng_iconst_1 dX2_readsRule_57 ?_
        exact ng_ireturn dX2_readsRule_58 ⟨by rw [ng_jl_no h44]; rfl, by rw [ng_jl_no h44]⟩
      · refine ng_iload_1 dX2_readsRule_47 ?_
        refine ng_iconst_2 dX2_readsRule_48 ?_
        refine ng_icmp_ne 59 dX2_readsRule_49 (by decide +kernel) (fun h49 => ?_) (fun h49 => ?_)
        · obtain ⟨o1, o2, o3, o4, o5⟩ := ng_ro_oc (c := H q) (by rw [h44]; exact hR0)
          have hlt := hc.1.lt o5
          obtain ⟨g1, g2, g3, g4⟩ := hg (q + 1) (by omega)
          refine ng_aload_0 dX2_readsRule_59 ?_
          refine ng_dup dX2_readsRule_60 rfl ?_
          refine ng_gI dX2_readsRule_61 fl_X2_41 (by first | rfl | assumption) ?_
          refine ng_iconst_1 dX2_readsRule_64 ?_
          refine ng_iadd dX2_readsRule_65 ?_
          refine ng_pI dX2_readsRule_66 fp_X2_41 (by first | rfl | assumption) rfl rfl ?_
          rw [ng_RD_pp]
          refine ng_aload_0 dX2_readsRule_69 ?_
          refine ng_iload_1 dX2_readsRule_70 ?_
          refine ng_iconst_1 dX2_readsRule_71 ?_
          refine ng_iadd dX2_readsRule_72 ?_
          rw [nI_1]
          refine ng_iload_2 dX2_readsRule_73 ?_
          refine ng_callV_2x (y2 := mi_X2_readsRule) dX2_readsRule_74 lk_X2_47 ms_X2_readsRule my_X2_readsRule (by first | exact ⟨_, rfl⟩ | assumption | exact ng_fld_obj (f := 0) (by assumption)) mc_X2 (by first | decide | exact Nat.le_of_ble_eq_true rfl) (hs (q + 1) (cs0 ++ cs) (by omega) (by omega)) (by omega) ?_
          refine ng_ifb_ne 82 dX2_readsRule_77 (by decide +kernel) (fun h77 => ?_) (fun h77 => ?_)
          · refine ng_aload_0 dX2_readsRule_82 ?_
            refine ng_sipush (v := 10000) dX2_readsRule_83 (by decide) ?_
            refine ng_iload_4 dX2_readsRule_86 ?_
            refine ng_iadd dX2_readsRule_88 ?_
            refine ng_callV_1v (y2 := mi_X2_makes) dX2_readsRule_89 lk_X2_65 ms_X2_makes my_X2_makes (by first | exact ⟨_, rfl⟩ | assumption | exact ng_fld_obj (f := 0) (by assumption)) mc_X2 (by first | decide | exact Nat.le_of_ble_eq_true rfl) (s_X2_makes (c := ng_oc (H q)) o2.symm (by simp at hl ⊢; omega)) hd ?_
            refine ng_iinc_3 (w := 1) dX2_readsRule_92 (by decide) rfl ?_
            refine ng_goto 26 dX2_readsRule_95 (by decide +kernel) ?_
            rw [nI_1, ng_jl_ok h44 h77, List.append_assoc, List.append_assoc, ← List.append_assoc cs]
            exact ih (j + 1) _ _ _ (by omega) g2 (by simp at hl ⊢; omega)
          · refine ng_iconst_0 dX2_readsRule_80 ?_
            exact ng_ireturn dX2_readsRule_81 ⟨by rw [ng_jl_bad h44 h77]; rfl, by rw [ng_jl_bad h44 h77, List.append_assoc]⟩
        · refine ng_iload_3 dX2_readsRule_52 ?_
          refine ng_iconst_1 dX2_readsRule_53 ?_
          refine ng_icmp_ne 59 dX2_readsRule_54 (by decide +kernel) (fun h54 => ?_) (fun h54 => ?_)
          · obtain ⟨o1, o2, o3, o4, o5⟩ := ng_ro_oc (c := H q) (by rw [h44]; exact hR0)
            have hlt := hc.1.lt o5
            obtain ⟨g1, g2, g3, g4⟩ := hg (q + 1) (by omega)
            refine ng_aload_0 dX2_readsRule_59 ?_
            refine ng_dup dX2_readsRule_60 rfl ?_
            refine ng_gI dX2_readsRule_61 fl_X2_41 (by first | rfl | assumption) ?_
            refine ng_iconst_1 dX2_readsRule_64 ?_
            refine ng_iadd dX2_readsRule_65 ?_
            refine ng_pI dX2_readsRule_66 fp_X2_41 (by first | rfl | assumption) rfl rfl ?_
            rw [ng_RD_pp]
            refine ng_aload_0 dX2_readsRule_69 ?_
            refine ng_iload_1 dX2_readsRule_70 ?_
            refine ng_iconst_1 dX2_readsRule_71 ?_
            refine ng_iadd dX2_readsRule_72 ?_
            rw [nI_1]
            refine ng_iload_2 dX2_readsRule_73 ?_
            refine ng_callV_2x (y2 := mi_X2_readsRule) dX2_readsRule_74 lk_X2_47 ms_X2_readsRule my_X2_readsRule (by first | exact ⟨_, rfl⟩ | assumption | exact ng_fld_obj (f := 0) (by assumption)) mc_X2 (by first | decide | exact Nat.le_of_ble_eq_true rfl) (hs (q + 1) (cs0 ++ cs) (by omega) (by omega)) (by omega) ?_
            refine ng_ifb_ne 82 dX2_readsRule_77 (by decide +kernel) (fun h77 => ?_) (fun h77 => ?_)
            · refine ng_aload_0 dX2_readsRule_82 ?_
              refine ng_sipush (v := 10000) dX2_readsRule_83 (by decide) ?_
              refine ng_iload_4 dX2_readsRule_86 ?_
              refine ng_iadd dX2_readsRule_88 ?_
              refine ng_callV_1v (y2 := mi_X2_makes) dX2_readsRule_89 lk_X2_65 ms_X2_makes my_X2_makes (by first | exact ⟨_, rfl⟩ | assumption | exact ng_fld_obj (f := 0) (by assumption)) mc_X2 (by first | decide | exact Nat.le_of_ble_eq_true rfl) (s_X2_makes (c := ng_oc (H q)) o2.symm (by simp at hl ⊢; omega)) hd ?_
              refine ng_iinc_3 (w := 1) dX2_readsRule_92 (by decide) rfl ?_
              refine ng_goto 26 dX2_readsRule_95 (by decide +kernel) ?_
              rw [nI_1, ng_jl_ok h44 h77, List.append_assoc, List.append_assoc, ← List.append_assoc cs]
              exact ih (j + 1) _ _ _ (by omega) g2 (by simp at hl ⊢; omega)
            · refine ng_iconst_0 dX2_readsRule_80 ?_
              exact ng_ireturn dX2_readsRule_81 ⟨by rw [ng_jl_bad h44 h77]; rfl, by rw [ng_jl_bad h44 h77, List.append_assoc]⟩
          · have hR2 : R = 2 := (nI_eq (a := R) (b := 2) (by omega) (by omega)).mp h49
            have hj0 : j = 0 := by omega
            subst hj0
            exact absurd h54 (by decide)
theorem s_X2_rule {X : Nat × (Nat → Int32)} {M : ng_M} {H : Nat → Int32} {L d R lim : Nat} {u o : Int32} {f : Nat → ng_Rs} (hc : ng_RC M H L u) (hg : ng_gd L f) (hd : 1 ≤ d) (hR : R < 5) (hlim : ¬ R = 2 ∧ lim = 50 ∨ R = 2 ∧ lim = 1) (hs : ng_CR X M L d (nI (R + 1)) o f) : ng_CR X M L (d + 1) (nI R) o (ng_jn H (nI R) lim f) := by
  intro p cs hp hl
  obtain ⟨g1, g2, g3, g4⟩ := hg p hp
  refine ng_EvX.ofI (lv := [some (.ref 60), some (.int (nI R)), some (.int o), none, none]) (ty := .boolean) (by decide) (Nat.le_of_ble_eq_true rfl) rfl rfl (ng_bi_nar _) ?_
  refine ng_iload_1 dX2_readsRule_0 ?_
  refine ng_iconst_5 dX2_readsRule_1 ?_
  refine ng_icmp_lt 11 dX2_readsRule_2 (by decide +kernel) (fun h2 => ?_) (fun h2 => ?_)
  · refine ng_aload_0 dX2_readsRule_11 ?_
    refine ng_iload_1 dX2_readsRule_12 ?_
    refine ng_iconst_1 dX2_readsRule_13 ?_
    refine ng_iadd dX2_readsRule_14 ?_
    rw [nI_1]
    refine ng_iload_2 dX2_readsRule_15 ?_
    refine ng_callV_2x (y2 := mi_X2_readsRule) dX2_readsRule_16 lk_X2_47 ms_X2_readsRule my_X2_readsRule (by first | exact ⟨_, rfl⟩ | assumption | exact ng_fld_obj (f := 0) (by assumption)) mc_X2 (by first | decide | exact Nat.le_of_ble_eq_true rfl) (hs p cs hp hl) (by omega) ?_
    refine ng_ifb_ne 24 dX2_readsRule_19 (by decide +kernel) (fun h19 => ?_) (fun h19 => ?_)
    · refine ng_iconst_0 dX2_readsRule_24 ?_
      refine ng_istore_3 dX2_readsRule_25 (by first | rfl | assumption) ?_
      rw [ng_jn, if_pos h19]
      exact l_X2_rule hc hg hd hR hs lim 0 _ _ _ (by omega) g2 (by simp; omega)
    · refine ng_iconst_0 dX2_readsRule_22 ?_
      exact ng_ireturn dX2_readsRule_23 ⟨by rw [ng_jn, if_neg (by rw [h19]; decide), h19]; rfl, by rw [ng_jn, if_neg (by rw [h19]; decide)]⟩
  · exact absurd (show nI R < nI 5 from nI_lt hR (by omega)) h2
theorem s_X2_rule5 {X : Nat × (Nat → Int32)} {M : ng_M} {L d : Nat} {o : Int32} {f : Nat → ng_Rs} (hs : ng_CQ X M L d o f) : ng_CR X M L (d + 1) (nI 5) o f := by
  intro p cs hp hl
  refine ng_EvX.ofI (lv := [some (.ref 60), some (.int (nI 5)), some (.int o), none, none]) (ty := .boolean) (by decide) (Nat.le_of_ble_eq_true rfl) rfl rfl (ng_bi_nar _) ?_
  refine ng_iload_1 dX2_readsRule_0 ?_
  refine ng_iconst_5 dX2_readsRule_1 ?_
  refine ng_icmp_lt 11 dX2_readsRule_2 (by decide +kernel) (fun h2 => ?_) (fun h2 => ?_)
  · exact absurd h2 (by decide)
  · refine ng_aload_0 dX2_readsRule_5 ?_
    refine ng_iload_2 dX2_readsRule_6 ?_
    refine ng_callV_1x (y2 := mi_X2_readsQ) dX2_readsRule_7 lk_X2_51 ms_X2_readsQ my_X2_readsQ (by first | exact ⟨_, rfl⟩ | assumption | exact ng_fld_obj (f := 0) (by assumption)) mc_X2 (by first | decide | exact Nat.le_of_ble_eq_true rfl) (hs p cs hp hl) (by omega) ?_
    exact ng_ireturn dX2_readsRule_10 ⟨rfl, rfl⟩
theorem s_X2_tt {X : Nat × (Nat → Int32)} {M : ng_M} {H : Nat → Int32} {L d : Nat} {u o : Int32} {f : Nat → ng_Rs} (hc : ng_RC M H L u) (hg : ng_gd L f) (hs : ng_CQ X M L d o f) : ng_CR X M L (d + 6) 0 o (ng_tt H f) := by
  have c5 := s_X2_rule5 hs
  have g4 := ng_gd.jn (lim := 50) (r := nI 4) hc.1 (by decide) hg
  have c4 := s_X2_rule (R := 4) (lim := 50) hc hg (by omega) (by decide) (by decide) c5
  have g3 := ng_gd.jn (lim := 50) (r := nI 3) hc.1 (by decide) g4
  have c3 := s_X2_rule (R := 3) (lim := 50) hc g4 (by omega) (by decide) (by decide) c4
  have g2 := ng_gd.jn (lim := 1) (r := nI 2) hc.1 (by decide) g3
  have c2 := s_X2_rule (R := 2) (lim := 1) hc g3 (by omega) (by decide) (by decide) c3
  have g1 := ng_gd.jn (lim := 50) (r := nI 1) hc.1 (by decide) g2
  have c1 := s_X2_rule (R := 1) (lim := 50) hc g2 (by omega) (by decide) (by decide) c2
  exact s_X2_rule (R := 0) (lim := 50) hc g1 (by omega) (by decide) (by decide) c1
theorem s_X2_not {X : Nat × (Nat → Int32)} {M : ng_M} {H : Nat → Int32} {L d p : Nat} {u o : Int32} {f : Nat → ng_Rs} {cs : List Int32} (hc : ng_RC M H L u) (hg : ng_gd L f) (hd : 1 ≤ d) (hs : ng_CQ X M L d o f) (hp : p < L) (hl : cs.length ≤ p) : ng_EvX X (d + 1) mi_X2_readsNot [.ref 60, .int o] (ng_RD M p cs) (some (.int (ng_bi (ng_nt f (p + 1)).1))) (ng_RD M (ng_nt f (p + 1)).2.1 (cs ++ (ng_nt f (p + 1)).2.2)) := by
  have hL := hc.1.1
  obtain ⟨g1, g2, g3, g4⟩ := hg (p + 1) (by omega)
  refine ng_EvX.ofI (lv := [some (.ref 60), some (.int o)]) (ty := .boolean) (by decide) (Nat.le_of_ble_eq_true rfl) rfl rfl (ng_bi_nar _) ?_
  refine ng_aload_0 dX2_readsNot_0 ?_
  refine ng_dup dX2_readsNot_1 rfl ?_
  refine ng_gI dX2_readsNot_2 fl_X2_41 (by first | rfl | assumption) ?_
  refine ng_iconst_1 dX2_readsNot_5 ?_
  refine ng_iadd dX2_readsNot_6 ?_
  refine ng_pI dX2_readsNot_7 fp_X2_41 (by first | rfl | assumption) rfl rfl ?_
  rw [ng_RD_pp]
  refine ng_aload_0 dX2_readsNot_10 ?_
  refine ng_iload_1 dX2_readsNot_11 ?_
  refine ng_callV_1x (y2 := mi_X2_readsQ) dX2_readsNot_12 lk_X2_51 ms_X2_readsQ my_X2_readsQ (by first | exact ⟨_, rfl⟩ | assumption | exact ng_fld_obj (f := 0) (by assumption)) mc_X2 (by first | decide | exact Nat.le_of_ble_eq_true rfl) (hs (p + 1) cs (by omega) (by omega)) (by omega) ?_
  refine ng_ifb_ne 20 dX2_readsNot_15 (by decide +kernel) (fun h15 => ?_) (fun h15 => ?_)
  · refine ng_aload_0 dX2_readsNot_20 ?_
    refine ng_sipush (v := 10033) dX2_readsNot_21 (by decide) ?_
    refine ng_callV_1v (y2 := mi_X2_makes) dX2_readsNot_24 lk_X2_65 ms_X2_makes my_X2_makes (by first | exact ⟨_, rfl⟩ | assumption | exact ng_fld_obj (f := 0) (by assumption)) mc_X2 (by first | decide | exact Nat.le_of_ble_eq_true rfl) (s_X2_makes (c := 20010) (by decide) (by simp; omega)) hd ?_
    refine ng_iconst_1 dX2_readsNot_27 ?_
    exact ng_ireturn dX2_readsNot_28 ⟨by simp [ng_nt, h15]; rfl, by simp [ng_nt, h15]⟩
  · refine ng_iconst_0 dX2_readsNot_18 ?_
    exact ng_ireturn dX2_readsNot_19 ⟨by simp [ng_nt, h15]; rfl, by simp [ng_nt, h15]⟩
theorem ng_is_f1 {H : Nat → Int32} {f : Nat → ng_Rs} {p : Nat} (h : (f p).1 = false) : ng_is H f p = (false, (f p).2.1, (f p).2.2) := by rw [ng_is, if_neg (by simp [h])]
theorem ng_is_f2 {H : Nat → Int32} {f : Nat → ng_Rs} {p : Nat} (h : ¬ H (f p).2.1 = 41) : ng_is H f p = (false, (f p).2.1, (f p).2.2) := by rw [ng_is, if_neg (fun z => h z.2)]
theorem ng_un_nm {i : Nat} (h : i < 4) : (-1 : Int32) - nI i = ng_un (10000 + nI i) := by
  have e : i = 0 ∨ i = 1 ∨ i = 2 ∨ i = 3 := by omega
  rcases e with rfl | rfl | rfl | rfl <;> decide
theorem s_X2_ins {X : Nat × (Nat → Int32)} {M : ng_M} {H : Nat → Int32} {L d p : Nat} {u o : Int32} {f : Nat → ng_Rs} {cs : List Int32} (hc : ng_RC M H L u) (hg : ng_gd L f) (hd : 1 ≤ d) (hs : ng_CR X M L d 0 o f) (hp : p < L) (hl : cs.length ≤ p) : ng_EvX X (d + 1) mi_X2_readsInside [.ref 60, .int o] (ng_RD M p cs) (some (.int (ng_bi (ng_is H f (p + 1)).1))) (ng_RD M (ng_is H f (p + 1)).2.1 (cs ++ (ng_is H f (p + 1)).2.2)) := by
  have hL := hc.1.1
  obtain ⟨g1, g2, g3, g4⟩ := hg (p + 1) (by omega)
  refine ng_EvX.ofI (lv := [some (.ref 60), some (.int o)]) (ty := .boolean) (by decide) (Nat.le_of_ble_eq_true rfl) rfl rfl (ng_bi_nar _) ?_
  refine ng_aload_0 dX2_readsInside_0 ?_
  refine ng_dup dX2_readsInside_1 rfl ?_
  refine ng_gI dX2_readsInside_2 fl_X2_41 (by first | rfl | assumption) ?_
  refine ng_iconst_1 dX2_readsInside_5 ?_
  refine ng_iadd dX2_readsInside_6 ?_
  refine ng_pI dX2_readsInside_7 fp_X2_41 (by first | rfl | assumption) rfl rfl ?_
  rw [ng_RD_pp]
  refine ng_aload_0 dX2_readsInside_10 ?_
  refine ng_iconst_0 dX2_readsInside_11 ?_
  refine ng_iload_1 dX2_readsInside_12 ?_
  refine ng_callV_2x (y2 := mi_X2_readsRule) dX2_readsInside_13 lk_X2_47 ms_X2_readsRule my_X2_readsRule (by first | exact ⟨_, rfl⟩ | assumption | exact ng_fld_obj (f := 0) (by assumption)) mc_X2 (by first | decide | exact Nat.le_of_ble_eq_true rfl) (hs (p + 1) cs (by omega) (by omega)) (by omega) ?_
  refine ng_ifb_eq 28 dX2_readsInside_16 (by decide +kernel) (fun h16 => ?_) (fun h16 => ?_)
  · refine ng_iconst_0 dX2_readsInside_28 ?_
    exact ng_ireturn dX2_readsInside_29 ⟨by first | (rw [ng_is_f1 h16]; rfl) | (rw [ng_is_f2 h25]; rfl), by first | rw [ng_is_f1 h16] | rw [ng_is_f2 h25]⟩
  · refine ng_aload_0 dX2_readsInside_19 ?_
    refine ng_callV_0x (y2 := mi_X2_ahead) dX2_readsInside_20 lk_X2_55 ms_X2_ahead my_X2_ahead (by first | exact ⟨_, rfl⟩ | assumption | exact ng_fld_obj (f := 0) (by assumption)) mc_X2 (by first | decide | exact Nat.le_of_ble_eq_true rfl) (s_X2_ahead hc g2) hd ?_
    refine ng_bipush (v := 41) dX2_readsInside_23 (by decide) ?_
    refine ng_icmp_eq 30 dX2_readsInside_25 (by decide +kernel) (fun h25 => ?_) (fun h25 => ?_)
    · refine ng_aload_0 dX2_readsInside_30 ?_
      refine ng_dup dX2_readsInside_31 rfl ?_
      refine ng_gI dX2_readsInside_32 fl_X2_41 (by first | rfl | assumption) ?_
      refine ng_iconst_1 dX2_readsInside_35 ?_
      refine ng_iadd dX2_readsInside_36 ?_
      refine ng_pI dX2_readsInside_37 fp_X2_41 (by first | rfl | assumption) rfl rfl ?_
      rw [ng_RD_pp]
      refine ng_iconst_1 dX2_readsInside_40 ?_
      exact ng_ireturn dX2_readsInside_41 ⟨by rw [ng_is, if_pos ⟨h16, h25⟩]; rfl, by rw [ng_is, if_pos ⟨h16, h25⟩]⟩
    · refine ng_iconst_0 dX2_readsInside_28 ?_
      exact ng_ireturn dX2_readsInside_29 ⟨by first | (rw [ng_is_f1 h16]; rfl) | (rw [ng_is_f2 h25]; rfl), by first | rw [ng_is_f1 h16] | rw [ng_is_f2 h25]⟩
theorem s_X2_Q0 {X : Nat × (Nat → Int32)} {M : ng_M} {H : Nat → Int32} {L : Nat} {u : Int32} (hc : ng_RC M H L u) : ng_CQ X M L 4 (nI 5) (ng_qq H u 0) := by
  intro p cs hp hl
  have hL := hc.1.1
  refine ng_EvX.ofI (lv := [some (.ref 60), some (.int (nI 5)), none, none]) (ty := .boolean) (by decide) (Nat.le_of_ble_eq_true rfl) rfl rfl (ng_bi_nar _) ?_
  refine ng_aload_0 dX2_readsQ_0 ?_
  refine ng_callV_0x (y2 := mi_X2_ahead) dX2_readsQ_1 lk_X2_55 ms_X2_ahead my_X2_ahead (by first | exact ⟨_, rfl⟩ | assumption | exact ng_fld_obj (f := 0) (by assumption)) mc_X2 (by first | decide | exact Nat.le_of_ble_eq_true rfl) (s_X2_ahead hc hp) (by omega) ?_
  refine ng_istore_2 dX2_readsQ_4 (by first | rfl | assumption) ?_
  refine ng_iload_2 dX2_readsQ_5 ?_
  refine ng_callS_1x (y2 := mi_X2_isDigit) dX2_readsQ_6 lk_X2_69 ms_X2_isDigit my_X2_isDigit (by first | decide | exact Nat.le_of_ble_eq_true rfl) (s_X2_isDigit) (by omega) ?_
  refine ng_ifb_eq 18 dX2_readsQ_9 (by decide +kernel) (fun h9 => ?_) (fun h9 => ?_)
  · refine ng_aload_0 dX2_readsQ_18 ?_
    refine ng_iload_2 dX2_readsQ_19 ?_
    refine ng_callV_1x (y2 := mi_X2_nameOf) dX2_readsQ_20 lk_X2_75 ms_X2_nameOf my_X2_nameOf (by first | exact ⟨_, rfl⟩ | assumption | exact ng_fld_obj (f := 0) (by assumption)) mc_X2 (by first | decide | exact Nat.le_of_ble_eq_true rfl) (s_X2_nameOf hc.2.2.2.1 (by rw [ng_RD_5]; exact hc.2.2.1)) (by omega) ?_
    refine ng_istore_3 dX2_readsQ_23 (by first | rfl | assumption) ?_
    refine ng_iload_3 dX2_readsQ_24 ?_
    refine ng_if_lt 47 dX2_readsQ_25 (by decide +kernel) (fun h25 => ?_) (fun h25 => ?_)
    · have h0 : ¬ 0 ≤ ng_nmi u (H p) := Int32.not_le.mpr h25
      refine ng_iload_1 dX2_readsQ_47 ?_
      refine ng_iconst_5 dX2_readsQ_48 ?_
      refine ng_icmp_lt 54 dX2_readsQ_49 (by decide +kernel) (fun h49 => ?_) (fun h49 => ?_)
      · exact absurd h49 (by decide)
      · refine ng_iconst_0 dX2_readsQ_52 ?_
        exact ng_ireturn dX2_readsQ_53 ⟨by rw [ng_qq_0, ng_q0_o h9 h0]; rfl, by rw [ng_qq_0, ng_q0_o h9 h0, List.append_nil]⟩
    · have h0 : 0 ≤ ng_nmi u (H p) := Int32.not_lt.mp h25
      obtain ⟨i, hi, ei, hne⟩ := ng_nmi_v h0
      have hpl := hc.1.lt hne
      refine ng_aload_0 dX2_readsQ_28 ?_
      refine ng_dup dX2_readsQ_29 rfl ?_
      refine ng_gI dX2_readsQ_30 fl_X2_41 (by first | rfl | assumption) ?_
      refine ng_iconst_1 dX2_readsQ_33 ?_
      refine ng_iadd dX2_readsQ_34 ?_
      refine ng_pI dX2_readsQ_35 fp_X2_41 (by first | rfl | assumption) rfl rfl ?_
      rw [ng_RD_pp]
      refine ng_aload_0 dX2_readsQ_38 ?_
      refine ng_iconst_m1 dX2_readsQ_39 ?_
      refine ng_iload_3 dX2_readsQ_40 ?_
      refine ng_isub dX2_readsQ_41 ?_
      refine ng_callV_1v (y2 := mi_X2_makes) dX2_readsQ_42 lk_X2_65 ms_X2_makes my_X2_makes (by first | exact ⟨_, rfl⟩ | assumption | exact ng_fld_obj (f := 0) (by assumption)) mc_X2 (by first | decide | exact Nat.le_of_ble_eq_true rfl) (s_X2_makes (c := 10000 + ng_nmi u (H p)) (by rw [ei]; exact ng_un_nm hi) (by omega)) (by omega) ?_
      refine ng_iconst_1 dX2_readsQ_45 ?_
      exact ng_ireturn dX2_readsQ_46 ⟨by rw [ng_qq_0, ng_q0_n h9 h0]; rfl, by rw [ng_qq_0, ng_q0_n h9 h0]⟩
  · refine ng_aload_0 dX2_readsQ_12 ?_
    refine ng_callV_0v (y2 := mi_X2_readsNumber) dX2_readsQ_13 lk_X2_72 ms_X2_readsNumber my_X2_readsNumber (by first | exact ⟨_, rfl⟩ | assumption | exact ng_fld_obj (f := 0) (by assumption)) mc_X2 (by first | decide | exact Nat.le_of_ble_eq_true rfl) (s_X2_readsNumber hc hl h9) (by omega) ?_
    refine ng_iconst_1 dX2_readsQ_16 ?_
    exact ng_ireturn dX2_readsQ_17 ⟨by rw [ng_qq_0, ng_q0_d h9]; rfl, by rw [ng_qq_0, ng_q0_d h9]⟩
theorem s_X2_Qs {X : Nat × (Nat → Int32)} {M : ng_M} {H : Nat → Int32} {L d O w : Nat} {u : Int32} (hc : ng_RC M H L u) (hd : 4 ≤ d) (hO : O < 5) (hs : ng_CQ X M L d (nI (O + 1)) (ng_qq H u w)) : ng_CQ X M L (d + 8) (nI O) (ng_qq H u (w + 1)) := by
  intro p cs hp hl
  have hL := hc.1.1
  have hgq := ng_gd.qq (u := u) hc.1 w
  have hgt := ng_gd.tt hc.1 hgq
  have ht := s_X2_tt hc hgq hs
  refine ng_EvX.ofI (lv := [some (.ref 60), some (.int (nI O)), none, none]) (ty := .boolean) (by decide) (Nat.le_of_ble_eq_true rfl) rfl rfl (ng_bi_nar _) ?_
  refine ng_aload_0 dX2_readsQ_0 ?_
  refine ng_callV_0x (y2 := mi_X2_ahead) dX2_readsQ_1 lk_X2_55 ms_X2_ahead my_X2_ahead (by first | exact ⟨_, rfl⟩ | assumption | exact ng_fld_obj (f := 0) (by assumption)) mc_X2 (by first | decide | exact Nat.le_of_ble_eq_true rfl) (s_X2_ahead hc hp) (by omega) ?_
  refine ng_istore_2 dX2_readsQ_4 (by first | rfl | assumption) ?_
  refine ng_iload_2 dX2_readsQ_5 ?_
  refine ng_callS_1x (y2 := mi_X2_isDigit) dX2_readsQ_6 lk_X2_69 ms_X2_isDigit my_X2_isDigit (by first | decide | exact Nat.le_of_ble_eq_true rfl) (s_X2_isDigit) (by omega) ?_
  refine ng_ifb_eq 18 dX2_readsQ_9 (by decide +kernel) (fun h9 => ?_) (fun h9 => ?_)
  · refine ng_aload_0 dX2_readsQ_18 ?_
    refine ng_iload_2 dX2_readsQ_19 ?_
    refine ng_callV_1x (y2 := mi_X2_nameOf) dX2_readsQ_20 lk_X2_75 ms_X2_nameOf my_X2_nameOf (by first | exact ⟨_, rfl⟩ | assumption | exact ng_fld_obj (f := 0) (by assumption)) mc_X2 (by first | decide | exact Nat.le_of_ble_eq_true rfl) (s_X2_nameOf hc.2.2.2.1 (by rw [ng_RD_5]; exact hc.2.2.1)) (by omega) ?_
    refine ng_istore_3 dX2_readsQ_23 (by first | rfl | assumption) ?_
    refine ng_iload_3 dX2_readsQ_24 ?_
    refine ng_if_lt 47 dX2_readsQ_25 (by decide +kernel) (fun h25 => ?_) (fun h25 => ?_)
    · have h0 : ¬ 0 ≤ ng_nmi u (H p) := Int32.not_le.mpr h25
      refine ng_iload_1 dX2_readsQ_47 ?_
      refine ng_iconst_5 dX2_readsQ_48 ?_
      refine ng_icmp_lt 54 dX2_readsQ_49 (by decide +kernel) (fun h49 => ?_) (fun h49 => ?_)
      · refine ng_iload_2 dX2_readsQ_54 ?_
        refine ng_bipush (v := 33) dX2_readsQ_55 (by decide) ?_
        refine ng_icmp_ne 70 dX2_readsQ_57 (by decide +kernel) (fun h57 => ?_) (fun h57 => ?_)
        · refine ng_iload_2 dX2_readsQ_70 ?_
          refine ng_bipush (v := 40) dX2_readsQ_71 (by decide) ?_
          refine ng_icmp_ne 90 dX2_readsQ_73 (by decide +kernel) (fun h73 => ?_) (fun h73 => ?_)
          · refine ng_iconst_0 dX2_readsQ_90 ?_
            exact ng_ireturn dX2_readsQ_91 ⟨by first | (rw [ng_qq_s, ng_q0_o h9 h0, if_pos h57]; done) | (rw [ng_qq_s, ng_q0_o h9 h0, if_pos h57]; rfl) | (rw [ng_qq_s, ng_q0_o h9 h0, if_neg h57, if_pos h73, h83]; rfl) | (rw [ng_qq_s, ng_q0_o h9 h0, if_neg h57, if_neg h73]; rfl), by first | (rw [ng_qq_s, ng_q0_o h9 h0, if_pos h57]; done) | (rw [ng_qq_s, ng_q0_o h9 h0, if_neg h57, if_pos h73]; done) | (rw [ng_qq_s, ng_q0_o h9 h0, if_neg h57, if_neg h73, List.append_nil]; done)⟩
          · have hpl := hc.1.lt (p := p) (by rw [h73]; decide)
            refine ng_aload_0 dX2_readsQ_76 ?_
            refine ng_iload_1 dX2_readsQ_77 ?_
            refine ng_iconst_1 dX2_readsQ_78 ?_
            refine ng_iadd dX2_readsQ_79 ?_
            rw [nI_1]
            refine ng_callV_1x (y2 := mi_X2_readsInside) dX2_readsQ_80 lk_X2_81 ms_X2_readsInside my_X2_readsInside (by first | exact ⟨_, rfl⟩ | assumption | exact ng_fld_obj (f := 0) (by assumption)) mc_X2 (by first | decide | exact Nat.le_of_ble_eq_true rfl) (s_X2_ins hc hgt (by omega) ht hpl hl) (by omega) ?_
            refine ng_ifb_eq 90 dX2_readsQ_83 (by decide +kernel) (fun h83 => ?_) (fun h83 => ?_)
            · refine ng_iconst_0 dX2_readsQ_90 ?_
              exact ng_ireturn dX2_readsQ_91 ⟨by first | (rw [ng_qq_s, ng_q0_o h9 h0, if_pos h57]; done) | (rw [ng_qq_s, ng_q0_o h9 h0, if_pos h57]; rfl) | (rw [ng_qq_s, ng_q0_o h9 h0, if_neg h57, if_pos h73, h83]; rfl) | (rw [ng_qq_s, ng_q0_o h9 h0, if_neg h57, if_neg h73]; rfl), by first | (rw [ng_qq_s, ng_q0_o h9 h0, if_pos h57]; done) | (rw [ng_qq_s, ng_q0_o h9 h0, if_neg h57, if_pos h73]; done) | (rw [ng_qq_s, ng_q0_o h9 h0, if_neg h57, if_neg h73, List.append_nil]; done)⟩
            · refine ng_iconst_1 dX2_readsQ_86 ?_
              refine ng_goto 91 dX2_readsQ_87 (by decide +kernel) ?_
              exact ng_ireturn dX2_readsQ_91 ⟨by first | (rw [ng_qq_s, ng_q0_o h9 h0, if_pos h57]; done) | (rw [ng_qq_s, ng_q0_o h9 h0, if_pos h57]; rfl) | (rw [ng_qq_s, ng_q0_o h9 h0, if_neg h57, if_pos h73, h83]; rfl) | (rw [ng_qq_s, ng_q0_o h9 h0, if_neg h57, if_neg h73]; rfl), by first | (rw [ng_qq_s, ng_q0_o h9 h0, if_pos h57]; done) | (rw [ng_qq_s, ng_q0_o h9 h0, if_neg h57, if_pos h73]; done) | (rw [ng_qq_s, ng_q0_o h9 h0, if_neg h57, if_neg h73, List.append_nil]; done)⟩
        · have hpl := hc.1.lt (p := p) (by rw [h57]; decide)
          refine ng_aload_0 dX2_readsQ_60 ?_
          refine ng_iload_1 dX2_readsQ_61 ?_
          refine ng_iconst_1 dX2_readsQ_62 ?_
          refine ng_iadd dX2_readsQ_63 ?_
          rw [nI_1]
          refine ng_callV_1x (y2 := mi_X2_readsNot) dX2_readsQ_64 lk_X2_78 ms_X2_readsNot my_X2_readsNot (by first | exact ⟨_, rfl⟩ | assumption | exact ng_fld_obj (f := 0) (by assumption)) mc_X2 (by first | decide | exact Nat.le_of_ble_eq_true rfl) (s_X2_not hc hgq (by omega) hs hpl hl) (by omega) ?_
          refine ng_goto 91 dX2_readsQ_67 (by decide +kernel) ?_
          exact ng_ireturn dX2_readsQ_91 ⟨by first | (rw [ng_qq_s, ng_q0_o h9 h0, if_pos h57]; done) | (rw [ng_qq_s, ng_q0_o h9 h0, if_pos h57]; rfl) | (rw [ng_qq_s, ng_q0_o h9 h0, if_neg h57, if_pos h73, h83]; rfl) | (rw [ng_qq_s, ng_q0_o h9 h0, if_neg h57, if_neg h73]; rfl), by first | (rw [ng_qq_s, ng_q0_o h9 h0, if_pos h57]; done) | (rw [ng_qq_s, ng_q0_o h9 h0, if_neg h57, if_pos h73]; done) | (rw [ng_qq_s, ng_q0_o h9 h0, if_neg h57, if_neg h73, List.append_nil]; done)⟩
      · exact absurd (show nI O < nI 5 from nI_lt hO (by omega)) h49
    · have h0 : 0 ≤ ng_nmi u (H p) := Int32.not_lt.mp h25
      obtain ⟨i, hi, ei, hne⟩ := ng_nmi_v h0
      have hpl := hc.1.lt hne
      refine ng_aload_0 dX2_readsQ_28 ?_
      refine ng_dup dX2_readsQ_29 rfl ?_
      refine ng_gI dX2_readsQ_30 fl_X2_41 (by first | rfl | assumption) ?_
      refine ng_iconst_1 dX2_readsQ_33 ?_
      refine ng_iadd dX2_readsQ_34 ?_
      refine ng_pI dX2_readsQ_35 fp_X2_41 (by first | rfl | assumption) rfl rfl ?_
      rw [ng_RD_pp]
      refine ng_aload_0 dX2_readsQ_38 ?_
      refine ng_iconst_m1 dX2_readsQ_39 ?_
      refine ng_iload_3 dX2_readsQ_40 ?_
      refine ng_isub dX2_readsQ_41 ?_
      refine ng_callV_1v (y2 := mi_X2_makes) dX2_readsQ_42 lk_X2_65 ms_X2_makes my_X2_makes (by first | exact ⟨_, rfl⟩ | assumption | exact ng_fld_obj (f := 0) (by assumption)) mc_X2 (by first | decide | exact Nat.le_of_ble_eq_true rfl) (s_X2_makes (c := 10000 + ng_nmi u (H p)) (by rw [ei]; exact ng_un_nm hi) (by omega)) (by omega) ?_
      refine ng_iconst_1 dX2_readsQ_45 ?_
      exact ng_ireturn dX2_readsQ_46 ⟨by rw [ng_qq_s, ng_q0_n h9 h0]; rfl, by rw [ng_qq_s, ng_q0_n h9 h0]⟩
  · refine ng_aload_0 dX2_readsQ_12 ?_
    refine ng_callV_0v (y2 := mi_X2_readsNumber) dX2_readsQ_13 lk_X2_72 ms_X2_readsNumber my_X2_readsNumber (by first | exact ⟨_, rfl⟩ | assumption | exact ng_fld_obj (f := 0) (by assumption)) mc_X2 (by first | decide | exact Nat.le_of_ble_eq_true rfl) (s_X2_readsNumber hc hl h9) (by omega) ?_
    refine ng_iconst_1 dX2_readsQ_16 ?_
    exact ng_ireturn dX2_readsQ_17 ⟨by rw [ng_qq_s, ng_q0_d h9]; rfl, by rw [ng_qq_s, ng_q0_d h9]⟩
theorem s_X2_text {X : Nat × (Nat → Int32)} {M : ng_M} {H : Nat → Int32} {L : Nat} {u : Int32} (hc : ng_RC M H L u) : ng_CR X M L 50 0 0 (ng_tt H (ng_qq H u 5)) := by
  have c0 := s_X2_Q0 (X := X) hc
  have c1 := s_X2_Qs (O := 4) hc (by decide) (by decide) c0
  have c2 := s_X2_Qs (O := 3) hc (by decide) (by decide) c1
  have c3 := s_X2_Qs (O := 2) hc (by decide) (by decide) c2
  have c4 := s_X2_Qs (O := 1) hc (by decide) (by decide) c3
  have c5 := s_X2_Qs (O := 0) hc (by decide) (by decide) c4
  exact s_X2_tt hc (ng_gd.qq hc.1 5) c5
