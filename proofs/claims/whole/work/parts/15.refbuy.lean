/-! ===== the reference: what a pot is worth, what is due, what is bought ===== -/
theorem ng_fok_pos {c : Nat → Int32} {n : Nat} (h : ng_wt c n) : 0 < n := by
  obtain ⟨-, H, h0, h1, -⟩ := h
  rcases Nat.eq_zero_or_pos n with e | e
  · subst e; omega
  · exact e
theorem s_X9_given0 {X : Nat × (Nat → Int32)} {M : ng_M} {a b c d : Int32} (hf : ng_fok (ng_tc (M 74) 123) (M 74 123)) (hv : ng_tv (M 74) 123) : ng_EvI X 3 mi_X9_given [.ref 73, .int 0, .int a, .int b, .int c, .int d] M (fun v M' => v = ng_pw (ng_tc (M 74) 123) (M 74 123) a b c d ∧ ng_off [81, 82] M M') := by
  refine ng_EvI.of (lv := [some (.ref 73), some (.int 0), some (.int a), some (.int b), some (.int c), some (.int d), none, none, none]) (ty := .int) (by decide) (Nat.le_of_ble_eq_true rfl) rfl rfl (fun _ _ _ => rfl) ?_
  have e1 : (123 + 52 * 0 + 1 - 1 : Int32).toNatClampNeg = 123 := by decide
  obtain ⟨n, hn, hn50, h⟩ := hf
  rcases h with rfl | hw
  · have hz : M 74 123 = 0 := by rw [hn]; rfl
    refine ng_aload_0 dX9_given_0 ?_
    refine ng_gR dX9_given_1 fl_X9_39 (by first | rfl | assumption) ?_
    refine ng_iconst_0 dX9_given_4 ?_
    refine ng_iload_2 dX9_given_5 ?_
    refine ng_iast dX9_given_6 (by first | rfl | assumption) (by first | assumption | (unfold vp_in; decide)) ?_
    refine ng_aload_0 dX9_given_7 ?_
    refine ng_gR dX9_given_8 fl_X9_39 (by first | rfl | assumption) ?_
    refine ng_iconst_1 dX9_given_11 ?_
    refine ng_iload_3 dX9_given_12 ?_
    refine ng_iast dX9_given_13 (by first | rfl | assumption) (by first | assumption | (unfold vp_in; decide)) ?_
    refine ng_aload_0 dX9_given_14 ?_
    refine ng_gR dX9_given_15 fl_X9_39 (by first | rfl | assumption) ?_
    refine ng_iconst_2 dX9_given_18 ?_
    refine ng_iload_4 dX9_given_19 ?_
    refine ng_iast dX9_given_21 (by first | rfl | assumption) (by first | assumption | (unfold vp_in; decide)) ?_
    refine ng_aload_0 dX9_given_22 ?_
    refine ng_gR dX9_given_23 fl_X9_39 (by first | rfl | assumption) ?_
    refine ng_iconst_3 dX9_given_26 ?_
    refine ng_iload_5 dX9_given_27 ?_
    refine ng_iast dX9_given_29 (by first | rfl | assumption) (by first | assumption | (unfold vp_in; decide)) ?_
    refine ng_bipush (v := 123) dX9_given_30 (by decide) ?_
    refine ng_bipush (v := 52) dX9_given_32 (by decide) ?_
    refine ng_iload_1 dX9_given_34 ?_
    refine ng_imul dX9_given_35 ?_
    refine ng_iadd dX9_given_36 ?_
    refine ng_iconst_1 dX9_given_37 ?_
    refine ng_iadd dX9_given_38 ?_
    refine ng_istore_6 dX9_given_39 rfl ?_
    refine ng_aload_0 dX9_given_41 ?_
    refine ng_gR dX9_given_42 fl_X9_9 (by first | rfl | assumption) ?_
    refine ng_iload_6 dX9_given_45 ?_
    refine ng_iconst_1 dX9_given_47 ?_
    refine ng_isub dX9_given_48 ?_
    refine ng_iald dX9_given_49 (by first | rfl | assumption) (by first | assumption | (unfold vp_in; decide)) ?_
    refine ng_if_le 57 dX9_given_50 (by decide +kernel) (fun h50 => ?_) (fun h50 => ?_)
    · refine ng_iconst_0 dX9_given_57 ?_
      refine ng_istore_7 dX9_given_58 rfl ?_
      refine ng_iload_7 dX9_given_60 ?_
      refine ng_if_eq 74 dX9_given_62 (by decide +kernel) (fun h62 => ?_) (fun h62 => ?_)
      · refine ng_iload_1 dX9_given_74 ?_
        refine ng_if_ne 89 dX9_given_75 (by decide +kernel) (fun h75 => ?_) (fun h75 => ?_)
        · exact absurd (by decide) h75
        · refine ng_iload_2 dX9_given_78 ?_
          refine ng_iload_3 dX9_given_79 ?_
          refine ng_iconst_5 dX9_given_80 ?_
          refine ng_imul dX9_given_81 ?_
          refine ng_iadd dX9_given_82 ?_
          refine ng_iload_5 dX9_given_83 ?_
          refine ng_isub dX9_given_85 ?_
          refine ng_goto 109 dX9_given_86 (by decide +kernel) ?_
          refine ng_istore_8 dX9_given_109 rfl ?_
          refine ng_iload_1 dX9_given_111 ?_
          refine ng_if_ne 126 dX9_given_112 (by decide +kernel) (fun h112 => ?_) (fun h112 => ?_)
          · exact absurd (by decide) h112
          · refine ng_iload_8 dX9_given_115 ?_
            refine ng_iconst_0 dX9_given_117 ?_
            refine ng_ldc dX9_given_118 kc_X9_202 ?_
            refine ng_callS_3x (y2 := mi_X9_held) dX9_given_120 lk_X9_203 ms_X9_held my_X9_held (by first | decide | exact Nat.le_of_ble_eq_true rfl) (s_X9_held) (by decide) ?_
            refine ng_goto 134 dX9_given_123 (by decide +kernel) ?_
            exact ng_ireturn dX9_given_134 ⟨_, rfl, by simp [ng_pw, hz], fun k hk => by simp at hk; simp [ng_row, hk]⟩
      · exact absurd (by decide) h62
    · exact absurd (by rw [e1]; simp [ng_row]; rw [hz]; decide) h50
  · have hp := ng_fok_pos hw
    have hz : ¬ M 74 123 ≤ 0 := by rw [hn]; exact nI_nle hp (by omega)
    have hz2 : ¬ M 74 123 = 0 := by intro e; rw [e] at hz; exact hz (by decide)
    have hcl : (M 74 123).toNatClampNeg = n := by rw [hn, nI_clamp (by omega)]
    refine ng_aload_0 dX9_given_0 ?_
    refine ng_gR dX9_given_1 fl_X9_39 (by first | rfl | assumption) ?_
    refine ng_iconst_0 dX9_given_4 ?_
    refine ng_iload_2 dX9_given_5 ?_
    refine ng_iast dX9_given_6 (by first | rfl | assumption) (by first | assumption | (unfold vp_in; decide)) ?_
    refine ng_aload_0 dX9_given_7 ?_
    refine ng_gR dX9_given_8 fl_X9_39 (by first | rfl | assumption) ?_
    refine ng_iconst_1 dX9_given_11 ?_
    refine ng_iload_3 dX9_given_12 ?_
    refine ng_iast dX9_given_13 (by first | rfl | assumption) (by first | assumption | (unfold vp_in; decide)) ?_
    refine ng_aload_0 dX9_given_14 ?_
    refine ng_gR dX9_given_15 fl_X9_39 (by first | rfl | assumption) ?_
    refine ng_iconst_2 dX9_given_18 ?_
    refine ng_iload_4 dX9_given_19 ?_
    refine ng_iast dX9_given_21 (by first | rfl | assumption) (by first | assumption | (unfold vp_in; decide)) ?_
    refine ng_aload_0 dX9_given_22 ?_
    refine ng_gR dX9_given_23 fl_X9_39 (by first | rfl | assumption) ?_
    refine ng_iconst_3 dX9_given_26 ?_
    refine ng_iload_5 dX9_given_27 ?_
    refine ng_iast dX9_given_29 (by first | rfl | assumption) (by first | assumption | (unfold vp_in; decide)) ?_
    refine ng_bipush (v := 123) dX9_given_30 (by decide) ?_
    refine ng_bipush (v := 52) dX9_given_32 (by decide) ?_
    refine ng_iload_1 dX9_given_34 ?_
    refine ng_imul dX9_given_35 ?_
    refine ng_iadd dX9_given_36 ?_
    refine ng_iconst_1 dX9_given_37 ?_
    refine ng_iadd dX9_given_38 ?_
    refine ng_istore_6 dX9_given_39 rfl ?_
    refine ng_aload_0 dX9_given_41 ?_
    refine ng_gR dX9_given_42 fl_X9_9 (by first | rfl | assumption) ?_
    refine ng_iload_6 dX9_given_45 ?_
    refine ng_iconst_1 dX9_given_47 ?_
    refine ng_isub dX9_given_48 ?_
    refine ng_iald dX9_given_49 (by first | rfl | assumption) (by first | assumption | (unfold vp_in; decide)) ?_
    refine ng_if_le 57 dX9_given_50 (by decide +kernel) (fun h50 => ?_) (fun h50 => ?_)
    · exact absurd (by rw [e1] at h50; simpa [ng_row] using h50) hz
    · refine ng_iconst_1 dX9_given_53 ?_
      refine ng_goto 58 dX9_given_54 (by decide +kernel) ?_
      refine ng_istore_7 dX9_given_58 rfl ?_
      refine ng_iload_7 dX9_given_60 ?_
      refine ng_if_eq 74 dX9_given_62 (by decide +kernel) (fun h62 => ?_) (fun h62 => ?_)
      · exact absurd h62 (by decide)
      · refine ng_aload_0 dX9_given_65 ?_
        refine ng_iload_6 dX9_given_66 ?_
        refine ng_callV_1i (y2 := mi_X9_worked) dX9_given_68 lk_X9_199 ms_X9_worked my_X9_worked (by first | exact ⟨_, rfl⟩ | assumption | exact ng_fld_obj (f := 0) (by assumption)) mc_X9 (by first | decide | exact Nat.le_of_ble_eq_true rfl) (s_X9_worked (o := 123) (n := n) (a := a) (b := b) (c := c) (d := d) (Or.inl rfl) (by decide) (by simp [ng_row]; exact hn) (fun j hj => by simp [ng_row]; exact hv j (by rw [hcl]; exact hj)) (by simpa [ng_row] using hw) (by simp [ng_row, upd]) (by simp [ng_row, upd]) (by simp [ng_row, upd]) (by simp [ng_row, upd])) (by decide) (fun v M1 hv1 => ?_)
        refine ng_goto 109 dX9_given_71 (by decide +kernel) ?_
        refine ng_istore_8 dX9_given_109 rfl ?_
        refine ng_iload_1 dX9_given_111 ?_
        refine ng_if_ne 126 dX9_given_112 (by decide +kernel) (fun h112 => ?_) (fun h112 => ?_)
        · exact absurd (by decide) h112
        · refine ng_iload_8 dX9_given_115 ?_
          refine ng_iconst_0 dX9_given_117 ?_
          refine ng_ldc dX9_given_118 kc_X9_202 ?_
          refine ng_callS_3x (y2 := mi_X9_held) dX9_given_120 lk_X9_203 ms_X9_held my_X9_held (by first | decide | exact Nat.le_of_ble_eq_true rfl) (s_X9_held) (by decide) ?_
          refine ng_goto 134 dX9_given_123 (by decide +kernel) ?_
          exact ng_ireturn dX9_given_134 ⟨_, rfl, by rw [hv1.1]; simp [ng_pw, ng_giv, hz2, hcl, ng_row], fun k hk => by simp at hk; rw [hv1.2 k hk.2]; simp [ng_row, hk]⟩
theorem s_X9_given1 {X : Nat × (Nat → Int32)} {M : ng_M} {a b c d : Int32} (hf : ng_fok (ng_tc (M 74) 175) (M 74 175)) (hv : ng_tv (M 74) 175) : ng_EvI X 3 mi_X9_given [.ref 73, .int 1, .int a, .int b, .int c, .int d] M (fun v M' => v = ng_fm (ng_tc (M 74) 175) (M 74 175) a b c d ∧ ng_off [81, 82] M M') := by
  refine ng_EvI.of (lv := [some (.ref 73), some (.int 1), some (.int a), some (.int b), some (.int c), some (.int d), none, none, none]) (ty := .int) (by decide) (Nat.le_of_ble_eq_true rfl) rfl rfl (fun _ _ _ => rfl) ?_
  have e1 : (123 + 52 * 1 + 1 - 1 : Int32).toNatClampNeg = 175 := by decide
  obtain ⟨n, hn, hn50, h⟩ := hf
  rcases h with rfl | hw
  · have hz : M 74 175 = 0 := by rw [hn]; rfl
    refine ng_aload_0 dX9_given_0 ?_
    refine ng_gR dX9_given_1 fl_X9_39 (by first | rfl | assumption) ?_
    refine ng_iconst_0 dX9_given_4 ?_
    refine ng_iload_2 dX9_given_5 ?_
    refine ng_iast dX9_given_6 (by first | rfl | assumption) (by first | assumption | (unfold vp_in; decide)) ?_
    refine ng_aload_0 dX9_given_7 ?_
    refine ng_gR dX9_given_8 fl_X9_39 (by first | rfl | assumption) ?_
    refine ng_iconst_1 dX9_given_11 ?_
    refine ng_iload_3 dX9_given_12 ?_
    refine ng_iast dX9_given_13 (by first | rfl | assumption) (by first | assumption | (unfold vp_in; decide)) ?_
    refine ng_aload_0 dX9_given_14 ?_
    refine ng_gR dX9_given_15 fl_X9_39 (by first | rfl | assumption) ?_
    refine ng_iconst_2 dX9_given_18 ?_
    refine ng_iload_4 dX9_given_19 ?_
    refine ng_iast dX9_given_21 (by first | rfl | assumption) (by first | assumption | (unfold vp_in; decide)) ?_
    refine ng_aload_0 dX9_given_22 ?_
    refine ng_gR dX9_given_23 fl_X9_39 (by first | rfl | assumption) ?_
    refine ng_iconst_3 dX9_given_26 ?_
    refine ng_iload_5 dX9_given_27 ?_
    refine ng_iast dX9_given_29 (by first | rfl | assumption) (by first | assumption | (unfold vp_in; decide)) ?_
    refine ng_bipush (v := 123) dX9_given_30 (by decide) ?_
    refine ng_bipush (v := 52) dX9_given_32 (by decide) ?_
    refine ng_iload_1 dX9_given_34 ?_
    refine ng_imul dX9_given_35 ?_
    refine ng_iadd dX9_given_36 ?_
    refine ng_iconst_1 dX9_given_37 ?_
    refine ng_iadd dX9_given_38 ?_
    refine ng_istore_6 dX9_given_39 rfl ?_
    refine ng_aload_0 dX9_given_41 ?_
    refine ng_gR dX9_given_42 fl_X9_9 (by first | rfl | assumption) ?_
    refine ng_iload_6 dX9_given_45 ?_
    refine ng_iconst_1 dX9_given_47 ?_
    refine ng_isub dX9_given_48 ?_
    refine ng_iald dX9_given_49 (by first | rfl | assumption) (by first | assumption | (unfold vp_in; decide)) ?_
    refine ng_if_le 57 dX9_given_50 (by decide +kernel) (fun h50 => ?_) (fun h50 => ?_)
    · refine ng_iconst_0 dX9_given_57 ?_
      refine ng_istore_7 dX9_given_58 rfl ?_
      refine ng_iload_7 dX9_given_60 ?_
      refine ng_if_eq 74 dX9_given_62 (by decide +kernel) (fun h62 => ?_) (fun h62 => ?_)
      · refine ng_iload_1 dX9_given_74 ?_
        refine ng_if_ne 89 dX9_given_75 (by decide +kernel) (fun h75 => ?_) (fun h75 => ?_)
        · refine ng_iload_3 dX9_given_89 ?_
          refine ng_if_ne 97 dX9_given_90 (by decide +kernel) (fun h90 => ?_) (fun h90 => ?_)
          · refine ng_iconst_0 dX9_given_97 ?_
            refine ng_iload_3 dX9_given_98 ?_
            refine ng_iconst_3 dX9_given_99 ?_
            refine ng_icmp_le 107 dX9_given_100 (by decide +kernel) (fun h100 => ?_) (fun h100 => ?_)
            · refine ng_iconst_0 dX9_given_107 ?_
              refine ng_isub dX9_given_108 ?_
              refine ng_istore_8 dX9_given_109 rfl ?_
              refine ng_iload_1 dX9_given_111 ?_
              refine ng_if_ne 126 dX9_given_112 (by decide +kernel) (fun h112 => ?_) (fun h112 => ?_)
              · refine ng_iload_8 dX9_given_126 ?_
                refine ng_bipush (v := (-3)) dX9_given_128 (by decide) ?_
                refine ng_iconst_3 dX9_given_130 ?_
                refine ng_callS_3x (y2 := mi_X9_held) dX9_given_131 lk_X9_203 ms_X9_held my_X9_held (by first | decide | exact Nat.le_of_ble_eq_true rfl) (s_X9_held) (by decide) ?_
                exact ng_ireturn dX9_given_134 ⟨_, rfl, by first | (exact absurd (by rw [h90]; decide) h100) | simp [ng_fm, hz, h90, h100], fun k hk => by simp at hk; simp [ng_row, hk]⟩
              · exact absurd h112 (by decide)
            · refine ng_iconst_1 dX9_given_103 ?_
              refine ng_goto 108 dX9_given_104 (by decide +kernel) ?_
              refine ng_isub dX9_given_108 ?_
              refine ng_istore_8 dX9_given_109 rfl ?_
              refine ng_iload_1 dX9_given_111 ?_
              refine ng_if_ne 126 dX9_given_112 (by decide +kernel) (fun h112 => ?_) (fun h112 => ?_)
              · refine ng_iload_8 dX9_given_126 ?_
                refine ng_bipush (v := (-3)) dX9_given_128 (by decide) ?_
                refine ng_iconst_3 dX9_given_130 ?_
                refine ng_callS_3x (y2 := mi_X9_held) dX9_given_131 lk_X9_203 ms_X9_held my_X9_held (by first | decide | exact Nat.le_of_ble_eq_true rfl) (s_X9_held) (by decide) ?_
                exact ng_ireturn dX9_given_134 ⟨_, rfl, by first | (exact absurd (by rw [h90]; decide) h100) | simp [ng_fm, hz, h90, h100], fun k hk => by simp at hk; simp [ng_row, hk]⟩
              · exact absurd h112 (by decide)
          · refine ng_iconst_1 dX9_given_93 ?_
            refine ng_goto 98 dX9_given_94 (by decide +kernel) ?_
            refine ng_iload_3 dX9_given_98 ?_
            refine ng_iconst_3 dX9_given_99 ?_
            refine ng_icmp_le 107 dX9_given_100 (by decide +kernel) (fun h100 => ?_) (fun h100 => ?_)
            · refine ng_iconst_0 dX9_given_107 ?_
              refine ng_isub dX9_given_108 ?_
              refine ng_istore_8 dX9_given_109 rfl ?_
              refine ng_iload_1 dX9_given_111 ?_
              refine ng_if_ne 126 dX9_given_112 (by decide +kernel) (fun h112 => ?_) (fun h112 => ?_)
              · refine ng_iload_8 dX9_given_126 ?_
                refine ng_bipush (v := (-3)) dX9_given_128 (by decide) ?_
                refine ng_iconst_3 dX9_given_130 ?_
                refine ng_callS_3x (y2 := mi_X9_held) dX9_given_131 lk_X9_203 ms_X9_held my_X9_held (by first | decide | exact Nat.le_of_ble_eq_true rfl) (s_X9_held) (by decide) ?_
                exact ng_ireturn dX9_given_134 ⟨_, rfl, by first | (exact absurd (by rw [h90]; decide) h100) | simp [ng_fm, hz, h90, h100], fun k hk => by simp at hk; simp [ng_row, hk]⟩
              · exact absurd h112 (by decide)
            · refine ng_iconst_1 dX9_given_103 ?_
              refine ng_goto 108 dX9_given_104 (by decide +kernel) ?_
              refine ng_isub dX9_given_108 ?_
              refine ng_istore_8 dX9_given_109 rfl ?_
              refine ng_iload_1 dX9_given_111 ?_
              refine ng_if_ne 126 dX9_given_112 (by decide +kernel) (fun h112 => ?_) (fun h112 => ?_)
              · refine ng_iload_8 dX9_given_126 ?_
                refine ng_bipush (v := (-3)) dX9_given_128 (by decide) ?_
                refine ng_iconst_3 dX9_given_130 ?_
                refine ng_callS_3x (y2 := mi_X9_held) dX9_given_131 lk_X9_203 ms_X9_held my_X9_held (by first | decide | exact Nat.le_of_ble_eq_true rfl) (s_X9_held) (by decide) ?_
                exact ng_ireturn dX9_given_134 ⟨_, rfl, by first | (exact absurd (by rw [h90]; decide) h100) | simp [ng_fm, hz, h90, h100], fun k hk => by simp at hk; simp [ng_row, hk]⟩
              · exact absurd h112 (by decide)
        · exact absurd h75 (by decide)
      · exact absurd (by decide) h62
    · exact absurd (by rw [e1]; simp [ng_row]; rw [hz]; decide) h50
  · have hp := ng_fok_pos hw
    have hz : ¬ M 74 175 ≤ 0 := by rw [hn]; exact nI_nle hp (by omega)
    have hz2 : ¬ M 74 175 = 0 := by intro e; rw [e] at hz; exact hz (by decide)
    have hcl : (M 74 175).toNatClampNeg = n := by rw [hn, nI_clamp (by omega)]
    refine ng_aload_0 dX9_given_0 ?_
    refine ng_gR dX9_given_1 fl_X9_39 (by first | rfl | assumption) ?_
    refine ng_iconst_0 dX9_given_4 ?_
    refine ng_iload_2 dX9_given_5 ?_
    refine ng_iast dX9_given_6 (by first | rfl | assumption) (by first | assumption | (unfold vp_in; decide)) ?_
    refine ng_aload_0 dX9_given_7 ?_
    refine ng_gR dX9_given_8 fl_X9_39 (by first | rfl | assumption) ?_
    refine ng_iconst_1 dX9_given_11 ?_
    refine ng_iload_3 dX9_given_12 ?_
    refine ng_iast dX9_given_13 (by first | rfl | assumption) (by first | assumption | (unfold vp_in; decide)) ?_
    refine ng_aload_0 dX9_given_14 ?_
    refine ng_gR dX9_given_15 fl_X9_39 (by first | rfl | assumption) ?_
    refine ng_iconst_2 dX9_given_18 ?_
    refine ng_iload_4 dX9_given_19 ?_
    refine ng_iast dX9_given_21 (by first | rfl | assumption) (by first | assumption | (unfold vp_in; decide)) ?_
    refine ng_aload_0 dX9_given_22 ?_
    refine ng_gR dX9_given_23 fl_X9_39 (by first | rfl | assumption) ?_
    refine ng_iconst_3 dX9_given_26 ?_
    refine ng_iload_5 dX9_given_27 ?_
    refine ng_iast dX9_given_29 (by first | rfl | assumption) (by first | assumption | (unfold vp_in; decide)) ?_
    refine ng_bipush (v := 123) dX9_given_30 (by decide) ?_
    refine ng_bipush (v := 52) dX9_given_32 (by decide) ?_
    refine ng_iload_1 dX9_given_34 ?_
    refine ng_imul dX9_given_35 ?_
    refine ng_iadd dX9_given_36 ?_
    refine ng_iconst_1 dX9_given_37 ?_
    refine ng_iadd dX9_given_38 ?_
    refine ng_istore_6 dX9_given_39 rfl ?_
    refine ng_aload_0 dX9_given_41 ?_
    refine ng_gR dX9_given_42 fl_X9_9 (by first | rfl | assumption) ?_
    refine ng_iload_6 dX9_given_45 ?_
    refine ng_iconst_1 dX9_given_47 ?_
    refine ng_isub dX9_given_48 ?_
    refine ng_iald dX9_given_49 (by first | rfl | assumption) (by first | assumption | (unfold vp_in; decide)) ?_
    refine ng_if_le 57 dX9_given_50 (by decide +kernel) (fun h50 => ?_) (fun h50 => ?_)
    · exact absurd (by rw [e1] at h50; simpa [ng_row] using h50) hz
    · refine ng_iconst_1 dX9_given_53 ?_
      refine ng_goto 58 dX9_given_54 (by decide +kernel) ?_
      refine ng_istore_7 dX9_given_58 rfl ?_
      refine ng_iload_7 dX9_given_60 ?_
      refine ng_if_eq 74 dX9_given_62 (by decide +kernel) (fun h62 => ?_) (fun h62 => ?_)
      · exact absurd h62 (by decide)
      · refine ng_aload_0 dX9_given_65 ?_
        refine ng_iload_6 dX9_given_66 ?_
        refine ng_callV_1i (y2 := mi_X9_worked) dX9_given_68 lk_X9_199 ms_X9_worked my_X9_worked (by first | exact ⟨_, rfl⟩ | assumption | exact ng_fld_obj (f := 0) (by assumption)) mc_X9 (by first | decide | exact Nat.le_of_ble_eq_true rfl) (s_X9_worked (o := 175) (n := n) (a := a) (b := b) (c := c) (d := d) (Or.inr rfl) (by decide) (by simp [ng_row]; exact hn) (fun j hj => by simp [ng_row]; exact hv j (by rw [hcl]; exact hj)) (by simpa [ng_row] using hw) (by simp [ng_row, upd]) (by simp [ng_row, upd]) (by simp [ng_row, upd]) (by simp [ng_row, upd])) (by decide) (fun v M1 hv1 => ?_)
        refine ng_goto 109 dX9_given_71 (by decide +kernel) ?_
        refine ng_istore_8 dX9_given_109 rfl ?_
        refine ng_iload_1 dX9_given_111 ?_
        refine ng_if_ne 126 dX9_given_112 (by decide +kernel) (fun h112 => ?_) (fun h112 => ?_)
        · refine ng_iload_8 dX9_given_126 ?_
          refine ng_bipush (v := (-3)) dX9_given_128 (by decide) ?_
          refine ng_iconst_3 dX9_given_130 ?_
          refine ng_callS_3x (y2 := mi_X9_held) dX9_given_131 lk_X9_203 ms_X9_held my_X9_held (by first | decide | exact Nat.le_of_ble_eq_true rfl) (s_X9_held) (by decide) ?_
          exact ng_ireturn dX9_given_134 ⟨_, rfl, by rw [hv1.1]; simp [ng_fm, ng_giv, hz2, hcl, ng_row], fun k hk => by simp at hk; rw [hv1.2 k hk.2]; simp [ng_row, hk]⟩
        · exact absurd h112 (by decide)
/-- a row as the reference needs it for its years -/
def ng_rok (a : ng_R) : Prop := ng_yok a ∧ ng_tv a 123 ∧ ng_tv a 175
theorem s_X9_plainWorth {X : Nat × (Nat → Int32)} {M : ng_M} {b : Int32} {i : Nat} (hok : ng_rok (M 74)) (hb : b = nI i) (hi : i < 8) : ng_EvI X 4 mi_X9_plainWorth [.ref 73, .int b] M (fun v M' => v = ng_ypl (M 74) i ∧ ng_off [81, 82] M M') := by
  refine ng_EvI.of (lv := [some (.ref 73), some (.int b)]) (ty := .int) (by decide) (Nat.le_of_ble_eq_true rfl) rfl rfl (fun _ _ _ => rfl) ?_
  obtain ⟨⟨-, hl, hf, -⟩, hv, -⟩ := hok
  have e2 : (2 : Int32).toNatClampNeg = 2 := by decide
  have hix : 11 + M 74 (2 : Int32).toNatClampNeg = nI (11 + (M 74 2).toNatClampNeg) := by rw [e2]; exact ng_ix_add 11 hl
  have hll := ng_vp_lt hl
  refine ng_aload_0 dX9_plainWorth_0 ?_
  refine ng_iconst_0 dX9_plainWorth_1 ?_
  refine ng_aload_0 dX9_plainWorth_2 ?_
  refine ng_iload_1 dX9_plainWorth_3 ?_
  refine ng_iconst_1 dX9_plainWorth_4 ?_
  refine ng_callV_2x (y2 := mi_X9_of) dX9_plainWorth_5 lk_X9_108 ms_X9_of my_X9_of (by first | exact ⟨_, rfl⟩ | assumption | exact ng_fld_obj (f := 0) (by assumption)) mc_X9 (by first | decide | exact Nat.le_of_ble_eq_true rfl) (s_X9_of (j := 1) hb rfl hi (by decide)) (by decide) ?_
  refine ng_aload_0 dX9_plainWorth_8 ?_
  refine ng_gR dX9_plainWorth_9 fl_X9_9 (by first | rfl | assumption) ?_
  refine ng_iconst_3 dX9_plainWorth_12 ?_
  refine ng_iald dX9_plainWorth_13 (by first | rfl | assumption) (by first | assumption | (unfold vp_in; decide)) ?_
  refine ng_aload_0 dX9_plainWorth_14 ?_
  refine ng_gR dX9_plainWorth_15 fl_X9_9 (by first | rfl | assumption) ?_
  refine ng_bipush (v := 11) dX9_plainWorth_18 (by decide) ?_
  refine ng_aload_0 dX9_plainWorth_20 ?_
  refine ng_gR dX9_plainWorth_21 fl_X9_9 (by first | rfl | assumption) ?_
  refine ng_iconst_2 dX9_plainWorth_24 ?_
  refine ng_iald dX9_plainWorth_25 (by first | rfl | assumption) (by first | assumption | (unfold vp_in; decide)) ?_
  refine ng_iadd dX9_plainWorth_26 ?_
  refine ng_iald dX9_plainWorth_27 (by first | rfl | assumption) (by rw [hix]; exact vp_in_nI (by omega) (by omega)) ?_
  refine ng_aload_0 dX9_plainWorth_28 ?_
  refine ng_iload_1 dX9_plainWorth_29 ?_
  refine ng_iconst_3 dX9_plainWorth_30 ?_
  refine ng_callV_2x (y2 := mi_X9_of) dX9_plainWorth_31 lk_X9_108 ms_X9_of my_X9_of (by first | exact ⟨_, rfl⟩ | assumption | exact ng_fld_obj (f := 0) (by assumption)) mc_X9 (by first | decide | exact Nat.le_of_ble_eq_true rfl) (s_X9_of (j := 3) hb rfl hi (by decide)) (by decide) ?_
  refine ng_callV_5i (y2 := mi_X9_given) dX9_plainWorth_34 lk_X9_119 ms_X9_given my_X9_given (by first | exact ⟨_, rfl⟩ | assumption | exact ng_fld_obj (f := 0) (by assumption)) mc_X9 (by first | decide | exact Nat.le_of_ble_eq_true rfl) (s_X9_given0 hf hv) (by decide) (fun v M1 hv1 => ?_)
  exact ng_ireturn dX9_plainWorth_37 ⟨_, rfl, by rw [hv1.1, hix, nI_clamp (by omega), show (3 : Int32).toNatClampNeg = 3 from by decide]; rw [ng_ypl, show 21 + 4 * i + 1 = 22 + 4 * i by omega, show 21 + 4 * i + 3 = 24 + 4 * i by omega], hv1.2⟩
theorem s_X9_dueOf {X : Nat × (Nat → Int32)} {M : ng_M} {b t : Int32} {i : Nat} (hb : b = nI i) (hi : i < 8) (ht : vp_in t 10) : ng_EvX X 2 mi_X9_dueOf [.ref 73, .int b, .int t] M (some (.int (ng_ydu (M 74) t i))) M := by
  refine ng_EvX.ofI (lv := [some (.ref 73), some (.int b), some (.int t), none, none]) (ty := .int) (by decide) (Nat.le_of_ble_eq_true rfl) rfl rfl rfl ?_
  have hix : 11 + t = nI (11 + t.toNatClampNeg) := ng_ix_add 11 ht
  have htl := ng_vp_lt ht
  refine ng_aload_0 dX9_dueOf_0 ?_
  refine ng_gR dX9_dueOf_1 fl_X9_9 (by first | rfl | assumption) ?_
  refine ng_bipush (v := 11) dX9_dueOf_4 (by decide) ?_
  refine ng_iload_2 dX9_dueOf_6 ?_
  refine ng_iadd dX9_dueOf_7 ?_
  refine ng_iald dX9_dueOf_8 (by first | rfl | assumption) (by rw [hix]; exact vp_in_nI (by omega) (by omega)) ?_
  refine ng_istore_3 dX9_dueOf_9 rfl ?_
  refine ng_aload_0 dX9_dueOf_10 ?_
  refine ng_iload_1 dX9_dueOf_11 ?_
  refine ng_iconst_0 dX9_dueOf_12 ?_
  refine ng_callV_2x (y2 := mi_X9_of) dX9_dueOf_13 lk_X9_108 ms_X9_of my_X9_of (by first | exact ⟨_, rfl⟩ | assumption | exact ng_fld_obj (f := 0) (by assumption)) mc_X9 (by first | decide | exact Nat.le_of_ble_eq_true rfl) (s_X9_of (j := 0) hb rfl hi (by decide)) (by decide) ?_
  refine ng_istore_4 dX9_dueOf_16 rfl ?_
  refine ng_iload_4 dX9_dueOf_18 ?_
  refine ng_iconst_4 dX9_dueOf_20 ?_
  refine ng_icmp_ne 30 dX9_dueOf_21 (by decide +kernel) (fun h21 => ?_) (fun h21 => ?_)
  · refine ng_iload_4 dX9_dueOf_30 ?_
    refine ng_iconst_5 dX9_dueOf_32 ?_
    refine ng_icmp_ne 44 dX9_dueOf_33 (by decide +kernel) (fun h33 => ?_) (fun h33 => ?_)
    · refine ng_iload_3 dX9_dueOf_44 ?_
      exact ng_ireturn dX9_dueOf_45 ⟨by simp only [Nat.add_zero] at *; rw [hix, nI_clamp (by omega)]; simp [ng_ydu, ng_due, *], rfl⟩
    · refine ng_iconst_2 dX9_dueOf_36 ?_
      refine ng_iload_3 dX9_dueOf_37 ?_
      refine ng_imul dX9_dueOf_38 ?_
      refine ng_iconst_3 dX9_dueOf_39 ?_
      refine ng_idiv dX9_dueOf_40 (by first | decide | assumption) ?_
      refine ng_goto 45 dX9_dueOf_41 (by decide +kernel) ?_
      exact ng_ireturn dX9_dueOf_45 ⟨by simp only [Nat.add_zero] at *; rw [hix, nI_clamp (by omega)]; simp [ng_ydu, ng_due, *], rfl⟩
  · refine ng_iload_3 dX9_dueOf_24 ?_
    refine ng_iconst_2 dX9_dueOf_25 ?_
    refine ng_idiv dX9_dueOf_26 (by first | decide | assumption) ?_
    refine ng_goto 45 dX9_dueOf_27 (by decide +kernel) ?_
    exact ng_ireturn dX9_dueOf_45 ⟨by simp only [Nat.add_zero] at *; rw [hix, nI_clamp (by omega)]; simp [ng_ydu, ng_due, *], rfl⟩
theorem s_X9_isKeeper {X : Nat × (Nat → Int32)} {M : ng_M} {b : Int32} {i : Nat} (hb : b = nI i) (hi : i < 8) : ng_EvX X 2 mi_X9_isKeeper [.ref 73, .int b] M (some (.int (ng_bi (decide (M 74 (21 + 4 * i) = 3) || decide (M 74 (21 + 4 * i) = 4))))) M := by
  refine ng_EvX.ofI (lv := [some (.ref 73), some (.int b)]) (ty := .boolean) (by decide) (Nat.le_of_ble_eq_true rfl) rfl rfl (ng_bi_nar _) ?_
  refine ng_aload_0 dX9_isKeeper_0 ?_
  refine ng_iload_1 dX9_isKeeper_1 ?_
  refine ng_iconst_0 dX9_isKeeper_2 ?_
  refine ng_callV_2x (y2 := mi_X9_of) dX9_isKeeper_3 lk_X9_108 ms_X9_of my_X9_of (by first | exact ⟨_, rfl⟩ | assumption | exact ng_fld_obj (f := 0) (by assumption)) mc_X9 (by first | decide | exact Nat.le_of_ble_eq_true rfl) (s_X9_of (j := 0) hb rfl hi (by decide)) (by decide) ?_
  refine ng_iconst_3 dX9_isKeeper_6 ?_
  refine ng_icmp_eq 20 dX9_isKeeper_7 (by decide +kernel) (fun h7 => ?_) (fun h7 => ?_)
  · refine ng_iconst_1 dX9_isKeeper_20 ?_
    refine ng_goto 25 dX9_isKeeper_21 (by decide +kernel) ?_
    exact ng_ireturn dX9_isKeeper_25 ⟨by simp only [Nat.add_zero] at *; simp [ng_bi, *], rfl⟩
  · refine ng_aload_0 dX9_isKeeper_10 ?_
    refine ng_iload_1 dX9_isKeeper_11 ?_
    refine ng_iconst_0 dX9_isKeeper_12 ?_
    refine ng_callV_2x (y2 := mi_X9_of) dX9_isKeeper_13 lk_X9_108 ms_X9_of my_X9_of (by first | exact ⟨_, rfl⟩ | assumption | exact ng_fld_obj (f := 0) (by assumption)) mc_X9 (by first | decide | exact Nat.le_of_ble_eq_true rfl) (s_X9_of (j := 0) hb rfl hi (by decide)) (by decide) ?_
    refine ng_iconst_4 dX9_isKeeper_16 ?_
    refine ng_icmp_ne 24 dX9_isKeeper_17 (by decide +kernel) (fun h17 => ?_) (fun h17 => ?_)
    · refine ng_iconst_0 dX9_isKeeper_24 ?_
      exact ng_ireturn dX9_isKeeper_25 ⟨by simp only [Nat.add_zero] at *; simp [ng_bi, *], rfl⟩
    · refine ng_iconst_1 dX9_isKeeper_20 ?_
      refine ng_goto 25 dX9_isKeeper_21 (by decide +kernel) ?_
      exact ng_ireturn dX9_isKeeper_25 ⟨by simp only [Nat.add_zero] at *; simp [ng_bi, *], rfl⟩
theorem s_X9_worthOf {X : Nat × (Nat → Int32)} {M : ng_M} {b t : Int32} {i : Nat} (hok : ng_rok (M 74)) (hb : b = nI i) (hi : i < 8) : ng_EvI X 5 mi_X9_worthOf [.ref 73, .int b, .int t] M (fun v M' => v = ng_worth (M 74 (21 + 4 * i)) (ng_ypl (M 74) i) (M 74 (24 + 4 * i)) (M 74 3) (M 74 2) t ∧ ng_off [81, 82] M M') := by
  refine ng_EvI.of (lv := [some (.ref 73), some (.int b), some (.int t), none, none, none]) (ty := .int) (by decide) (Nat.le_of_ble_eq_true rfl) rfl rfl (fun _ _ _ => rfl) ?_
  have z0 : ∀ x : Int32, x + 0 = x := fun x => Int32.add_zero x
  refine ng_aload_0 dX9_worthOf_0 ?_
  refine ng_iload_1 dX9_worthOf_1 ?_
  refine ng_callV_1i (y2 := mi_X9_plainWorth) dX9_worthOf_2 lk_X9_123 ms_X9_plainWorth my_X9_plainWorth (by first | exact ⟨_, rfl⟩ | assumption | exact ng_fld_obj (f := 0) (by assumption)) mc_X9 (by first | decide | exact Nat.le_of_ble_eq_true rfl) (s_X9_plainWorth hok hb hi) (by decide) (fun pl M1 hp => ?_)
  obtain ⟨hp1, hp2⟩ := hp
  have e74 : M1 74 = M 74 := hp2 74 (by simp)
  have c3 : (3 : Int32).toNatClampNeg = 3 := by decide
  have c2 : (2 : Int32).toNatClampNeg = 2 := by decide
  refine ng_istore_3 dX9_worthOf_5 rfl ?_
  refine ng_iload_3 dX9_worthOf_6 ?_
  refine ng_iload_2 dX9_worthOf_7 ?_
  refine ng_aload_0 dX9_worthOf_8 ?_
  refine ng_gR dX9_worthOf_9 fl_X9_9 (by first | rfl | assumption) ?_
  refine ng_iconst_2 dX9_worthOf_12 ?_
  refine ng_iald dX9_worthOf_13 (by first | rfl | assumption) (by first | assumption | (unfold vp_in; decide)) ?_
  refine ng_icmp_le 23 dX9_worthOf_14 (by decide +kernel) (fun h14 => ?_) (fun h14 => ?_)
  · refine ng_iconst_0 dX9_worthOf_23 ?_
    refine ng_iadd dX9_worthOf_24 ?_
    refine ng_istore_4 dX9_worthOf_25 rfl ?_
    refine ng_aload_0 dX9_worthOf_27 ?_
    refine ng_iload_1 dX9_worthOf_28 ?_
    refine ng_iconst_3 dX9_worthOf_29 ?_
    refine ng_callV_2x (y2 := mi_X9_of) dX9_worthOf_30 lk_X9_108 ms_X9_of my_X9_of (by first | exact ⟨_, rfl⟩ | assumption | exact ng_fld_obj (f := 0) (by assumption)) mc_X9 (by first | decide | exact Nat.le_of_ble_eq_true rfl) (s_X9_of (j := 3) hb rfl hi (by decide)) (by decide) ?_
    refine ng_bipush (v := 6) dX9_worthOf_33 (by decide) ?_
    refine ng_icmp_lt 42 dX9_worthOf_35 (by decide +kernel) (fun h35 => ?_) (fun h35 => ?_)
    · refine ng_iload_3 dX9_worthOf_42 ?_
      refine ng_istore_5 dX9_worthOf_43 rfl ?_
      refine ng_aload_0 dX9_worthOf_45 ?_
      refine ng_iload_1 dX9_worthOf_46 ?_
      refine ng_iconst_0 dX9_worthOf_47 ?_
      refine ng_callV_2x (y2 := mi_X9_of) dX9_worthOf_48 lk_X9_108 ms_X9_of my_X9_of (by first | exact ⟨_, rfl⟩ | assumption | exact ng_fld_obj (f := 0) (by assumption)) mc_X9 (by first | decide | exact Nat.le_of_ble_eq_true rfl) (s_X9_of (j := 0) hb rfl hi (by decide)) (by decide) ?_
      refine sw_X9_worthOf_51 (fun h51 => ?_) (fun h51 => ?_) (fun h51 => ?_) (fun h51 => ?_) (fun h51 => ?_) (fun h51 => ?_) (fun h51n0 h51n1 h51n2 h51n3 h51n4 h51n5 => ?_)
      · refine ng_iload_4 dX9_worthOf_88 ?_
        exact ng_ireturn dX9_worthOf_90 ⟨_, rfl, by simp only [Nat.add_zero, c2, c3, e74, show 21 + 4 * i + 3 = 24 + 4 * i by omega] at *; simp [ng_worth, ng_risen, *], hp2⟩
      · refine ng_iload_4 dX9_worthOf_91 ?_
        refine ng_iconst_3 dX9_worthOf_93 ?_
        refine ng_aload_0 dX9_worthOf_94 ?_
        refine ng_iload_1 dX9_worthOf_95 ?_
        refine ng_iconst_3 dX9_worthOf_96 ?_
        refine ng_callV_2x (y2 := mi_X9_of) dX9_worthOf_97 lk_X9_108 ms_X9_of my_X9_of (by first | exact ⟨_, rfl⟩ | assumption | exact ng_fld_obj (f := 0) (by assumption)) mc_X9 (by first | decide | exact Nat.le_of_ble_eq_true rfl) (s_X9_of (j := 3) hb rfl hi (by decide)) (by decide) ?_
        refine ng_imul dX9_worthOf_100 ?_
        refine ng_isub dX9_worthOf_101 ?_
        exact ng_ireturn dX9_worthOf_102 ⟨_, rfl, by simp only [Nat.add_zero, c2, c3, e74, show 21 + 4 * i + 3 = 24 + 4 * i by omega] at *; simp [ng_worth, ng_risen, *], hp2⟩
      · refine ng_iload_5 dX9_worthOf_103 ?_
        exact ng_ireturn dX9_worthOf_105 ⟨_, rfl, by simp only [Nat.add_zero, c2, c3, e74, show 21 + 4 * i + 3 = 24 + 4 * i by omega] at *; simp [ng_worth, ng_risen, *], hp2⟩
      · refine ng_iconst_2 dX9_worthOf_106 ?_
        refine ng_iload_5 dX9_worthOf_107 ?_
        refine ng_imul dX9_worthOf_109 ?_
        exact ng_ireturn dX9_worthOf_110 ⟨_, rfl, by simp only [Nat.add_zero, c2, c3, e74, show 21 + 4 * i + 3 = 24 + 4 * i by omega] at *; simp [ng_worth, ng_risen, *], hp2⟩
      · refine ng_iload_3 dX9_worthOf_111 ?_
        refine ng_iconst_2 dX9_worthOf_112 ?_
        refine ng_idiv dX9_worthOf_113 (by first | decide | assumption) ?_
        exact ng_ireturn dX9_worthOf_114 ⟨_, rfl, by simp only [Nat.add_zero, c2, c3, e74, show 21 + 4 * i + 3 = 24 + 4 * i by omega] at *; simp [ng_worth, ng_risen, *], hp2⟩
      · refine ng_iload_4 dX9_worthOf_115 ?_
        refine ng_iconst_5 dX9_worthOf_117 ?_
        refine ng_aload_0 dX9_worthOf_118 ?_
        refine ng_gR dX9_worthOf_119 fl_X9_9 (by first | rfl | assumption) ?_
        refine ng_iconst_3 dX9_worthOf_122 ?_
        refine ng_iald dX9_worthOf_123 (by first | rfl | assumption) (by first | assumption | (unfold vp_in; decide)) ?_
        refine ng_imul dX9_worthOf_124 ?_
        refine ng_iadd dX9_worthOf_125 ?_
        exact ng_ireturn dX9_worthOf_126 ⟨_, rfl, by simp only [Nat.add_zero, c2, c3, e74, show 21 + 4 * i + 3 = 24 + 4 * i by omega] at *; simp [ng_worth, ng_risen, *], hp2⟩
      · refine ng_iload_3 dX9_worthOf_127 ?_
        exact ng_ireturn dX9_worthOf_128 ⟨_, rfl, by simp only [Nat.add_zero, c2, c3, e74, show 21 + 4 * i + 3 = 24 + 4 * i by omega] at *; simp [ng_worth, ng_risen, *], hp2⟩
    · refine ng_iconst_0 dX9_worthOf_38 ?_
      refine ng_goto 43 dX9_worthOf_39 (by decide +kernel) ?_
      refine ng_istore_5 dX9_worthOf_43 rfl ?_
      refine ng_aload_0 dX9_worthOf_45 ?_
      refine ng_iload_1 dX9_worthOf_46 ?_
      refine ng_iconst_0 dX9_worthOf_47 ?_
      refine ng_callV_2x (y2 := mi_X9_of) dX9_worthOf_48 lk_X9_108 ms_X9_of my_X9_of (by first | exact ⟨_, rfl⟩ | assumption | exact ng_fld_obj (f := 0) (by assumption)) mc_X9 (by first | decide | exact Nat.le_of_ble_eq_true rfl) (s_X9_of (j := 0) hb rfl hi (by decide)) (by decide) ?_
      refine sw_X9_worthOf_51 (fun h51 => ?_) (fun h51 => ?_) (fun h51 => ?_) (fun h51 => ?_) (fun h51 => ?_) (fun h51 => ?_) (fun h51n0 h51n1 h51n2 h51n3 h51n4 h51n5 => ?_)
      · refine ng_iload_4 dX9_worthOf_88 ?_
        exact ng_ireturn dX9_worthOf_90 ⟨_, rfl, by simp only [Nat.add_zero, c2, c3, e74, show 21 + 4 * i + 3 = 24 + 4 * i by omega] at *; simp [ng_worth, ng_risen, *], hp2⟩
      · refine ng_iload_4 dX9_worthOf_91 ?_
        refine ng_iconst_3 dX9_worthOf_93 ?_
        refine ng_aload_0 dX9_worthOf_94 ?_
        refine ng_iload_1 dX9_worthOf_95 ?_
        refine ng_iconst_3 dX9_worthOf_96 ?_
        refine ng_callV_2x (y2 := mi_X9_of) dX9_worthOf_97 lk_X9_108 ms_X9_of my_X9_of (by first | exact ⟨_, rfl⟩ | assumption | exact ng_fld_obj (f := 0) (by assumption)) mc_X9 (by first | decide | exact Nat.le_of_ble_eq_true rfl) (s_X9_of (j := 3) hb rfl hi (by decide)) (by decide) ?_
        refine ng_imul dX9_worthOf_100 ?_
        refine ng_isub dX9_worthOf_101 ?_
        exact ng_ireturn dX9_worthOf_102 ⟨_, rfl, by simp only [Nat.add_zero, c2, c3, e74, show 21 + 4 * i + 3 = 24 + 4 * i by omega] at *; simp [ng_worth, ng_risen, *], hp2⟩
      · refine ng_iload_5 dX9_worthOf_103 ?_
        exact ng_ireturn dX9_worthOf_105 ⟨_, rfl, by simp only [Nat.add_zero, c2, c3, e74, show 21 + 4 * i + 3 = 24 + 4 * i by omega] at *; simp [ng_worth, ng_risen, *], hp2⟩
      · refine ng_iconst_2 dX9_worthOf_106 ?_
        refine ng_iload_5 dX9_worthOf_107 ?_
        refine ng_imul dX9_worthOf_109 ?_
        exact ng_ireturn dX9_worthOf_110 ⟨_, rfl, by simp only [Nat.add_zero, c2, c3, e74, show 21 + 4 * i + 3 = 24 + 4 * i by omega] at *; simp [ng_worth, ng_risen, *], hp2⟩
      · refine ng_iload_3 dX9_worthOf_111 ?_
        refine ng_iconst_2 dX9_worthOf_112 ?_
        refine ng_idiv dX9_worthOf_113 (by first | decide | assumption) ?_
        exact ng_ireturn dX9_worthOf_114 ⟨_, rfl, by simp only [Nat.add_zero, c2, c3, e74, show 21 + 4 * i + 3 = 24 + 4 * i by omega] at *; simp [ng_worth, ng_risen, *], hp2⟩
      · refine ng_iload_4 dX9_worthOf_115 ?_
        refine ng_iconst_5 dX9_worthOf_117 ?_
        refine ng_aload_0 dX9_worthOf_118 ?_
        refine ng_gR dX9_worthOf_119 fl_X9_9 (by first | rfl | assumption) ?_
        refine ng_iconst_3 dX9_worthOf_122 ?_
        refine ng_iald dX9_worthOf_123 (by first | rfl | assumption) (by first | assumption | (unfold vp_in; decide)) ?_
        refine ng_imul dX9_worthOf_124 ?_
        refine ng_iadd dX9_worthOf_125 ?_
        exact ng_ireturn dX9_worthOf_126 ⟨_, rfl, by simp only [Nat.add_zero, c2, c3, e74, show 21 + 4 * i + 3 = 24 + 4 * i by omega] at *; simp [ng_worth, ng_risen, *], hp2⟩
      · refine ng_iload_3 dX9_worthOf_127 ?_
        exact ng_ireturn dX9_worthOf_128 ⟨_, rfl, by simp only [Nat.add_zero, c2, c3, e74, show 21 + 4 * i + 3 = 24 + 4 * i by omega] at *; simp [ng_worth, ng_risen, *], hp2⟩
  · refine ng_iload_3 dX9_worthOf_17 ?_
    refine ng_iconst_5 dX9_worthOf_18 ?_
    refine ng_idiv dX9_worthOf_19 (by first | decide | assumption) ?_
    refine ng_goto 24 dX9_worthOf_20 (by decide +kernel) ?_
    refine ng_iadd dX9_worthOf_24 ?_
    refine ng_istore_4 dX9_worthOf_25 rfl ?_
    refine ng_aload_0 dX9_worthOf_27 ?_
    refine ng_iload_1 dX9_worthOf_28 ?_
    refine ng_iconst_3 dX9_worthOf_29 ?_
    refine ng_callV_2x (y2 := mi_X9_of) dX9_worthOf_30 lk_X9_108 ms_X9_of my_X9_of (by first | exact ⟨_, rfl⟩ | assumption | exact ng_fld_obj (f := 0) (by assumption)) mc_X9 (by first | decide | exact Nat.le_of_ble_eq_true rfl) (s_X9_of (j := 3) hb rfl hi (by decide)) (by decide) ?_
    refine ng_bipush (v := 6) dX9_worthOf_33 (by decide) ?_
    refine ng_icmp_lt 42 dX9_worthOf_35 (by decide +kernel) (fun h35 => ?_) (fun h35 => ?_)
    · refine ng_iload_3 dX9_worthOf_42 ?_
      refine ng_istore_5 dX9_worthOf_43 rfl ?_
      refine ng_aload_0 dX9_worthOf_45 ?_
      refine ng_iload_1 dX9_worthOf_46 ?_
      refine ng_iconst_0 dX9_worthOf_47 ?_
      refine ng_callV_2x (y2 := mi_X9_of) dX9_worthOf_48 lk_X9_108 ms_X9_of my_X9_of (by first | exact ⟨_, rfl⟩ | assumption | exact ng_fld_obj (f := 0) (by assumption)) mc_X9 (by first | decide | exact Nat.le_of_ble_eq_true rfl) (s_X9_of (j := 0) hb rfl hi (by decide)) (by decide) ?_
      refine sw_X9_worthOf_51 (fun h51 => ?_) (fun h51 => ?_) (fun h51 => ?_) (fun h51 => ?_) (fun h51 => ?_) (fun h51 => ?_) (fun h51n0 h51n1 h51n2 h51n3 h51n4 h51n5 => ?_)
      · refine ng_iload_4 dX9_worthOf_88 ?_
        exact ng_ireturn dX9_worthOf_90 ⟨_, rfl, by simp only [Nat.add_zero, c2, c3, e74, show 21 + 4 * i + 3 = 24 + 4 * i by omega] at *; simp [ng_worth, ng_risen, *], hp2⟩
      · refine ng_iload_4 dX9_worthOf_91 ?_
        refine ng_iconst_3 dX9_worthOf_93 ?_
        refine ng_aload_0 dX9_worthOf_94 ?_
        refine ng_iload_1 dX9_worthOf_95 ?_
        refine ng_iconst_3 dX9_worthOf_96 ?_
        refine ng_callV_2x (y2 := mi_X9_of) dX9_worthOf_97 lk_X9_108 ms_X9_of my_X9_of (by first | exact ⟨_, rfl⟩ | assumption | exact ng_fld_obj (f := 0) (by assumption)) mc_X9 (by first | decide | exact Nat.le_of_ble_eq_true rfl) (s_X9_of (j := 3) hb rfl hi (by decide)) (by decide) ?_
        refine ng_imul dX9_worthOf_100 ?_
        refine ng_isub dX9_worthOf_101 ?_
        exact ng_ireturn dX9_worthOf_102 ⟨_, rfl, by simp only [Nat.add_zero, c2, c3, e74, show 21 + 4 * i + 3 = 24 + 4 * i by omega] at *; simp [ng_worth, ng_risen, *], hp2⟩
      · refine ng_iload_5 dX9_worthOf_103 ?_
        exact ng_ireturn dX9_worthOf_105 ⟨_, rfl, by simp only [Nat.add_zero, c2, c3, e74, show 21 + 4 * i + 3 = 24 + 4 * i by omega] at *; simp [ng_worth, ng_risen, *], hp2⟩
      · refine ng_iconst_2 dX9_worthOf_106 ?_
        refine ng_iload_5 dX9_worthOf_107 ?_
        refine ng_imul dX9_worthOf_109 ?_
        exact ng_ireturn dX9_worthOf_110 ⟨_, rfl, by simp only [Nat.add_zero, c2, c3, e74, show 21 + 4 * i + 3 = 24 + 4 * i by omega] at *; simp [ng_worth, ng_risen, *], hp2⟩
      · refine ng_iload_3 dX9_worthOf_111 ?_
        refine ng_iconst_2 dX9_worthOf_112 ?_
        refine ng_idiv dX9_worthOf_113 (by first | decide | assumption) ?_
        exact ng_ireturn dX9_worthOf_114 ⟨_, rfl, by simp only [Nat.add_zero, c2, c3, e74, show 21 + 4 * i + 3 = 24 + 4 * i by omega] at *; simp [ng_worth, ng_risen, *], hp2⟩
      · refine ng_iload_4 dX9_worthOf_115 ?_
        refine ng_iconst_5 dX9_worthOf_117 ?_
        refine ng_aload_0 dX9_worthOf_118 ?_
        refine ng_gR dX9_worthOf_119 fl_X9_9 (by first | rfl | assumption) ?_
        refine ng_iconst_3 dX9_worthOf_122 ?_
        refine ng_iald dX9_worthOf_123 (by first | rfl | assumption) (by first | assumption | (unfold vp_in; decide)) ?_
        refine ng_imul dX9_worthOf_124 ?_
        refine ng_iadd dX9_worthOf_125 ?_
        exact ng_ireturn dX9_worthOf_126 ⟨_, rfl, by simp only [Nat.add_zero, c2, c3, e74, show 21 + 4 * i + 3 = 24 + 4 * i by omega] at *; simp [ng_worth, ng_risen, *], hp2⟩
      · refine ng_iload_3 dX9_worthOf_127 ?_
        exact ng_ireturn dX9_worthOf_128 ⟨_, rfl, by simp only [Nat.add_zero, c2, c3, e74, show 21 + 4 * i + 3 = 24 + 4 * i by omega] at *; simp [ng_worth, ng_risen, *], hp2⟩
    · refine ng_iconst_0 dX9_worthOf_38 ?_
      refine ng_goto 43 dX9_worthOf_39 (by decide +kernel) ?_
      refine ng_istore_5 dX9_worthOf_43 rfl ?_
      refine ng_aload_0 dX9_worthOf_45 ?_
      refine ng_iload_1 dX9_worthOf_46 ?_
      refine ng_iconst_0 dX9_worthOf_47 ?_
      refine ng_callV_2x (y2 := mi_X9_of) dX9_worthOf_48 lk_X9_108 ms_X9_of my_X9_of (by first | exact ⟨_, rfl⟩ | assumption | exact ng_fld_obj (f := 0) (by assumption)) mc_X9 (by first | decide | exact Nat.le_of_ble_eq_true rfl) (s_X9_of (j := 0) hb rfl hi (by decide)) (by decide) ?_
      refine sw_X9_worthOf_51 (fun h51 => ?_) (fun h51 => ?_) (fun h51 => ?_) (fun h51 => ?_) (fun h51 => ?_) (fun h51 => ?_) (fun h51n0 h51n1 h51n2 h51n3 h51n4 h51n5 => ?_)
      · refine ng_iload_4 dX9_worthOf_88 ?_
        exact ng_ireturn dX9_worthOf_90 ⟨_, rfl, by simp only [Nat.add_zero, c2, c3, e74, show 21 + 4 * i + 3 = 24 + 4 * i by omega] at *; simp [ng_worth, ng_risen, *], hp2⟩
      · refine ng_iload_4 dX9_worthOf_91 ?_
        refine ng_iconst_3 dX9_worthOf_93 ?_
        refine ng_aload_0 dX9_worthOf_94 ?_
        refine ng_iload_1 dX9_worthOf_95 ?_
        refine ng_iconst_3 dX9_worthOf_96 ?_
        refine ng_callV_2x (y2 := mi_X9_of) dX9_worthOf_97 lk_X9_108 ms_X9_of my_X9_of (by first | exact ⟨_, rfl⟩ | assumption | exact ng_fld_obj (f := 0) (by assumption)) mc_X9 (by first | decide | exact Nat.le_of_ble_eq_true rfl) (s_X9_of (j := 3) hb rfl hi (by decide)) (by decide) ?_
        refine ng_imul dX9_worthOf_100 ?_
        refine ng_isub dX9_worthOf_101 ?_
        exact ng_ireturn dX9_worthOf_102 ⟨_, rfl, by simp only [Nat.add_zero, c2, c3, e74, show 21 + 4 * i + 3 = 24 + 4 * i by omega] at *; simp [ng_worth, ng_risen, *], hp2⟩
      · refine ng_iload_5 dX9_worthOf_103 ?_
        exact ng_ireturn dX9_worthOf_105 ⟨_, rfl, by simp only [Nat.add_zero, c2, c3, e74, show 21 + 4 * i + 3 = 24 + 4 * i by omega] at *; simp [ng_worth, ng_risen, *], hp2⟩
      · refine ng_iconst_2 dX9_worthOf_106 ?_
        refine ng_iload_5 dX9_worthOf_107 ?_
        refine ng_imul dX9_worthOf_109 ?_
        exact ng_ireturn dX9_worthOf_110 ⟨_, rfl, by simp only [Nat.add_zero, c2, c3, e74, show 21 + 4 * i + 3 = 24 + 4 * i by omega] at *; simp [ng_worth, ng_risen, *], hp2⟩
      · refine ng_iload_3 dX9_worthOf_111 ?_
        refine ng_iconst_2 dX9_worthOf_112 ?_
        refine ng_idiv dX9_worthOf_113 (by first | decide | assumption) ?_
        exact ng_ireturn dX9_worthOf_114 ⟨_, rfl, by simp only [Nat.add_zero, c2, c3, e74, show 21 + 4 * i + 3 = 24 + 4 * i by omega] at *; simp [ng_worth, ng_risen, *], hp2⟩
      · refine ng_iload_4 dX9_worthOf_115 ?_
        refine ng_iconst_5 dX9_worthOf_117 ?_
        refine ng_aload_0 dX9_worthOf_118 ?_
        refine ng_gR dX9_worthOf_119 fl_X9_9 (by first | rfl | assumption) ?_
        refine ng_iconst_3 dX9_worthOf_122 ?_
        refine ng_iald dX9_worthOf_123 (by first | rfl | assumption) (by first | assumption | (unfold vp_in; decide)) ?_
        refine ng_imul dX9_worthOf_124 ?_
        refine ng_iadd dX9_worthOf_125 ?_
        exact ng_ireturn dX9_worthOf_126 ⟨_, rfl, by simp only [Nat.add_zero, c2, c3, e74, show 21 + 4 * i + 3 = 24 + 4 * i by omega] at *; simp [ng_worth, ng_risen, *], hp2⟩
      · refine ng_iload_3 dX9_worthOf_127 ?_
        exact ng_ireturn dX9_worthOf_128 ⟨_, rfl, by simp only [Nat.add_zero, c2, c3, e74, show 21 + 4 * i + 3 = 24 + 4 * i by omega] at *; simp [ng_worth, ng_risen, *], hp2⟩
