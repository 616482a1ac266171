/-! ===== the class: what texts give, held; a year ===== -/
/-- nothing but these cells has changed -/
def ng_off (S : List Nat) (M M' : ng_M) : Prop := ∀ k, k ∉ S → M' k = M k
theorem ng_off.rf {S : List Nat} {M : ng_M} : ng_off S M M := fun _ _ => rfl
theorem ng_off.tr {S : List Nat} {M M1 M2 : ng_M} (h1 : ng_off S M M1) (h2 : ng_off S M1 M2) : ng_off S M M2 := fun k hk => (h2 k hk).trans (h1 k hk)
theorem ng_off.mono {S T : List Nat} {M M1 : ng_M} (h1 : ng_off S M M1) (h : ∀ k ∈ S, k ∈ T) : ng_off T M M1 := fun k hk => h1 k (fun q => hk (h k q))
theorem ng_off.row {S : List Nat} {M M1 : ng_M} {k : Nat} {g : Nat → Int32} (h1 : ng_off S M M1) (h : k ∈ S) : ng_off S M (ng_row M1 k g) := fun j hj => by
  have e : j ≠ k := fun e => hj (by rw [e]; exact h)
  rw [ng_row_ne e]
  exact h1 j hj
def ng_giv (c : Nat → Int32) (L a b c' d : Int32) : Int32 := (ng_run (ng_n4 a b c' d) c L.toNatClampNeg).headD 0
def ng_pw (c : Nat → Int32) (L w n l h : Int32) : Int32 := ng_held (if L = 0 then w + n * 5 - h else ng_giv c L w n l h) 0 99999
def ng_fm (c : Nat → Int32) (L s k n u : Int32) : Int32 := ng_held (if L = 0 then (if k = 0 then 1 else 0) - (if k ≤ 3 then 0 else 1) else ng_giv c L s k n u) (-3) 3
def ng_fok (c : Nat → Int32) (L : Int32) : Prop := ∃ n, L = nI n ∧ n ≤ 50 ∧ (n = 0 ∨ ng_wt c n)
theorem ng_fok_wt {c : Nat → Int32} {L : Int32} (h : ng_fok c L) (h0 : ¬ L = 0) : ∃ n, L = nI n ∧ ng_wt c n ∧ L.toNatClampNeg = n := by
  obtain ⟨n, h1, h2, h3⟩ := h
  rcases h3 with rfl | h3
  · exact absurd (by rw [h1]; rfl) h0
  · exact ⟨n, h1, h3, by rw [h1, nI_clamp (by omega)]⟩
theorem s_X3_plainWorth {X : Nat × (Nat → Int32)} {M : ng_M} {w n l h : Int32} (hfk : ng_fok (M 8) (M 7 1)) : ng_EvI X 3 mi_X3_plainWorth [.ref 2, .int w, .int n, .int l, .int h] M (fun v M' => v = ng_pw (M 8) (M 7 1) w n l h ∧ ng_off [9, 10] M M') := by
  have hF : ng_isF 7 := Or.inl rfl
  refine ng_EvI.of (lv := [some (.ref 2), some (.int w), some (.int n), some (.int l), some (.int h), none]) (ty := .int) (by decide) (Nat.le_of_ble_eq_true rfl) rfl rfl (fun _ _ _ => rfl) ?_
  refine ng_aload_0 dX3_plainWorth_0 ?_
  refine ng_gR dX3_plainWorth_1 fl_X3_27 (by first | rfl | assumption) ?_
  refine ng_callV_0x (y2 := mi_X0_isMissing) dX3_plainWorth_4 lk_X3_58 ms_X0_isMissing my_X0_isMissing (by first | exact ⟨_, rfl⟩ | assumption | exact ng_fld_obj (f := 0) (by assumption)) mc_X0 (by first | decide | exact Nat.le_of_ble_eq_true rfl) (s_X0_isMissing (by assumption)) (by decide) ?_
  refine ng_ifb_eq 21 dX3_plainWorth_7 (by decide +kernel) (fun h7 => ?_) (fun h7 => ?_)
  · obtain ⟨m, hm, hw, hmm⟩ := ng_fok_wt hfk (by simpa using h7)
    refine ng_aload_0 dX3_plainWorth_21 ?_
    refine ng_gR dX3_plainWorth_22 fl_X3_27 (by first | rfl | assumption) ?_
    refine ng_iload_1 dX3_plainWorth_25 ?_
    refine ng_iload_2 dX3_plainWorth_26 ?_
    refine ng_iload_3 dX3_plainWorth_27 ?_
    refine ng_iload_4 dX3_plainWorth_28 ?_
    refine ng_callV_4i (y2 := mi_X0_gives) dX3_plainWorth_30 lk_X3_62 ms_X0_gives my_X0_gives (by first | exact ⟨_, rfl⟩ | assumption | exact ng_fld_obj (f := 0) (by assumption)) mc_X0 (by first | decide | exact Nat.le_of_ble_eq_true rfl) (s_X0_gives hF hm hw) (by decide) (fun v M1 hv => ?_)
    refine ng_istore_5 dX3_plainWorth_33 rfl ?_
    refine ng_iload_5 dX3_plainWorth_35 ?_
    refine ng_iconst_0 dX3_plainWorth_37 ?_
    refine ng_ldc dX3_plainWorth_38 kc_X3_66 ?_
    refine ng_callSN_3x (y2 := mi_X8_held) dX3_plainWorth_40 (by decide : (RX3, 67, yX8_held, "NinePots") ∈ ng_nm) ms_X8_held my_X8_held (by first | decide | exact Nat.le_of_ble_eq_true rfl) (s_X8_held) (by decide) ?_
    exact ng_ireturn dX3_plainWorth_43 ⟨_, rfl, by first | (obtain ⟨hv1, hv2⟩ := hv; simp at h7; simp [ng_pw, ng_giv, h7, hv1, hmm]; done) | (simp at h7; simp [ng_pw, h7]), by first | exact ng_off.rf | exact fun k hk => hv.2 k (by simp at hk; omega) (by simp at hk; omega)⟩
  · refine ng_iload_1 dX3_plainWorth_10 ?_
    refine ng_iload_2 dX3_plainWorth_11 ?_
    refine ng_iconst_5 dX3_plainWorth_12 ?_
    refine ng_imul dX3_plainWorth_13 ?_
    refine ng_iadd dX3_plainWorth_14 ?_
    refine ng_iload_4 dX3_plainWorth_15 ?_
    refine ng_isub dX3_plainWorth_17 ?_
    refine ng_goto 33 dX3_plainWorth_18 (by decide +kernel) ?_
    refine ng_istore_5 dX3_plainWorth_33 rfl ?_
    refine ng_iload_5 dX3_plainWorth_35 ?_
    refine ng_iconst_0 dX3_plainWorth_37 ?_
    refine ng_ldc dX3_plainWorth_38 kc_X3_66 ?_
    refine ng_callSN_3x (y2 := mi_X8_held) dX3_plainWorth_40 (by decide : (RX3, 67, yX8_held, "NinePots") ∈ ng_nm) ms_X8_held my_X8_held (by first | decide | exact Nat.le_of_ble_eq_true rfl) (s_X8_held) (by decide) ?_
    exact ng_ireturn dX3_plainWorth_43 ⟨_, rfl, by first | (obtain ⟨hv1, hv2⟩ := hv; simp at h7; simp [ng_pw, ng_giv, h7, hv1, hmm]; done) | (simp at h7; simp [ng_pw, h7]), by first | exact ng_off.rf | exact fun k hk => hv.2 k (by simp at hk; omega) (by simp at hk; omega)⟩
theorem s_X3_fame {X : Nat × (Nat → Int32)} {M : ng_M} {s k n u : Int32} (hfk : ng_fok (M 12) (M 11 1)) : ng_EvI X 3 mi_X3_fame [.ref 2, .int s, .int k, .int n, .int u] M (fun v M' => v = ng_fm (M 12) (M 11 1) s k n u ∧ ng_off [13, 14] M M') := by
  have hF : ng_isF 11 := Or.inr (Or.inl rfl)
  refine ng_EvI.of (lv := [some (.ref 2), some (.int s), some (.int k), some (.int n), some (.int u), none]) (ty := .int) (by decide) (Nat.le_of_ble_eq_true rfl) rfl rfl (fun _ _ _ => rfl) ?_
  refine ng_aload_0 dX3_fame_0 ?_
  refine ng_gR dX3_fame_1 fl_X3_31 (by first | rfl | assumption) ?_
  refine ng_callV_0x (y2 := mi_X0_isMissing) dX3_fame_4 lk_X3_58 ms_X0_isMissing my_X0_isMissing (by first | exact ⟨_, rfl⟩ | assumption | exact ng_fld_obj (f := 0) (by assumption)) mc_X0 (by first | decide | exact Nat.le_of_ble_eq_true rfl) (s_X0_isMissing (by assumption)) (by decide) ?_
  refine ng_ifb_eq 33 dX3_fame_7 (by decide +kernel) (fun h7 => ?_) (fun h7 => ?_)
  · obtain ⟨m, hm, hw, hmm⟩ := ng_fok_wt hfk (by simpa using h7)
    refine ng_aload_0 dX3_fame_33 ?_
    refine ng_gR dX3_fame_34 fl_X3_31 (by first | rfl | assumption) ?_
    refine ng_iload_1 dX3_fame_37 ?_
    refine ng_iload_2 dX3_fame_38 ?_
    refine ng_iload_3 dX3_fame_39 ?_
    refine ng_iload_4 dX3_fame_40 ?_
    refine ng_callV_4i (y2 := mi_X0_gives) dX3_fame_42 lk_X3_62 ms_X0_gives my_X0_gives (by first | exact ⟨_, rfl⟩ | assumption | exact ng_fld_obj (f := 0) (by assumption)) mc_X0 (by first | decide | exact Nat.le_of_ble_eq_true rfl) (s_X0_gives hF hm hw) (by decide) (fun v M1 hv => ?_)
    refine ng_istore_5 dX3_fame_45 rfl ?_
    refine ng_iload_5 dX3_fame_47 ?_
    refine ng_bipush (v := (-3)) dX3_fame_49 (by decide) ?_
    refine ng_iconst_3 dX3_fame_51 ?_
    refine ng_callSN_3x (y2 := mi_X8_held) dX3_fame_52 (by decide : (RX3, 67, yX8_held, "NinePots") ∈ ng_nm) ms_X8_held my_X8_held (by first | decide | exact Nat.le_of_ble_eq_true rfl) (s_X8_held) (by decide) ?_
    exact ng_ireturn dX3_fame_55 ⟨_, rfl, by first | (obtain ⟨hv1, hv2⟩ := hv; simp at h7; simp [ng_fm, ng_giv, h7, hv1, hmm]; done) | (exact absurd (by rw [h11]; decide) h21) | (simp at h7; simp [ng_fm, h7, h11, h21]), by first | exact ng_off.rf | exact fun k hk => hv.2 k (by simp at hk; omega) (by simp at hk; omega)⟩
  · refine ng_iload_2 dX3_fame_10 ?_
    refine ng_if_ne 18 dX3_fame_11 (by decide +kernel) (fun h11 => ?_) (fun h11 => ?_)
    · refine ng_iconst_0 dX3_fame_18 ?_
      refine ng_iload_2 dX3_fame_19 ?_
      refine ng_iconst_3 dX3_fame_20 ?_
      refine ng_icmp_le 28 dX3_fame_21 (by decide +kernel) (fun h21 => ?_) (fun h21 => ?_)
      · refine ng_iconst_0 dX3_fame_28 ?_
        refine ng_isub dX3_fame_29 ?_
        refine ng_goto 45 dX3_fame_30 (by decide +kernel) ?_
        refine ng_istore_5 dX3_fame_45 rfl ?_
        refine ng_iload_5 dX3_fame_47 ?_
        refine ng_bipush (v := (-3)) dX3_fame_49 (by decide) ?_
        refine ng_iconst_3 dX3_fame_51 ?_
        refine ng_callSN_3x (y2 := mi_X8_held) dX3_fame_52 (by decide : (RX3, 67, yX8_held, "NinePots") ∈ ng_nm) ms_X8_held my_X8_held (by first | decide | exact Nat.le_of_ble_eq_true rfl) (s_X8_held) (by decide) ?_
        exact ng_ireturn dX3_fame_55 ⟨_, rfl, by first | (obtain ⟨hv1, hv2⟩ := hv; simp at h7; simp [ng_fm, ng_giv, h7, hv1, hmm]; done) | (exact absurd (by rw [h11]; decide) h21) | (simp at h7; simp [ng_fm, h7, h11, h21]), by first | exact ng_off.rf | exact fun k hk => hv.2 k (by simp at hk; omega) (by simp at hk; omega)⟩
      · refine ng_iconst_1 dX3_fame_24 ?_
        refine ng_goto 29 dX3_fame_25 (by decide +kernel) ?_
        refine ng_isub dX3_fame_29 ?_
        refine ng_goto 45 dX3_fame_30 (by decide +kernel) ?_
        refine ng_istore_5 dX3_fame_45 rfl ?_
        refine ng_iload_5 dX3_fame_47 ?_
        refine ng_bipush (v := (-3)) dX3_fame_49 (by decide) ?_
        refine ng_iconst_3 dX3_fame_51 ?_
        refine ng_callSN_3x (y2 := mi_X8_held) dX3_fame_52 (by decide : (RX3, 67, yX8_held, "NinePots") ∈ ng_nm) ms_X8_held my_X8_held (by first | decide | exact Nat.le_of_ble_eq_true rfl) (s_X8_held) (by decide) ?_
        exact ng_ireturn dX3_fame_55 ⟨_, rfl, by first | (obtain ⟨hv1, hv2⟩ := hv; simp at h7; simp [ng_fm, ng_giv, h7, hv1, hmm]; done) | (exact absurd (by rw [h11]; decide) h21) | (simp at h7; simp [ng_fm, h7, h11, h21]), by first | exact ng_off.rf | exact fun k hk => hv.2 k (by simp at hk; omega) (by simp at hk; omega)⟩
    · refine ng_iconst_1 dX3_fame_14 ?_
      refine ng_goto 19 dX3_fame_15 (by decide +kernel) ?_
      refine ng_iload_2 dX3_fame_19 ?_
      refine ng_iconst_3 dX3_fame_20 ?_
      refine ng_icmp_le 28 dX3_fame_21 (by decide +kernel) (fun h21 => ?_) (fun h21 => ?_)
      · refine ng_iconst_0 dX3_fame_28 ?_
        refine ng_isub dX3_fame_29 ?_
        refine ng_goto 45 dX3_fame_30 (by decide +kernel) ?_
        refine ng_istore_5 dX3_fame_45 rfl ?_
        refine ng_iload_5 dX3_fame_47 ?_
        refine ng_bipush (v := (-3)) dX3_fame_49 (by decide) ?_
        refine ng_iconst_3 dX3_fame_51 ?_
        refine ng_callSN_3x (y2 := mi_X8_held) dX3_fame_52 (by decide : (RX3, 67, yX8_held, "NinePots") ∈ ng_nm) ms_X8_held my_X8_held (by first | decide | exact Nat.le_of_ble_eq_true rfl) (s_X8_held) (by decide) ?_
        exact ng_ireturn dX3_fame_55 ⟨_, rfl, by first | (obtain ⟨hv1, hv2⟩ := hv; simp at h7; simp [ng_fm, ng_giv, h7, hv1, hmm]; done) | (exact absurd (by rw [h11]; decide) h21) | (simp at h7; simp [ng_fm, h7, h11, h21]), by first | exact ng_off.rf | exact fun k hk => hv.2 k (by simp at hk; omega) (by simp at hk; omega)⟩
      · refine ng_iconst_1 dX3_fame_24 ?_
        refine ng_goto 29 dX3_fame_25 (by decide +kernel) ?_
        refine ng_isub dX3_fame_29 ?_
        refine ng_goto 45 dX3_fame_30 (by decide +kernel) ?_
        refine ng_istore_5 dX3_fame_45 rfl ?_
        refine ng_iload_5 dX3_fame_47 ?_
        refine ng_bipush (v := (-3)) dX3_fame_49 (by decide) ?_
        refine ng_iconst_3 dX3_fame_51 ?_
        refine ng_callSN_3x (y2 := mi_X8_held) dX3_fame_52 (by decide : (RX3, 67, yX8_held, "NinePots") ∈ ng_nm) ms_X8_held my_X8_held (by first | decide | exact Nat.le_of_ble_eq_true rfl) (s_X8_held) (by decide) ?_
        exact ng_ireturn dX3_fame_55 ⟨_, rfl, by first | (obtain ⟨hv1, hv2⟩ := hv; simp at h7; simp [ng_fm, ng_giv, h7, hv1, hmm]; done) | (exact absurd (by rw [h11]; decide) h21) | (simp at h7; simp [ng_fm, h7, h11, h21]), by first | exact ng_off.rf | exact fun k hk => hv.2 k (by simp at hk; omega) (by simp at hk; omega)⟩
theorem s_X3_isBuyer {X : Nat × (Nat → Int32)} {M : ng_M} {i : Int32} : ng_EvX X 2 mi_X3_isBuyer [.ref 2, .int i] (M) (some (.int (ng_bi (ng_in i 0 (M 2 6 - 1))))) (M) := by
  refine ng_EvX.ofI (lv := [some (.ref 2), some (.int i)]) (ty := .boolean) (by decide) (Nat.le_of_ble_eq_true rfl) rfl rfl (ng_bi_nar _) ?_
  refine ng_iload_1 dX3_isBuyer_0 ?_
  refine ng_iconst_0 dX3_isBuyer_1 ?_
  refine ng_aload_0 dX3_isBuyer_2 ?_
  refine ng_gI dX3_isBuyer_3 fl_X3_51 (by first | rfl | assumption) ?_
  refine ng_iconst_1 dX3_isBuyer_6 ?_
  refine ng_isub dX3_isBuyer_7 ?_
  refine ng_callSN_3x (y2 := mi_X8_isWithin) dX3_isBuyer_8 (by decide : (RX3, 54, yX8_isWithin, "NinePots") ∈ ng_nm) ms_X8_isWithin my_X8_isWithin (by first | decide | exact Nat.le_of_ble_eq_true rfl) (s_X8_isWithin) (by decide) ?_
  exact ng_ireturn dX3_isBuyer_11 ⟨rfl, rfl⟩
/-- what each buyer finds a pot worth, a step apart -/
def ng_pls (M : ng_M) (s : Nat) (i : Nat) : Int32 := ng_pw (M 8) (M 7 1) (M 5 i) (M s 4) (M 3 (M s 3).toNatClampNeg) (M (s + 1) i)
theorem l_X5_appraise {X : Nat × (Nat → Int32)} {M : ng_M} {s n : Nat} (hs : ng_isS s) (hn : M 2 6 = nI n) (hn8 : n ≤ 8) (hfk : ng_fok (M 8) (M 7 1)) :
    ∀ (m i : Nat) (M1 : ng_M), i + m = n → ng_off [9, 10, s + 2] M M1 → (∀ j, j < i → M1 (s + 2) j = ng_pls M s j) →
    ng_Go X mi_X5_appraise 4 15 [some (.ref s), some (.int (M 3 (M s 3).toNatClampNeg)), some (.int (nI i))] [] M1 (fun r' M' => r' = none ∧ ng_off [9, 10, s + 2] M M' ∧ ∀ j, j < n → M' (s + 2) j = ng_pls M s j) := by
  obtain ⟨⟨hs0, hs1, hs2, hs3, hs4, hs5, hs6, hs7, hs8, hs9, hs10, hs11⟩, hsh, hsp, hso, hsl⟩ := ng_S hs
  intro m
  induction m with
  | zero =>
    intro i M1 hi hM hp
    have hm : M1 2 6 = nI i := by rw [hM 2 (by simp <;> omega), hn, show n = i by omega]
    refine ng_iload_2 dX5_appraise_15 ?_
    refine ng_aload_0 dX5_appraise_16 ?_
    refine ng_gR dX5_appraise_17 fl_X5_25 (by first | rfl | assumption) ?_
    refine ng_gI dX5_appraise_20 fl_X5_59 (by first | rfl | assumption) ?_
    refine ng_icmp_ge 65 dX5_appraise_23 (by decide +kernel) (fun h23 => ?_) (fun h23 => ?_)
    · exact ng_return dX5_appraise_65 ⟨rfl, hM, fun j hj => hp j (by omega)⟩
    · exact absurd (by rw [hm]; exact Int32.le_refl _) h23
  | succ m ih =>
    intro i M1 hi hM hp
    have hm : M1 2 6 = nI n := by rw [hM 2 (by simp <;> omega), hn]
    have hvi : vp_in (nI i) 8 := vp_in_nI (by omega) (by omega)
    have hci : (nI i).toNatClampNeg = i := nI_clamp (by omega)
    have e7 : M1 7 = M 7 := hM 7 (by simp <;> omega)
    have e8 : M1 8 = M 8 := hM 8 (by simp <;> omega)
    have e5 : M1 5 = M 5 := hM 5 (by simp <;> omega)
    have es : M1 s = M s := hM s (by simp <;> omega)
    have eh : M1 (s + 1) = M (s + 1) := hM (s + 1) (by simp <;> omega)
    have hfk1 : ng_fok (M1 8) (M1 7 1) := by rw [e7, e8]; exact hfk
    refine ng_iload_2 dX5_appraise_15 ?_
    refine ng_aload_0 dX5_appraise_16 ?_
    refine ng_gR dX5_appraise_17 fl_X5_25 (by first | rfl | assumption) ?_
    refine ng_gI dX5_appraise_20 fl_X5_59 (by first | rfl | assumption) ?_
    refine ng_icmp_ge 65 dX5_appraise_23 (by decide +kernel) (fun h23 => ?_) (fun h23 => ?_)
    · exact absurd h23 (by rw [hm]; exact nI_ge (by omega) (by omega))
    · refine ng_aload_0 dX5_appraise_26 ?_
      refine ng_gR dX5_appraise_27 fl_X5_15 (by first | rfl | assumption) ?_
      refine ng_iload_2 dX5_appraise_30 ?_
      refine ng_aload_0 dX5_appraise_31 ?_
      refine ng_gR dX5_appraise_32 fl_X5_25 (by first | rfl | assumption) ?_
      refine ng_aload_0 dX5_appraise_35 ?_
      refine ng_gR dX5_appraise_36 fl_X5_25 (by first | rfl | assumption) ?_
      refine ng_gR dX5_appraise_39 fl_X5_62 (by first | rfl | assumption) ?_
      refine ng_iload_2 dX5_appraise_42 ?_
      refine ng_iald dX5_appraise_43 (by first | rfl | assumption) (by first | assumption | (unfold vp_in; decide)) ?_
      refine ng_aload_0 dX5_appraise_44 ?_
      refine ng_gI dX5_appraise_45 fl_X5_18 (by first | rfl | assumption) ?_
      refine ng_iload_1 dX5_appraise_48 ?_
      refine ng_aload_0 dX5_appraise_49 ?_
      refine ng_gR dX5_appraise_50 fl_X5_9 (by first | rfl | assumption) ?_
      refine ng_iload_2 dX5_appraise_53 ?_
      refine ng_iald dX5_appraise_54 (by first | rfl | assumption) (by first | assumption | (unfold vp_in; decide)) ?_
      refine ng_callV_4i (y2 := mi_X3_plainWorth) dX5_appraise_55 lk_X5_65 ms_X3_plainWorth my_X3_plainWorth (by first | exact ⟨_, rfl⟩ | assumption | exact ng_fld_obj (f := 0) (by assumption)) mc_X3 (by first | decide | exact Nat.le_of_ble_eq_true rfl) (s_X3_plainWorth (by assumption)) (by decide) (fun v M2 hv => ?_)
      refine ng_iast dX5_appraise_58 (by first | rfl | assumption) (by first | assumption | (unfold vp_in; decide)) ?_
      refine ng_iinc_2 (w := 1) dX5_appraise_59 (by decide) rfl ?_
      refine ng_goto 15 dX5_appraise_62 (by decide +kernel) ?_
      obtain ⟨hv1, hv2⟩ := hv
      rw [nI_1]
      refine ih (i + 1) _ (by omega) (ng_off.row (hM.tr (hv2.mono (by simp <;> omega))) (by simp)) (fun j hj => ?_)
      rw [ng_row_eq, hci]
      by_cases e : j = i
      · subst e; rw [ng_upd_eq, hv1, e7, e8, e5, es, eh, hci]; rfl
      · rw [ng_upd_ne e, hv2 (s + 2) (by simp <;> omega)]; exact hp j (by omega)
theorem s_X5_appraise {X : Nat × (Nat → Int32)} {M : ng_M} {s n : Nat} (hs : ng_isS s) (hn : M 2 6 = nI n) (hn8 : n ≤ 8) (hfk : ng_fok (M 8) (M 7 1)) (hl : vp_in (M s 3) 10) : ng_EvV X 4 mi_X5_appraise [.ref s] M (fun M' => ng_off [9, 10, s + 2] M M' ∧ ∀ j, j < n → M' (s + 2) j = ng_pls M s j) := by
  obtain ⟨⟨hs0, hs1, hs2, hs3, hs4, hs5, hs6, hs7, hs8, hs9, hs10, hs11⟩, hsh, hsp, hso, hsl⟩ := ng_S hs
  refine ng_EvV.of (lv := [some (.ref s), none, none]) (by decide) (Nat.le_of_ble_eq_true rfl) rfl rfl ?_
  refine ng_aload_0 dX5_appraise_0 ?_
  refine ng_gR dX5_appraise_1 fl_X5_25 (by first | rfl | assumption) ?_
  refine ng_gR dX5_appraise_4 fl_X5_54 (by first | rfl | assumption) ?_
  refine ng_aload_0 dX5_appraise_7 ?_
  refine ng_gI dX5_appraise_8 fl_X5_35 (by first | rfl | assumption) ?_
  refine ng_iald dX5_appraise_11 (by first | rfl | assumption) (by first | assumption | (unfold vp_in; decide)) ?_
  refine ng_istore_1 dX5_appraise_12 rfl ?_
  refine ng_iconst_0 dX5_appraise_13 ?_
  refine ng_istore_2 dX5_appraise_14 rfl ?_
  exact l_X5_appraise hs hn hn8 hfk n 0 _ (by omega) ng_off.rf (fun j hj => absurd hj (by omega))
