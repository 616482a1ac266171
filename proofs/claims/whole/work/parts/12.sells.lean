/-! ===== the class: sells, settles, goes ===== -/
def ng_lf (bo : Nat → Int32 → Int32) (on : Int32) : Nat → Int32
  | 0 => on
  | i + 1 => if bo i (ng_lf bo on i) ≤ 0 then ng_lf bo on i else ng_lf bo on i - bo i (ng_lf bo on i)
def ng_pd (bo : Nat → Int32 → Int32) (du : Nat → Int32) (on : Int32) : Nat → Int32
  | 0 => 0
  | i + 1 => if bo i (ng_lf bo on i) ≤ 0 then ng_pd bo du on i else ng_pd bo du on i + bo i (ng_lf bo on i) * du i
def ng_hs (bo : Nat → Int32 → Int32) (on : Int32) (ha : Nat → Int32) (n j : Nat) : Int32 := if j < n then (if bo j (ng_lf bo on j) ≤ 0 then ha j else ng_min 9999 (ha j + bo j (ng_lf bo on j))) else ha j
/-- whether buyer i comes -/
def ng_cm (come : Int32) (i : Nat) : Bool := decide ((come.toUInt32 >>> ((nI i).toUInt32 &&& Int32.toUInt32 31)).toInt32 &&& 1 = 1)
def ng_bo (M : ng_M) (s : Nat) (t come : Int32) (i : Nat) (lf : Int32) : Int32 := if ng_cm come i then ng_buys (M 4 i) (M 6 i) (M 3 t.toNatClampNeg) (M (s + 2) i) (M (s + 1) i) (M s 4) (M s 3) t lf else 0
def ng_du (M : ng_M) (t : Int32) (i : Nat) : Int32 := ng_due (M 4 i) (M 3 t.toNatClampNeg)
def ng_on (M : ng_M) (s : Nat) (b : Int32) : Int32 := ng_max 0 (M s 6 + M s 5 - b)
/-- a year's sale at a stand -/
def ng_sale (M : ng_M) (s n : Nat) (t b come : Int32) (M' : ng_M) : Prop :=
  ng_off [s, s + 1] M M' ∧ (M' s 3 = t ∧ M' s 4 = M s 4 ∧ M' s 5 = M s 5 ∧ M' s 6 = ng_min 60 (M s 6 + M s 5 - (ng_on M s b - ng_lf (ng_bo M s t come) (ng_on M s b) n)) ∧ M' s 7 = ng_held (M s 7 + ng_pd (ng_bo M s t come) (ng_du M t) (ng_on M s b) n - M s 8 * M s 5) (-99999999) 99999999 ∧ M' s 8 = M s 8 ∧
    M' s 9 = ng_on M s b - ng_lf (ng_bo M s t come) (ng_on M s b) n ∧ M' s 10 = ng_lf (ng_bo M s t come) (ng_on M s b) n ∧ M' s 11 = t - M s 3) ∧ ∀ j, M' (s + 1) j = ng_hs (ng_bo M s t come) (ng_on M s b) (M (s + 1)) n j
theorem l_X5_sells {X : Nat × (Nat → Int32)} {M : ng_M} {s n : Nat} {t b come : Int32} (hs : ng_isS s) (hn : M 2 6 = nI n) (hn8 : n ≤ 8) (ht : vp_in t 10) :
    ∀ (m i : Nat) (x8 : Option Value) (M1 : ng_M), i + m = n → ng_off [s + 1] M M1 → (∀ j, M1 (s + 1) j = ng_hs (ng_bo M s t come) (ng_on M s b) (M (s + 1)) i j) →
    ng_Go X mi_X5_sells 3 22 [some (.ref s), some (.int t), some (.int b), some (.int come), some (.int (ng_on M s b)), some (.int (ng_lf (ng_bo M s t come) (ng_on M s b) i)), some (.int (ng_pd (ng_bo M s t come) (ng_du M t) (ng_on M s b) i)), some (.int (nI i)), x8] [] M1 (fun r' M' => r' = none ∧ ng_sale M s n t b come M') := by
  obtain ⟨⟨hs0, hs1, hs2, hs3, hs4, hs5, hs6, hs7, hs8, hs9, hs10, hs11⟩, hsh, hsp, hso, hsl⟩ := ng_S hs
  intro m
  induction m with
  | zero =>
    intro i x8 M1 hi hM hp
    have hin : i = n := by omega
    subst hin
    have hm : M1 2 6 = nI i := by rw [hM 2 (by simp <;> omega), hn]
    have es : M1 s = M s := hM s (by simp <;> omega)
    refine ng_iload_7 dX5_sells_22 ?_
    refine ng_aload_0 dX5_sells_24 ?_
    refine ng_gR dX5_sells_25 fl_X5_25 (by first | rfl | assumption) ?_
    refine ng_gI dX5_sells_28 fl_X5_59 (by first | rfl | assumption) ?_
    refine ng_icmp_ge 115 dX5_sells_31 (by decide +kernel) (fun h31 => ?_) (fun h31 => ?_)
    · refine ng_aload_0 dX5_sells_115 ?_
      refine ng_iload_4 dX5_sells_116 ?_
      refine ng_iload_5 dX5_sells_118 ?_
      refine ng_isub dX5_sells_120 ?_
      refine ng_pI dX5_sells_121 fp_X5_99 (by first | rfl | assumption) rfl rfl ?_
      refine ng_aload_0 dX5_sells_124 ?_
      refine ng_iload_5 dX5_sells_125 ?_
      refine ng_pI dX5_sells_127 fp_X5_102 (by first | rfl | assumption) rfl rfl ?_
      refine ng_aload_0 dX5_sells_130 ?_
      refine ng_iload_1 dX5_sells_131 ?_
      refine ng_aload_0 dX5_sells_132 ?_
      refine ng_gI dX5_sells_133 fl_X5_35 (by first | rfl | assumption) ?_
      refine ng_isub dX5_sells_136 ?_
      refine ng_pI dX5_sells_137 fp_X5_105 (by first | rfl | assumption) rfl rfl ?_
      refine ng_aload_0 dX5_sells_140 ?_
      refine ng_aload_0 dX5_sells_141 ?_
      refine ng_gI dX5_sells_142 fl_X5_41 (by first | rfl | assumption) ?_
      refine ng_iload_6 dX5_sells_145 ?_
      refine ng_iadd dX5_sells_147 ?_
      refine ng_aload_0 dX5_sells_148 ?_
      refine ng_gI dX5_sells_149 fl_X5_44 (by first | rfl | assumption) ?_
      refine ng_aload_0 dX5_sells_152 ?_
      refine ng_gI dX5_sells_153 fl_X5_22 (by first | rfl | assumption) ?_
      refine ng_imul dX5_sells_156 ?_
      refine ng_isub dX5_sells_157 ?_
      refine ng_ldc dX5_sells_158 kc_X5_108 ?_
      refine ng_ldc dX5_sells_160 kc_X5_109 ?_
      refine ng_callSN_3x (y2 := mi_X8_held) dX5_sells_162 (by decide : (RX5, 110, yX8_held, "NinePots") ∈ ng_nm) ms_X8_held my_X8_held (by first | decide | exact Nat.le_of_ble_eq_true rfl) (s_X8_held) (by decide) ?_
      refine ng_pI dX5_sells_165 fp_X5_41 (by first | rfl | assumption) rfl rfl ?_
      refine ng_aload_0 dX5_sells_168 ?_
      refine ng_bipush (v := 60) dX5_sells_169 (by decide) ?_
      refine ng_aload_0 dX5_sells_171 ?_
      refine ng_callV_0x (y2 := mi_X5_pots) dX5_sells_172 lk_X5_92 ms_X5_pots my_X5_pots (by first | exact ⟨_, rfl⟩ | assumption | exact ng_fld_obj (f := 0) (by assumption)) mc_X5 (by first | decide | exact Nat.le_of_ble_eq_true rfl) (s_X5_pots (by assumption)) (by decide) ?_
      refine ng_aload_0 dX5_sells_175 ?_
      refine ng_gI dX5_sells_176 fl_X5_99 (by first | rfl | assumption) ?_
      refine ng_isub dX5_sells_179 ?_
      refine ng_mmin dX5_sells_180 lk_X5_82 mms_min li_J9 mmc_min (by first | decide | exact Nat.le_of_ble_eq_true rfl) ?_
      refine ng_pI dX5_sells_183 fp_X5_38 (by first | rfl | assumption) rfl rfl ?_
      refine ng_aload_0 dX5_sells_186 ?_
      refine ng_iload_1 dX5_sells_187 ?_
      refine ng_pI dX5_sells_188 fp_X5_35 (by first | rfl | assumption) rfl rfl ?_
      exact ng_return dX5_sells_191 ⟨rfl, by
  refine ⟨fun k hk => ?_, ?_, ?_⟩
  · simp at hk
    simp [ng_row, hk]
    exact hM k (by simp <;> omega)
  · simp [ng_row, upd, es, ng_min, ng_held]
  · intro j
    simp [ng_row]
    exact hp j⟩
    · exact absurd (by rw [hm]; exact Int32.le_refl _) h31
  | succ m ih =>
    intro i x8 M1 hi hM hp
    have hm : M1 2 6 = nI n := by rw [hM 2 (by simp <;> omega), hn]
    have hvi : vp_in (nI i) 8 := vp_in_nI (by omega) (by omega)
    have hci : (nI i).toNatClampNeg = i := nI_clamp (by omega)
    have e3 : M1 3 = M 3 := hM 3 (by simp <;> omega)
    have e4 : M1 4 = M 4 := hM 4 (by simp <;> omega)
    have e6 : M1 6 = M 6 := hM 6 (by simp <;> omega)
    have es : M1 s = M s := hM s (by simp <;> omega)
    have ep : M1 (s + 2) = M (s + 2) := hM (s + 2) (by simp <;> omega)
    have ehi : M1 (s + 1) i = M (s + 1) i := by rw [hp i]; simp [ng_hs]
    have nxt : ∀ (y8 : Option Value) (M2 : ng_M) (lf pd : Int32), lf = ng_lf (ng_bo M s t come) (ng_on M s b) (i + 1) → pd = ng_pd (ng_bo M s t come) (ng_du M t) (ng_on M s b) (i + 1) → ng_off [s + 1] M M2 → (∀ j, M2 (s + 1) j = ng_hs (ng_bo M s t come) (ng_on M s b) (M (s + 1)) (i + 1) j) →
        ng_Go X mi_X5_sells 3 109 [some (.ref s), some (.int t), some (.int b), some (.int come), some (.int (ng_on M s b)), some (.int lf), some (.int pd), some (.int (nI i)), y8] [] M2 (fun r' M' => r' = none ∧ ng_sale M s n t b come M') := by
      intro y8 M2 lf pd g1 g2 g3 g4
      subst g1
      subst g2
      refine ng_iinc_7 (w := 1) dX5_sells_109 (by decide) rfl ?_
      refine ng_goto 22 dX5_sells_112 (by decide +kernel) ?_
      rw [nI_1]
      exact ih (i + 1) y8 M2 (by omega) g3 g4
    have hb0 : ∀ v : Int32, v ≤ 0 → v = ng_bo M s t come i (ng_lf (ng_bo M s t come) (ng_on M s b) i) → ∀ j, M1 (s + 1) j = ng_hs (ng_bo M s t come) (ng_on M s b) (M (s + 1)) (i + 1) j := by
      intro v h0 hv j
      rw [hp j]
      by_cases e : j = i
      · subst e; rw [hv] at h0; simp [ng_hs, h0]
      · by_cases q : j < i
        · simp [ng_hs, q, show j < i + 1 by omega]
        · simp [ng_hs, q, show ¬ j < i + 1 by omega]
    have fin : ∀ (v : Int32), v = ng_bo M s t come i (ng_lf (ng_bo M s t come) (ng_on M s b) i) → ng_Go X mi_X5_sells 3 57 [some (.ref s), some (.int t), some (.int b), some (.int come), some (.int (ng_on M s b)), some (.int (ng_lf (ng_bo M s t come) (ng_on M s b) i)), some (.int (ng_pd (ng_bo M s t come) (ng_du M t) (ng_on M s b) i)), some (.int (nI i)), x8] [.int v] M1 (fun r' M' => r' = none ∧ ng_sale M s n t b come M') := by
      intro v hv
      refine ng_istore_8 dX5_sells_57 rfl ?_
      refine ng_iload_8 dX5_sells_59 ?_
      refine ng_if_le 109 dX5_sells_61 (by decide +kernel) (fun h61 => ?_) (fun h61 => ?_)
      · exact nxt _ _ _ _ (by simp only [ng_lf]; rw [← hv, if_pos h61]) (by simp only [ng_pd]; rw [← hv, if_pos h61]) hM (hb0 v h61 hv)
      · refine ng_iload_5 dX5_sells_64 ?_
        refine ng_iload_8 dX5_sells_66 ?_
        refine ng_isub dX5_sells_68 ?_
        refine ng_istore_5 dX5_sells_69 rfl ?_
        refine ng_iload_6 dX5_sells_71 ?_
        refine ng_iload_8 dX5_sells_73 ?_
        refine ng_aload_0 dX5_sells_75 ?_
        refine ng_iload_7 dX5_sells_76 ?_
        refine ng_iload_1 dX5_sells_78 ?_
        refine ng_callV_2x (y2 := mi_X5_due) dX5_sells_79 lk_X5_72 ms_X5_due my_X5_due (by first | exact ⟨_, rfl⟩ | assumption | exact ng_fld_obj (f := 0) (by assumption)) mc_X5 (by first | decide | exact Nat.le_of_ble_eq_true rfl) (s_X5_due hs hvi ht) (by decide) ?_
        refine ng_imul dX5_sells_82 ?_
        refine ng_iadd dX5_sells_83 ?_
        refine ng_istore_6 dX5_sells_84 rfl ?_
        refine ng_aload_0 dX5_sells_86 ?_
        refine ng_gR dX5_sells_87 fl_X5_9 (by first | rfl | assumption) ?_
        refine ng_iload_7 dX5_sells_90 ?_
        refine ng_sipush (v := 9999) dX5_sells_92 (by decide) ?_
        refine ng_aload_0 dX5_sells_95 ?_
        refine ng_gR dX5_sells_96 fl_X5_9 (by first | rfl | assumption) ?_
        refine ng_iload_7 dX5_sells_99 ?_
        refine ng_iald dX5_sells_101 (by first | rfl | assumption) (by first | assumption | (unfold vp_in; decide)) ?_
        refine ng_iload_8 dX5_sells_102 ?_
        refine ng_iadd dX5_sells_104 ?_
        refine ng_mmin dX5_sells_105 lk_X5_82 mms_min li_J9 mmc_min (by first | decide | exact Nat.le_of_ble_eq_true rfl) ?_
        refine ng_iast dX5_sells_108 (by first | rfl | assumption) (by first | assumption | (unfold vp_in; decide)) ?_
        refine nxt _ _ _ _ (by simp only [ng_lf]; rw [← hv, if_neg h61]) (by simp only [ng_pd]; rw [← hv, if_neg h61, hci, e3, e4]; rfl) (ng_off.row hM (by simp)) (fun j => ?_)
        rw [ng_row_eq, hci, ehi]
        by_cases e : j = i
        · subst e; rw [ng_upd_eq]; simp [ng_hs, ← hv, h61, ng_min]
        · rw [ng_upd_ne e, hp j]
          by_cases q : j < i
          · simp [ng_hs, q, show j < i + 1 by omega]
          · simp [ng_hs, q, show ¬ j < i + 1 by omega]
    refine ng_iload_7 dX5_sells_22 ?_
    refine ng_aload_0 dX5_sells_24 ?_
    refine ng_gR dX5_sells_25 fl_X5_25 (by first | rfl | assumption) ?_
    refine ng_gI dX5_sells_28 fl_X5_59 (by first | rfl | assumption) ?_
    refine ng_icmp_ge 115 dX5_sells_31 (by decide +kernel) (fun h31 => ?_) (fun h31 => ?_)
    · exact absurd h31 (by rw [hm]; exact nI_ge (by omega) (by omega))
    · refine ng_iload_3 dX5_sells_34 ?_
      refine ng_iload_7 dX5_sells_35 ?_
      refine ng_iushr dX5_sells_37 ?_
      refine ng_iconst_1 dX5_sells_38 ?_
      refine ng_iand dX5_sells_39 ?_
      refine ng_iconst_1 dX5_sells_40 ?_
      refine ng_icmp_ne 56 dX5_sells_41 (by decide +kernel) (fun h41 => ?_) (fun h41 => ?_)
      · refine ng_iconst_0 dX5_sells_56 ?_
        refine fin _ ?_
        first | (simp [ng_bo, ng_cm, h41]; done) | (rw [hci, e3, e4, e6, es, ep, ehi]; simp [ng_bo, ng_cm, h41])
      · refine ng_aload_0 dX5_sells_44 ?_
        refine ng_iload_7 dX5_sells_45 ?_
        refine ng_iload_1 dX5_sells_47 ?_
        refine ng_iload_5 dX5_sells_48 ?_
        refine ng_callV_3x (y2 := mi_X5_buys) dX5_sells_50 lk_X5_95 ms_X5_buys my_X5_buys (by first | exact ⟨_, rfl⟩ | assumption | exact ng_fld_obj (f := 0) (by assumption)) mc_X5 (by first | decide | exact Nat.le_of_ble_eq_true rfl) (s_X5_buys hs hvi ht) (by decide) ?_
        refine ng_goto 57 dX5_sells_53 (by decide +kernel) ?_
        refine fin _ ?_
        first | (simp [ng_bo, ng_cm, h41]; done) | (rw [hci, e3, e4, e6, es, ep, ehi]; simp [ng_bo, ng_cm, h41])
theorem s_X5_sells {X : Nat × (Nat → Int32)} {M : ng_M} {s n : Nat} {t b come : Int32} (hs : ng_isS s) (hn : M 2 6 = nI n) (hn8 : n ≤ 8) (ht : vp_in t 10) : ng_EvV X 3 mi_X5_sells [.ref s, .int t, .int b, .int come] M (fun M' => ng_sale M s n t b come M') := by
  obtain ⟨⟨hs0, hs1, hs2, hs3, hs4, hs5, hs6, hs7, hs8, hs9, hs10, hs11⟩, hsh, hsp, hso, hsl⟩ := ng_S hs
  refine ng_EvV.of (lv := [some (.ref s), some (.int t), some (.int b), some (.int come), none, none, none, none, none]) (by decide) (Nat.le_of_ble_eq_true rfl) rfl rfl ?_
  refine ng_iconst_0 dX5_sells_0 ?_
  refine ng_aload_0 dX5_sells_1 ?_
  refine ng_callV_0x (y2 := mi_X5_pots) dX5_sells_2 lk_X5_92 ms_X5_pots my_X5_pots (by first | exact ⟨_, rfl⟩ | assumption | exact ng_fld_obj (f := 0) (by assumption)) mc_X5 (by first | decide | exact Nat.le_of_ble_eq_true rfl) (s_X5_pots (by assumption)) (by decide) ?_
  refine ng_iload_2 dX5_sells_5 ?_
  refine ng_isub dX5_sells_6 ?_
  refine ng_mmax dX5_sells_7 lk_X5_89 mms_max li_J9 mmc_max (by first | decide | exact Nat.le_of_ble_eq_true rfl) ?_
  refine ng_istore_4 dX5_sells_10 rfl ?_
  refine ng_iload_4 dX5_sells_12 ?_
  refine ng_istore_5 dX5_sells_14 rfl ?_
  refine ng_iconst_0 dX5_sells_16 ?_
  refine ng_istore_6 dX5_sells_17 rfl ?_
  refine ng_iconst_0 dX5_sells_19 ?_
  refine ng_istore_7 dX5_sells_20 rfl ?_
  exact l_X5_sells hs hn hn8 ht n 0 none M (by omega) ng_off.rf (fun j => by simp [ng_hs])
/-- behind a year's sale: the name -/
theorem s_X5_settles {X : Nat × (Nat → Int32)} {M : ng_M} {s : Nat} (hs : ng_isS s) (hfk : ng_fok (M 12) (M 11 1)) : ng_EvV X 4 mi_X5_settles [.ref s] M (fun M' => ng_off [s, 13, 14] M M' ∧ M' s = upd (M s) 4 (ng_held (M s 4 + ng_fm (M 12) (M 11 1) (M s 9) (M s 10) (M s 4) (M s 11)) 0 12)) := by
  obtain ⟨⟨hs0, hs1, hs2, hs3, hs4, hs5, hs6, hs7, hs8, hs9, hs10, hs11⟩, hsh, hsp, hso, hsl⟩ := ng_S hs
  refine ng_EvV.of (lv := [some (.ref s)]) (by decide) (Nat.le_of_ble_eq_true rfl) rfl rfl ?_
  refine ng_aload_0 dX5_settles_0 ?_
  refine ng_aload_0 dX5_settles_1 ?_
  refine ng_gI dX5_settles_2 fl_X5_18 (by first | rfl | assumption) ?_
  refine ng_aload_0 dX5_settles_5 ?_
  refine ng_gR dX5_settles_6 fl_X5_25 (by first | rfl | assumption) ?_
  refine ng_aload_0 dX5_settles_9 ?_
  refine ng_gI dX5_settles_10 fl_X5_99 (by first | rfl | assumption) ?_
  refine ng_aload_0 dX5_settles_13 ?_
  refine ng_gI dX5_settles_14 fl_X5_102 (by first | rfl | assumption) ?_
  refine ng_aload_0 dX5_settles_17 ?_
  refine ng_gI dX5_settles_18 fl_X5_18 (by first | rfl | assumption) ?_
  refine ng_aload_0 dX5_settles_21 ?_
  refine ng_gI dX5_settles_22 fl_X5_105 (by first | rfl | assumption) ?_
  refine ng_callV_4i (y2 := mi_X3_fame) dX5_settles_25 lk_X5_113 ms_X3_fame my_X3_fame (by first | exact ⟨_, rfl⟩ | assumption | exact ng_fld_obj (f := 0) (by assumption)) mc_X3 (by first | decide | exact Nat.le_of_ble_eq_true rfl) (s_X3_fame (by assumption)) (by decide) (fun v M1 hv => ?_)
  obtain ⟨hv1, hv2⟩ := hv
  have es : M1 s = M s := hv2 s (by simp <;> omega)
  refine ng_iadd dX5_settles_28 ?_
  refine ng_iconst_0 dX5_settles_29 ?_
  refine ng_bipush (v := 12) dX5_settles_30 (by decide) ?_
  refine ng_callSN_3x (y2 := mi_X8_held) dX5_settles_32 (by decide : (RX5, 110, yX8_held, "NinePots") ∈ ng_nm) ms_X8_held my_X8_held (by first | decide | exact Nat.le_of_ble_eq_true rfl) (s_X8_held) (by decide) ?_
  refine ng_pI dX5_settles_35 fp_X5_18 (by first | rfl | assumption) rfl rfl ?_
  exact ng_return dX5_settles_38 ⟨rfl, ng_off.row (hv2.mono (by simp)) (by simp), by rw [ng_row_eq, es, hv1]⟩

