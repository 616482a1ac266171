/-! ===== copies; pairs: image, restore ===== -/
def ng_cp (f g : Nat → Int32) : Nat → Int32 := fun k => if k < 227 then f k else g k
theorem l_X9_copy {X : Nat × (Nat → Int32)} {M : ng_M} {A B : Nat} (hA : ng_HS[A]? = some (.inr (.inl 227))) (hB : ng_HS[B]? = some (.inr (.inl 227))) (hne : A ≠ B) : ∀ (m i : Nat) (M1 : ng_M), i + m = 227 → ng_off [B] M M1 → (∀ k, M1 B k = if k < i then M A k else M B k) →
    ng_Go X mi_X9_copy 1 2 [some (.ref A), some (.ref B), some (.int (nI i))] [] M1 (fun r' M' => r' = none ∧ M' = ng_row M B (ng_cp (M A) (M B))) := by
  intro m
  induction m with
  | zero =>
    intro i M1 hi hM h
    have hi2 : i = 227 := by omega
    subst hi2
    refine ng_iload_2 dX9_copy_2 ?_
    refine ng_sipush (v := 227) dX9_copy_3 (by decide) ?_
    refine ng_icmp_ge 21 dX9_copy_6 (by decide +kernel) (fun h6 => ?_) (fun h6 => ?_)
    · exact ng_return dX9_copy_21 ⟨rfl, by
  funext j
  by_cases e : j = B
  · subst e; rw [ng_row_eq]; funext k; exact h k
  · rw [ng_row_ne e]; exact hM j (by simp [e])⟩
    · exact absurd (show nI 227 ≤ nI 227 from Int32.le_refl _) h6
  | succ m ih =>
    intro i M1 hi hM h
    have hvi : vp_in (nI i) 227 := vp_in_nI (by omega) (by omega)
    refine ng_iload_2 dX9_copy_2 ?_
    refine ng_sipush (v := 227) dX9_copy_3 (by decide) ?_
    refine ng_icmp_ge 21 dX9_copy_6 (by decide +kernel) (fun h6 => ?_) (fun h6 => ?_)
    · exact absurd (show nI 227 ≤ nI i from h6) (nI_ge (by omega) (by omega))
    · refine ng_aload_1 dX9_copy_9 ?_
      refine ng_iload_2 dX9_copy_10 ?_
      refine ng_aload_0 dX9_copy_11 ?_
      refine ng_iload_2 dX9_copy_12 ?_
      refine ng_ialdL (j := i) dX9_copy_13 (by first | rfl | assumption) (by first | assumption | (unfold vp_in; decide)) (by first | assumption | exact nI_clamp (by omega)) ?_
      refine ng_iastL (j := i) dX9_copy_14 (by first | rfl | assumption) (by first | assumption | (unfold vp_in; decide)) (by first | assumption | exact nI_clamp (by omega)) ?_
      refine ng_iinc_2 (w := 1) dX9_copy_15 (by decide) rfl ?_
      refine ng_goto 2 dX9_copy_18 (by decide +kernel) ?_
      rw [nI_1]
      refine ih (i + 1) _ (by omega) (ng_off.row hM (by simp)) (fun k => ?_)
      rw [ng_row_eq, hM A (by simp [hne])]
      by_cases e : k = i
      · subst e; rw [ng_upd_eq, if_pos (by omega)]
      · rw [ng_upd_ne e, h k]
        by_cases q : k < i
        · rw [if_pos q, if_pos (by omega)]
        · rw [if_neg q, if_neg (by omega)]
theorem s_X9_copy {X : Nat × (Nat → Int32)} {M : ng_M} {A B : Nat} (hA : ng_HS[A]? = some (.inr (.inl 227))) (hB : ng_HS[B]? = some (.inr (.inl 227))) (hne : A ≠ B) : ng_EvX X 1 mi_X9_copy [.ref A, .ref B] M none (ng_row M B (ng_cp (M A) (M B))) := by
  refine ng_EvX.ofV (lv := [some (.ref A), some (.ref B), none]) (by decide) (Nat.le_of_ble_eq_true rfl) rfl rfl ?_
  refine ng_iconst_0 dX9_copy_0 ?_
  refine ng_istore_2 dX9_copy_1 (by first | rfl | assumption) ?_
  exact l_X9_copy hA hB hne 227 0 M (by omega) ng_off.rf (fun k => by rw [if_neg (by omega)])
theorem ng_tc_cp {f g : ng_R} {o j : Nat} (h : o + 1 + j < 227) : ng_tc (ng_cp f g) o j = ng_tc f o j := by
  rw [ng_tc, ng_tc, ng_cp, if_pos h]
theorem ng_cp_at {f g : ng_R} {k : Nat} (h : k < 227) : ng_cp f g k = f k := by rw [ng_cp, if_pos h]
theorem ng_fok_cp {f g : ng_R} {o : Nat} (ho : o ≤ 175) (h : ng_fok (ng_tc f o) (f o)) : ng_fok (ng_tc (ng_cp f g) o) (ng_cp f g o) := by
  obtain ⟨n, h1, h2, h3⟩ := h
  refine ⟨n, by rw [ng_cp_at (by omega)]; exact h1, h2, h3.imp id (fun q => ng_tok_congr (fun j hj => ?_) q)⟩
  rw [ng_tc_cp (by omega)]
theorem ng_tv_cp {f g : ng_R} {o : Nat} (ho : o ≤ 175) (hf : ng_fok (ng_tc f o) (f o)) (h : ng_tv f o) : ng_tv (ng_cp f g) o := by
  obtain ⟨n, h1, h2, -⟩ := hf
  intro j hj
  rw [ng_cp_at (by omega)] at hj
  have : (f o).toNatClampNeg = n := by rw [h1, nI_clamp (by omega)]
  rw [ng_cp_at (by omega)]
  exact h j hj
theorem ng_ok.cp {f g : ng_R} (h : ng_ok f) : ng_ok (ng_cp f g) := by
  obtain ⟨h1, ⟨h2, h3⟩, h4, h5⟩ := h
  exact ⟨fun k hk => by rw [ng_cp_at (by omega)]; exact h1 k hk, ⟨ng_fok_cp (by decide) h2, ng_fok_cp (by decide) h3⟩, ng_tv_cp (by decide) h2 h4, ng_tv_cp (by decide) h3 h5⟩
theorem ng_tr.cp {c : Nat → Int32} {L : Int32} {f g : ng_R} {o : Nat} (ho : o ≤ 175) (hf : ng_fok (ng_tc f o) (f o)) (h : ng_tr c L f o) : ng_tr c L (ng_cp f g) o := by
  obtain ⟨h1, h2⟩ := h
  obtain ⟨n, q1, q2, -⟩ := hf
  refine ⟨by rw [ng_cp_at (by omega)]; exact h1, fun j hj => ?_⟩
  have : L.toNatClampNeg = n := by rw [h1, q1, nI_clamp (by omega)]
  rw [ng_tc_cp (by omega)]; exact h2 j hj
theorem ng_rep.cp {M : ng_M} {w : Nat} {f g : ng_R} (hok : ng_ok f) (h : ng_rep M w f) : ng_rep M w (ng_cp f g) := by
  obtain ⟨h1, h2, h3⟩ := h
  exact ⟨fun k hk => by rw [ng_cp_at (by omega)]; exact h1 k hk, h2.cp (by decide) hok.2.1.1, h3.cp (by decide) hok.2.1.2⟩
/-- a text is taken over: its length, its code -/
theorem s_X0_take {X : Nat × (Nat → Int32)} {M : ng_M} {f c n : Nat} {L : Int32} (hf : ng_isF f) (hc : ng_HS[c]? = some (.inr (.inl 50))) (hne : c ≠ f) (hL : L = nI n) (hn : n ≤ 50) : ng_EvX X 3 mi_X0_take [.ref f, .ref c, .int L] M none (ng_row (ng_row M f (upd (M f) 1 L)) (f + 1) (va_cpy (M c) (M (f + 1)) 0 0 n)) := by
  obtain ⟨hf0, hf1, hf2, hf3, hf4, hf5, hf6⟩ := ng_F hf
  have hfo : ng_obj f 0 := ng_fld_obj hf0
  have e50 : ng_held L 0 (if Int32.ofNat 50 < Int32.ofNat 50 then Int32.ofNat 50 else Int32.ofNat 50) = L := by
    apply ng_i_eq
    rw [ng_heldI, if_neg (by decide), ng_0, show (Int32.ofNat 50).toInt = 50 by decide, hL, nI_toInt (by omega)]
    omega
  have hL0 : ¬ L < 0 := by rw [hL]; exact nI_pos (by omega)
  have hLn : L.toNatClampNeg = n := by rw [hL, nI_clamp (by omega)]
  have ef : ng_row M f (upd (M f) 1 L) f 1 = L := by rw [ng_row_eq, ng_upd_eq]
  refine ng_EvX.ofV (lv := [some (.ref f), some (.ref c), some (.int L)]) (by decide) (Nat.le_of_ble_eq_true rfl) rfl rfl ?_
  refine ng_aload_0 dX0_take_0 ?_
  refine ng_iload_2 dX0_take_1 ?_
  refine ng_iconst_0 dX0_take_2 ?_
  refine ng_aload_1 dX0_take_3 ?_
  refine ng_alen dX0_take_4 (by first | rfl | assumption) ?_
  refine ng_aload_0 dX0_take_5 ?_
  refine ng_gR dX0_take_6 fl_X0_9 (by first | rfl | assumption) ?_
  refine ng_alen dX0_take_9 (by first | rfl | assumption) ?_
  refine ng_mmin dX0_take_10 lk_X0_25 mms_min li_J9 mmc_min (by first | decide | exact Nat.le_of_ble_eq_true rfl) ?_
  refine ng_callSN_3x (y2 := mi_X8_held) dX0_take_13 (by decide : (RX0, 31, yX8_held, "NinePots") ∈ ng_nm) ms_X8_held my_X8_held (by first | decide | exact Nat.le_of_ble_eq_true rfl) (s_X8_held) (by decide) ?_
  rw [e50]
  refine ng_pI dX0_take_16 fp_X0_21 (by first | rfl | assumption) rfl rfl ?_
  refine ng_aload_1 dX0_take_19 ?_
  refine ng_iconst_0 dX0_take_20 ?_
  refine ng_aload_0 dX0_take_21 ?_
  refine ng_gR dX0_take_22 fl_X0_9 (by first | rfl | assumption) ?_
  refine ng_iconst_0 dX0_take_25 ?_
  refine ng_aload_0 dX0_take_26 ?_
  refine ng_gI dX0_take_27 fl_X0_21 (by first | rfl | assumption) ?_
  rw [ef]
  refine ng_arraycopy dX0_take_30 lk_X0_35 mac_n mac_s li_J10 (by first | rfl | assumption) (by first | rfl | assumption) (by decide) (by decide) hL0 (by rw [hLn, show (0 : Int32).toNatClampNeg = 0 by decide]; omega) (by rw [hLn, show (0 : Int32).toNatClampNeg = 0 by decide]; omega) (by first | decide | exact Nat.le_of_ble_eq_true rfl) ?_
  exact ng_return dX0_take_33 ⟨rfl, by rw [hLn, show (0 : Int32).toNatClampNeg = 0 by decide, ng_row_ne hne, ng_row_ne (show f + 1 ≠ f by omega)]⟩
