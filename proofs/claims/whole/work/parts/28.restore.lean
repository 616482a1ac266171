/-! ===== pairs: image, restore ===== -/
def ng_rtook (M : ng_M) (r r2 n1 n2 : Nat) (M' : ng_M) : Prop := ng_off [r, r + 1, r + 2, r + 3, r + 4, r + 5, r + 6, r + 9, r + 10] M M' ∧ (∀ j, j < 10 → M' (r + 1) j = M (r2 + 1) j) ∧ (∀ j, j < 8 → M' (r + 2) j = M (r2 + 2) j ∧ M' (r + 3) j = M (r2 + 3) j ∧ M' (r + 4) j = M (r2 + 4) j) ∧ M' (r + 5) 1 = M (r2 + 5) 1 ∧ (∀ j, j < n1 → M' (r + 6) j = M (r2 + 6) j) ∧ M' (r + 9) 1 = M (r2 + 9) 1 ∧ (∀ j, j < n2 → M' (r + 10) j = M (r2 + 10) j) ∧ M' r 6 = M r2 6
theorem s_X3_take_2 {X : Nat × (Nat → Int32)} {M : ng_M} {n1 n2 : Nat} (h1 : M 26 1 = nI n1) (g1 : n1 ≤ 50) (h2 : M 30 1 = nI n2) (g2 : n2 ≤ 50) : ng_EvV X 4 mi_X3_take [.ref 2, .ref 21] M (fun M' => ng_rtook M 2 21 n1 n2 M') := by
  refine ng_EvV.of (lv := [some (.ref 2), some (.ref 21)]) (by decide) (Nat.le_of_ble_eq_true rfl) rfl rfl ?_
  have c0 : (0 : Int32).toNatClampNeg = 0 := by decide
  have c8 : (8 : Int32).toNatClampNeg = 8 := by decide
  have c10 : (10 : Int32).toNatClampNeg = 10 := by decide
  refine ng_aload_1 dX3_take_0 ?_
  refine ng_gR dX3_take_1 fl_X3_9 (by first | rfl | assumption) ?_
  refine ng_iconst_0 dX3_take_4 ?_
  refine ng_aload_0 dX3_take_5 ?_
  refine ng_gR dX3_take_6 fl_X3_9 (by first | rfl | assumption) ?_
  refine ng_iconst_0 dX3_take_9 ?_
  refine ng_bipush (v := 10) dX3_take_10 (by decide) ?_
  refine ng_arraycopy dX3_take_12 lk_X3_34 mac_n mac_s li_J10 (by first | rfl | assumption) (by first | rfl | assumption) (by decide) (by decide) (by decide) (by decide) (by decide) (by first | decide | exact Nat.le_of_ble_eq_true rfl) ?_
  refine ng_aload_1 dX3_take_15 ?_
  refine ng_gR dX3_take_16 fl_X3_15 (by first | rfl | assumption) ?_
  refine ng_iconst_0 dX3_take_19 ?_
  refine ng_aload_0 dX3_take_20 ?_
  refine ng_gR dX3_take_21 fl_X3_15 (by first | rfl | assumption) ?_
  refine ng_iconst_0 dX3_take_24 ?_
  refine ng_bipush (v := 8) dX3_take_25 (by decide) ?_
  refine ng_arraycopy dX3_take_27 lk_X3_34 mac_n mac_s li_J10 (by first | rfl | assumption) (by first | rfl | assumption) (by decide) (by decide) (by decide) (by decide) (by decide) (by first | decide | exact Nat.le_of_ble_eq_true rfl) ?_
  refine ng_aload_1 dX3_take_30 ?_
  refine ng_gR dX3_take_31 fl_X3_18 (by first | rfl | assumption) ?_
  refine ng_iconst_0 dX3_take_34 ?_
  refine ng_aload_0 dX3_take_35 ?_
  refine ng_gR dX3_take_36 fl_X3_18 (by first | rfl | assumption) ?_
  refine ng_iconst_0 dX3_take_39 ?_
  refine ng_bipush (v := 8) dX3_take_40 (by decide) ?_
  refine ng_arraycopy dX3_take_42 lk_X3_34 mac_n mac_s li_J10 (by first | rfl | assumption) (by first | rfl | assumption) (by decide) (by decide) (by decide) (by decide) (by decide) (by first | decide | exact Nat.le_of_ble_eq_true rfl) ?_
  refine ng_aload_1 dX3_take_45 ?_
  refine ng_gR dX3_take_46 fl_X3_21 (by first | rfl | assumption) ?_
  refine ng_iconst_0 dX3_take_49 ?_
  refine ng_aload_0 dX3_take_50 ?_
  refine ng_gR dX3_take_51 fl_X3_21 (by first | rfl | assumption) ?_
  refine ng_iconst_0 dX3_take_54 ?_
  refine ng_bipush (v := 8) dX3_take_55 (by decide) ?_
  refine ng_arraycopy dX3_take_57 lk_X3_34 mac_n mac_s li_J10 (by first | rfl | assumption) (by first | rfl | assumption) (by decide) (by decide) (by decide) (by decide) (by decide) (by first | decide | exact Nat.le_of_ble_eq_true rfl) ?_
  refine ng_aload_0 dX3_take_60 ?_
  refine ng_gR dX3_take_61 fl_X3_27 (by first | rfl | assumption) ?_
  refine ng_aload_1 dX3_take_64 ?_
  refine ng_gR dX3_take_65 fl_X3_27 (by first | rfl | assumption) ?_
  refine ng_gR dX3_take_68 fl_X3_40 (by first | rfl | assumption) ?_
  refine ng_aload_1 dX3_take_71 ?_
  refine ng_gR dX3_take_72 fl_X3_27 (by first | rfl | assumption) ?_
  refine ng_gI dX3_take_75 fl_X3_43 (by first | rfl | assumption) ?_
  refine ng_callV_2v (y2 := mi_X0_take) dX3_take_78 lk_X3_47 ms_X0_take my_X0_take (by first | exact ⟨_, rfl⟩ | assumption | exact ng_fld_obj (f := 0) (by assumption)) mc_X0 (by first | decide | exact Nat.le_of_ble_eq_true rfl) (s_X0_take (f := 7) (n := n1) (Or.inl rfl) rfl (by decide) h1 g1) (by decide) ?_
  refine ng_aload_0 dX3_take_81 ?_
  refine ng_gR dX3_take_82 fl_X3_31 (by first | rfl | assumption) ?_
  refine ng_aload_1 dX3_take_85 ?_
  refine ng_gR dX3_take_86 fl_X3_31 (by first | rfl | assumption) ?_
  refine ng_gR dX3_take_89 fl_X3_40 (by first | rfl | assumption) ?_
  refine ng_aload_1 dX3_take_92 ?_
  refine ng_gR dX3_take_93 fl_X3_31 (by first | rfl | assumption) ?_
  refine ng_gI dX3_take_96 fl_X3_43 (by first | rfl | assumption) ?_
  refine ng_callV_2v (y2 := mi_X0_take) dX3_take_99 lk_X3_47 ms_X0_take my_X0_take (by first | exact ⟨_, rfl⟩ | assumption | exact ng_fld_obj (f := 0) (by assumption)) mc_X0 (by first | decide | exact Nat.le_of_ble_eq_true rfl) (s_X0_take (f := 11) (n := n2) (Or.inr (Or.inl rfl)) rfl (by decide) h2 g2) (by decide) ?_
  refine ng_aload_0 dX3_take_102 ?_
  refine ng_aload_1 dX3_take_103 ?_
  refine ng_gI dX3_take_104 fl_X3_51 (by first | rfl | assumption) ?_
  refine ng_pI dX3_take_107 fp_X3_51 (by first | rfl | assumption) rfl rfl ?_
  exact ng_return dX3_take_110 ⟨rfl, by
  simp only [c0, c8, c10]
  refine ⟨fun k hk => ?_, fun j hj => ?_, fun j hj => ⟨?_, ?_, ?_⟩, ?_, fun j hj => ?_, ?_, fun j hj => ?_, ?_⟩
  · simp at hk
    simp [ng_row, hk]
  · simp [ng_row, va_cpy, hj]
  · simp [ng_row, va_cpy, hj]
  · simp [ng_row, va_cpy, hj]
  · simp [ng_row, va_cpy, hj]
  · simp [ng_row, upd]
  · simp [ng_row, va_cpy, hj]
  · simp [ng_row, upd]
  · simp [ng_row, va_cpy, hj]
  · simp [ng_row, upd]⟩
theorem s_X3_take_21 {X : Nat × (Nat → Int32)} {M : ng_M} {n1 n2 : Nat} (h1 : M 7 1 = nI n1) (g1 : n1 ≤ 50) (h2 : M 11 1 = nI n2) (g2 : n2 ≤ 50) : ng_EvV X 4 mi_X3_take [.ref 21, .ref 2] M (fun M' => ng_rtook M 21 2 n1 n2 M') := by
  refine ng_EvV.of (lv := [some (.ref 21), some (.ref 2)]) (by decide) (Nat.le_of_ble_eq_true rfl) rfl rfl ?_
  have c0 : (0 : Int32).toNatClampNeg = 0 := by decide
  have c8 : (8 : Int32).toNatClampNeg = 8 := by decide
  have c10 : (10 : Int32).toNatClampNeg = 10 := by decide
  refine ng_aload_1 dX3_take_0 ?_
  refine ng_gR dX3_take_1 fl_X3_9 (by first | rfl | assumption) ?_
  refine ng_iconst_0 dX3_take_4 ?_
  refine ng_aload_0 dX3_take_5 ?_
  refine ng_gR dX3_take_6 fl_X3_9 (by first | rfl | assumption) ?_
  refine ng_iconst_0 dX3_take_9 ?_
  refine ng_bipush (v := 10) dX3_take_10 (by decide) ?_
  refine ng_arraycopy dX3_take_12 lk_X3_34 mac_n mac_s li_J10 (by first | rfl | assumption) (by first | rfl | assumption) (by decide) (by decide) (by decide) (by decide) (by decide) (by first | decide | exact Nat.le_of_ble_eq_true rfl) ?_
  refine ng_aload_1 dX3_take_15 ?_
  refine ng_gR dX3_take_16 fl_X3_15 (by first | rfl | assumption) ?_
  refine ng_iconst_0 dX3_take_19 ?_
  refine ng_aload_0 dX3_take_20 ?_
  refine ng_gR dX3_take_21 fl_X3_15 (by first | rfl | assumption) ?_
  refine ng_iconst_0 dX3_take_24 ?_
  refine ng_bipush (v := 8) dX3_take_25 (by decide) ?_
  refine ng_arraycopy dX3_take_27 lk_X3_34 mac_n mac_s li_J10 (by first | rfl | assumption) (by first | rfl | assumption) (by decide) (by decide) (by decide) (by decide) (by decide) (by first | decide | exact Nat.le_of_ble_eq_true rfl) ?_
  refine ng_aload_1 dX3_take_30 ?_
  refine ng_gR dX3_take_31 fl_X3_18 (by first | rfl | assumption) ?_
  refine ng_iconst_0 dX3_take_34 ?_
  refine ng_aload_0 dX3_take_35 ?_
  refine ng_gR dX3_take_36 fl_X3_18 (by first | rfl | assumption) ?_
  refine ng_iconst_0 dX3_take_39 ?_
  refine ng_bipush (v := 8) dX3_take_40 (by decide) ?_
  refine ng_arraycopy dX3_take_42 lk_X3_34 mac_n mac_s li_J10 (by first | rfl | assumption) (by first | rfl | assumption) (by decide) (by decide) (by decide) (by decide) (by decide) (by first | decide | exact Nat.le_of_ble_eq_true rfl) ?_
  refine ng_aload_1 dX3_take_45 ?_
  refine ng_gR dX3_take_46 fl_X3_21 (by first | rfl | assumption) ?_
  refine ng_iconst_0 dX3_take_49 ?_
  refine ng_aload_0 dX3_take_50 ?_
  refine ng_gR dX3_take_51 fl_X3_21 (by first | rfl | assumption) ?_
  refine ng_iconst_0 dX3_take_54 ?_
  refine ng_bipush (v := 8) dX3_take_55 (by decide) ?_
  refine ng_arraycopy dX3_take_57 lk_X3_34 mac_n mac_s li_J10 (by first | rfl | assumption) (by first | rfl | assumption) (by decide) (by decide) (by decide) (by decide) (by decide) (by first | decide | exact Nat.le_of_ble_eq_true rfl) ?_
  refine ng_aload_0 dX3_take_60 ?_
  refine ng_gR dX3_take_61 fl_X3_27 (by first | rfl | assumption) ?_
  refine ng_aload_1 dX3_take_64 ?_
  refine ng_gR dX3_take_65 fl_X3_27 (by first | rfl | assumption) ?_
  refine ng_gR dX3_take_68 fl_X3_40 (by first | rfl | assumption) ?_
  refine ng_aload_1 dX3_take_71 ?_
  refine ng_gR dX3_take_72 fl_X3_27 (by first | rfl | assumption) ?_
  refine ng_gI dX3_take_75 fl_X3_43 (by first | rfl | assumption) ?_
  refine ng_callV_2v (y2 := mi_X0_take) dX3_take_78 lk_X3_47 ms_X0_take my_X0_take (by first | exact ⟨_, rfl⟩ | assumption | exact ng_fld_obj (f := 0) (by assumption)) mc_X0 (by first | decide | exact Nat.le_of_ble_eq_true rfl) (s_X0_take (f := 26) (n := n1) (Or.inr (Or.inr (Or.inl rfl))) rfl (by decide) h1 g1) (by decide) ?_
  refine ng_aload_0 dX3_take_81 ?_
  refine ng_gR dX3_take_82 fl_X3_31 (by first | rfl | assumption) ?_
  refine ng_aload_1 dX3_take_85 ?_
  refine ng_gR dX3_take_86 fl_X3_31 (by first | rfl | assumption) ?_
  refine ng_gR dX3_take_89 fl_X3_40 (by first | rfl | assumption) ?_
  refine ng_aload_1 dX3_take_92 ?_
  refine ng_gR dX3_take_93 fl_X3_31 (by first | rfl | assumption) ?_
  refine ng_gI dX3_take_96 fl_X3_43 (by first | rfl | assumption) ?_
  refine ng_callV_2v (y2 := mi_X0_take) dX3_take_99 lk_X3_47 ms_X0_take my_X0_take (by first | exact ⟨_, rfl⟩ | assumption | exact ng_fld_obj (f := 0) (by assumption)) mc_X0 (by first | decide | exact Nat.le_of_ble_eq_true rfl) (s_X0_take (f := 30) (n := n2) (Or.inr (Or.inr (Or.inr rfl))) rfl (by decide) h2 g2) (by decide) ?_
  refine ng_aload_0 dX3_take_102 ?_
  refine ng_aload_1 dX3_take_103 ?_
  refine ng_gI dX3_take_104 fl_X3_51 (by first | rfl | assumption) ?_
  refine ng_pI dX3_take_107 fp_X3_51 (by first | rfl | assumption) rfl rfl ?_
  exact ng_return dX3_take_110 ⟨rfl, by
  simp only [c0, c8, c10]
  refine ⟨fun k hk => ?_, fun j hj => ?_, fun j hj => ⟨?_, ?_, ?_⟩, ?_, fun j hj => ?_, ?_, fun j hj => ?_, ?_⟩
  · simp at hk
    simp [ng_row, hk]
  · simp [ng_row, va_cpy, hj]
  · simp [ng_row, va_cpy, hj]
  · simp [ng_row, va_cpy, hj]
  · simp [ng_row, va_cpy, hj]
  · simp [ng_row, upd]
  · simp [ng_row, va_cpy, hj]
  · simp [ng_row, upd]
  · simp [ng_row, va_cpy, hj]
  · simp [ng_row, upd]⟩
/-- a whole as another one is -/
def ng_wtook (M : ng_M) (w w2 n1 n2 : Nat) (M' : ng_M) : Prop := (∀ k, ¬ (w ≤ k ∧ k ≤ w + 18) → M' k = M k) ∧ (∀ j, j < 10 → M' (w + 2) j = M (w2 + 2) j) ∧ (∀ j, j < 8 → M' (w + 3) j = M (w2 + 3) j ∧ M' (w + 4) j = M (w2 + 4) j ∧ M' (w + 5) j = M (w2 + 5) j ∧ M' (w + 15) j = M (w2 + 15) j) ∧ M' (w + 6) 1 = M (w2 + 6) 1 ∧ (∀ j, j < n1 → M' (w + 7) j = M (w2 + 7) j) ∧ M' (w + 10) 1 = M (w2 + 10) 1 ∧ (∀ j, j < n2 → M' (w + 11) j = M (w2 + 11) j) ∧ M' (w + 1) 6 = M (w2 + 1) 6 ∧ (∀ f, 3 ≤ f → f ≤ 8 → M' (w + 14) f = M (w2 + 14) f) ∧ (∀ j, j < 50 → M' (w + 17) j = M (w2 + 17) j) ∧ (∀ j, j < 20 → M' (w + 18) j = M (w2 + 18) j) ∧ (M' w 4 = M w2 4 ∧ M' w 5 = M w2 5 ∧ M' w 6 = M w2 6 ∧ M' w 7 = M w2 7)
theorem ng_lw : ∀ w, w = 1 ∨ w = 20 → (∀ j, j < 10 → ng_loc w (11 + j) = (w + 2, j)) ∧ (∀ j, j < 8 → ng_loc w (21 + 4 * j) = (w + 3, j) ∧ ng_loc w (22 + 4 * j) = (w + 4, j) ∧ ng_loc w (23 + 4 * j) = (w + 5, j) ∧ ng_loc w (24 + 4 * j) = (w + 15, j)) ∧ (∀ j, j < 50 → ng_loc w (53 + j) = (w + 17, j)) ∧ (∀ j, j < 20 → ng_loc w (103 + j) = (w + 18, j)) ∧ (∀ k, k < 8 → 2 ≤ k → ng_loc w k = (w + 14, k + 1)) ∧ ng_loc w 0 = (w, 6) ∧ ng_loc w 1 = (w + 1, 6) ∧ ng_loc w 8 = (w, 4) ∧ ng_loc w 9 = (w, 5) ∧ ng_loc w 10 = (w, 7) := by
  intro w hw
  rcases hw with rfl | rfl <;> decide +kernel
theorem ng_rep.wtook {M M' : ng_M} {w w2 n1 n2 : Nat} {a : ng_R} (hw : w = 1 ∨ w = 20) (hw2 : w2 = 1 ∨ w2 = 20) (h : ng_rep M w2 a) (h1 : M (w2 + 6) 1 = nI n1) (g1 : n1 ≤ 50) (h2 : M (w2 + 10) 1 = nI n2) (g2 : n2 ≤ 50) (ht : ng_wtook M w w2 n1 n2 M') : ng_rep M' w a := by
  obtain ⟨a1, a2, a3, a4, a5, a6, a7, a8, a9, a10⟩ := ng_lw w hw
  obtain ⟨b1, b2, b3, b4, b5, b6, b7, b8, b9, b10⟩ := ng_lw w2 hw2
  obtain ⟨-, t1, t2, t3, t4, t5, t6, t7, t8, t9, t10, t11, t12, t13, t14⟩ := ht
  obtain ⟨r1, ⟨r2, r3⟩, r4, r5⟩ := h
  have q : ∀ k x y x2 y2, k < 123 → ng_loc w k = (x, y) → ng_loc w2 k = (x2, y2) → M' x y = M x2 y2 → ng_cvr M' w k = a k := fun k x y x2 y2 hk e1 e2 e3 => by rw [ng_cvr_at e1, e3, ← ng_cvr_at (M := M) e2]; exact r1 k hk
  refine ⟨fun k hk => ?_, ⟨by rw [t3]; exact r2, fun j hj => ?_⟩, by rw [t5]; exact r4, fun j hj => ?_⟩
  · rcases ng_kcase k hk with rfl | rfl | rfl | rfl | rfl | h | ⟨j, hj, rfl⟩ | ⟨j, hj, h⟩ | ⟨j, hj, rfl⟩ | ⟨j, hj, rfl⟩
    · exact q _ _ _ _ _ hk a6 b6 t13
    · exact q _ _ _ _ _ hk a7 b7 t7
    · exact q _ _ _ _ _ hk a8 b8 t11
    · exact q _ _ _ _ _ hk a9 b9 t12
    · exact q _ _ _ _ _ hk a10 b10 t14
    · exact q _ _ _ _ _ hk (a5 k h.2 h.1) (b5 k h.2 h.1) (t8 _ (by omega) (by omega))
    · exact q _ _ _ _ _ hk (a1 j hj) (b1 j hj) (t1 j hj)
    · rcases h with rfl | rfl | rfl | rfl
      · exact q _ _ _ _ _ hk (a2 j hj).1 (b2 j hj).1 (t2 j hj).1
      · exact q _ _ _ _ _ hk (a2 j hj).2.1 (b2 j hj).2.1 (t2 j hj).2.1
      · exact q _ _ _ _ _ hk (a2 j hj).2.2.1 (b2 j hj).2.2.1 (t2 j hj).2.2.1
      · exact q _ _ _ _ _ hk (a2 j hj).2.2.2 (b2 j hj).2.2.2 (t2 j hj).2.2.2
    · exact q _ _ _ _ _ hk (a3 j hj) (b3 j hj) (t9 j hj)
    · exact q _ _ _ _ _ hk (a4 j hj) (b4 j hj) (t10 j hj)
  · rw [t3, h1, nI_clamp (by omega)] at hj
    rw [t4 j hj]; exact r3 j (by rw [h1, nI_clamp (by omega)]; exact hj)
  · rw [t5, h2, nI_clamp (by omega)] at hj
    rw [t6 j hj]; exact r5 j (by rw [h2, nI_clamp (by omega)]; exact hj)
theorem s_X7_take_1 {X : Nat × (Nat → Int32)} {M : ng_M} {n1 n2 : Nat} (h1 : M 26 1 = nI n1) (g1 : n1 ≤ 50) (h2 : M 30 1 = nI n2) (g2 : n2 ≤ 50) : ng_EvV X 5 mi_X7_take [.ref 1, .ref 20] M (fun M' => ng_wtook M 1 20 n1 n2 M') := by
  refine ng_EvV.of (lv := [some (.ref 1), some (.ref 20)]) (by decide) (Nat.le_of_ble_eq_true rfl) rfl rfl ?_
  have c0 : (0 : Int32).toNatClampNeg = 0 := by decide
  have c50 : (50 : Int32).toNatClampNeg = 50 := by decide
  have c20 : (20 : Int32).toNatClampNeg = 20 := by decide
  refine ng_aload_0 dX7_take_0 ?_
  refine ng_gR dX7_take_1 fl_X7_12 (by first | rfl | assumption) ?_
  refine ng_aload_1 dX7_take_4 ?_
  refine ng_gR dX7_take_5 fl_X7_12 (by first | rfl | assumption) ?_
  refine ng_callV_1w (y2 := mi_X3_take) dX7_take_8 lk_X7_38 ms_X3_take my_X3_take (by first | exact ⟨_, rfl⟩ | assumption | exact ng_fld_obj (f := 0) (by assumption)) mc_X3 (by first | decide | exact Nat.le_of_ble_eq_true rfl) (s_X3_take_2 h1 g1 h2 g2) (by decide) (fun M1 q1 => ?_)
  refine ng_aload_0 dX7_take_11 ?_
  refine ng_gR dX7_take_12 fl_X7_23 (by first | rfl | assumption) ?_
  refine ng_aload_1 dX7_take_15 ?_
  refine ng_gR dX7_take_16 fl_X7_23 (by first | rfl | assumption) ?_
  refine ng_callV_1w (y2 := mi_X5_take) dX7_take_19 lk_X7_41 ms_X5_take my_X5_take (by first | exact ⟨_, rfl⟩ | assumption | exact ng_fld_obj (f := 0) (by assumption)) mc_X5 (by first | decide | exact Nat.le_of_ble_eq_true rfl) (s_X5_take (s := 15) (s2 := 34) (Or.inl rfl) (Or.inr (Or.inl rfl)) (by decide)) (by decide) (fun M2 q2 => ?_)
  refine ng_aload_1 dX7_take_22 ?_
  refine ng_gR dX7_take_23 fl_X7_27 (by first | rfl | assumption) ?_
  refine ng_iconst_0 dX7_take_26 ?_
  refine ng_aload_0 dX7_take_27 ?_
  refine ng_gR dX7_take_28 fl_X7_27 (by first | rfl | assumption) ?_
  refine ng_iconst_0 dX7_take_31 ?_
  refine ng_bipush (v := 50) dX7_take_32 (by decide) ?_
  refine ng_arraycopy dX7_take_34 lk_X7_44 mac_n mac_s li_J10 (by first | rfl | assumption) (by first | rfl | assumption) (by decide) (by decide) (by decide) (by decide) (by decide) (by first | decide | exact Nat.le_of_ble_eq_true rfl) ?_
  refine ng_aload_1 dX7_take_37 ?_
  refine ng_gR dX7_take_38 fl_X7_31 (by first | rfl | assumption) ?_
  refine ng_iconst_0 dX7_take_41 ?_
  refine ng_aload_0 dX7_take_42 ?_
  refine ng_gR dX7_take_43 fl_X7_31 (by first | rfl | assumption) ?_
  refine ng_iconst_0 dX7_take_46 ?_
  refine ng_bipush (v := 20) dX7_take_47 (by decide) ?_
  refine ng_arraycopy dX7_take_49 lk_X7_44 mac_n mac_s li_J10 (by first | rfl | assumption) (by first | rfl | assumption) (by decide) (by decide) (by decide) (by decide) (by decide) (by first | decide | exact Nat.le_of_ble_eq_true rfl) ?_
  refine ng_aload_0 dX7_take_52 ?_
  refine ng_aload_1 dX7_take_53 ?_
  refine ng_gI dX7_take_54 fl_X7_50 (by first | rfl | assumption) ?_
  refine ng_pI dX7_take_57 fp_X7_50 (by first | rfl | assumption) rfl rfl ?_
  refine ng_aload_0 dX7_take_60 ?_
  refine ng_aload_1 dX7_take_61 ?_
  refine ng_gI dX7_take_62 fl_X7_53 (by first | rfl | assumption) ?_
  refine ng_pI dX7_take_65 fp_X7_53 (by first | rfl | assumption) rfl rfl ?_
  refine ng_aload_0 dX7_take_68 ?_
  refine ng_aload_1 dX7_take_69 ?_
  refine ng_gI dX7_take_70 fl_X7_56 (by first | rfl | assumption) ?_
  refine ng_pI dX7_take_73 fp_X7_56 (by first | rfl | assumption) rfl rfl ?_
  refine ng_aload_0 dX7_take_76 ?_
  refine ng_aload_1 dX7_take_77 ?_
  refine ng_gI dX7_take_78 fl_X7_34 (by first | rfl | assumption) ?_
  refine ng_pI dX7_take_81 fp_X7_34 (by first | rfl | assumption) rfl rfl ?_
  exact ng_return dX7_take_84 ⟨rfl, by
  simp only [c0, c50, c20]
  obtain ⟨o1, t1, t2, t3, t4, t5, t6, t7⟩ := q1
  obtain ⟨o2, u1, -, u2⟩ := q2
  have e : ∀ k, k ∉ [2, 3, 4, 5, 6, 7, 8, 11, 12, 15, 16, 17] → M2 k = M k := fun k hk => by
    simp at hk
    rw [o2 k (by simp <;> omega), o1 k (by simp <;> omega)]
  have f : ∀ k, k ∉ [15, 16, 17] → M2 k = M1 k := fun k hk => o2 k (by simp at hk ⊢; omega)
  refine ⟨fun k hk => ?_, fun j hj => ?_, fun j hj => ⟨?_, ?_, ?_, ?_⟩, ?_, fun j hj => ?_, ?_, fun j hj => ?_, ?_, fun g g3 g8 => ?_, fun j hj => ?_, fun j hj => ?_, ?_, ?_, ?_, ?_⟩
  · have k0 : ¬ k = 1 := by omega
    have k1 : ¬ k = 18 := by omega
    have k2 : ¬ k = 19 := by omega
    simp [ng_row, k0, k1, k2]
    exact e k (by simp <;> omega)
  · simp [ng_row]; rw [f _ (by decide)]; exact t1 j hj
  · simp [ng_row]; rw [f _ (by decide)]; exact (t2 j hj).1
  · simp [ng_row]; rw [f _ (by decide)]; exact (t2 j hj).2.1
  · simp [ng_row]; rw [f _ (by decide)]; exact (t2 j hj).2.2
  · simp [ng_row]; have := u1 j hj; rw [o1 _ (by decide)] at this; exact this
  · simp [ng_row]; rw [f _ (by decide)]; exact t3
  · simp [ng_row]; rw [f _ (by decide)]; exact t4 j hj
  · simp [ng_row]; rw [f _ (by decide)]; exact t5
  · simp [ng_row]; rw [f _ (by decide)]; exact t6 j hj
  · simp [ng_row]; rw [f _ (by decide)]; exact t7
  · simp [ng_row]; have := u2 g g3 g8; rw [o1 _ (by decide)] at this; exact this
  · simp [ng_row, va_cpy, hj]; rw [e _ (by decide)]
  · simp [ng_row, va_cpy, hj]; rw [e _ (by decide)]
  · simp [ng_row, upd]; rw [e _ (by decide)]
  · simp [ng_row, upd]; rw [e _ (by decide)]
  · simp [ng_row, upd]; rw [e _ (by decide)]
  · simp [ng_row, upd]; rw [e _ (by decide)]⟩
theorem s_X7_take_20 {X : Nat × (Nat → Int32)} {M : ng_M} {n1 n2 : Nat} (h1 : M 7 1 = nI n1) (g1 : n1 ≤ 50) (h2 : M 11 1 = nI n2) (g2 : n2 ≤ 50) : ng_EvV X 5 mi_X7_take [.ref 20, .ref 1] M (fun M' => ng_wtook M 20 1 n1 n2 M') := by
  refine ng_EvV.of (lv := [some (.ref 20), some (.ref 1)]) (by decide) (Nat.le_of_ble_eq_true rfl) rfl rfl ?_
  have c0 : (0 : Int32).toNatClampNeg = 0 := by decide
  have c50 : (50 : Int32).toNatClampNeg = 50 := by decide
  have c20 : (20 : Int32).toNatClampNeg = 20 := by decide
  refine ng_aload_0 dX7_take_0 ?_
  refine ng_gR dX7_take_1 fl_X7_12 (by first | rfl | assumption) ?_
  refine ng_aload_1 dX7_take_4 ?_
  refine ng_gR dX7_take_5 fl_X7_12 (by first | rfl | assumption) ?_
  refine ng_callV_1w (y2 := mi_X3_take) dX7_take_8 lk_X7_38 ms_X3_take my_X3_take (by first | exact ⟨_, rfl⟩ | assumption | exact ng_fld_obj (f := 0) (by assumption)) mc_X3 (by first | decide | exact Nat.le_of_ble_eq_true rfl) (s_X3_take_21 h1 g1 h2 g2) (by decide) (fun M1 q1 => ?_)
  refine ng_aload_0 dX7_take_11 ?_
  refine ng_gR dX7_take_12 fl_X7_23 (by first | rfl | assumption) ?_
  refine ng_aload_1 dX7_take_15 ?_
  refine ng_gR dX7_take_16 fl_X7_23 (by first | rfl | assumption) ?_
  refine ng_callV_1w (y2 := mi_X5_take) dX7_take_19 lk_X7_41 ms_X5_take my_X5_take (by first | exact ⟨_, rfl⟩ | assumption | exact ng_fld_obj (f := 0) (by assumption)) mc_X5 (by first | decide | exact Nat.le_of_ble_eq_true rfl) (s_X5_take (s := 34) (s2 := 15) (Or.inr (Or.inl rfl)) (Or.inl rfl) (by decide)) (by decide) (fun M2 q2 => ?_)
  refine ng_aload_1 dX7_take_22 ?_
  refine ng_gR dX7_take_23 fl_X7_27 (by first | rfl | assumption) ?_
  refine ng_iconst_0 dX7_take_26 ?_
  refine ng_aload_0 dX7_take_27 ?_
  refine ng_gR dX7_take_28 fl_X7_27 (by first | rfl | assumption) ?_
  refine ng_iconst_0 dX7_take_31 ?_
  refine ng_bipush (v := 50) dX7_take_32 (by decide) ?_
  refine ng_arraycopy dX7_take_34 lk_X7_44 mac_n mac_s li_J10 (by first | rfl | assumption) (by first | rfl | assumption) (by decide) (by decide) (by decide) (by decide) (by decide) (by first | decide | exact Nat.le_of_ble_eq_true rfl) ?_
  refine ng_aload_1 dX7_take_37 ?_
  refine ng_gR dX7_take_38 fl_X7_31 (by first | rfl | assumption) ?_
  refine ng_iconst_0 dX7_take_41 ?_
  refine ng_aload_0 dX7_take_42 ?_
  refine ng_gR dX7_take_43 fl_X7_31 (by first | rfl | assumption) ?_
  refine ng_iconst_0 dX7_take_46 ?_
  refine ng_bipush (v := 20) dX7_take_47 (by decide) ?_
  refine ng_arraycopy dX7_take_49 lk_X7_44 mac_n mac_s li_J10 (by first | rfl | assumption) (by first | rfl | assumption) (by decide) (by decide) (by decide) (by decide) (by decide) (by first | decide | exact Nat.le_of_ble_eq_true rfl) ?_
  refine ng_aload_0 dX7_take_52 ?_
  refine ng_aload_1 dX7_take_53 ?_
  refine ng_gI dX7_take_54 fl_X7_50 (by first | rfl | assumption) ?_
  refine ng_pI dX7_take_57 fp_X7_50 (by first | rfl | assumption) rfl rfl ?_
  refine ng_aload_0 dX7_take_60 ?_
  refine ng_aload_1 dX7_take_61 ?_
  refine ng_gI dX7_take_62 fl_X7_53 (by first | rfl | assumption) ?_
  refine ng_pI dX7_take_65 fp_X7_53 (by first | rfl | assumption) rfl rfl ?_
  refine ng_aload_0 dX7_take_68 ?_
  refine ng_aload_1 dX7_take_69 ?_
  refine ng_gI dX7_take_70 fl_X7_56 (by first | rfl | assumption) ?_
  refine ng_pI dX7_take_73 fp_X7_56 (by first | rfl | assumption) rfl rfl ?_
  refine ng_aload_0 dX7_take_76 ?_
  refine ng_aload_1 dX7_take_77 ?_
  refine ng_gI dX7_take_78 fl_X7_34 (by first | rfl | assumption) ?_
  refine ng_pI dX7_take_81 fp_X7_34 (by first | rfl | assumption) rfl rfl ?_
  exact ng_return dX7_take_84 ⟨rfl, by
  simp only [c0, c50, c20]
  obtain ⟨o1, t1, t2, t3, t4, t5, t6, t7⟩ := q1
  obtain ⟨o2, u1, -, u2⟩ := q2
  have e : ∀ k, k ∉ [21, 22, 23, 24, 25, 26, 27, 30, 31, 34, 35, 36] → M2 k = M k := fun k hk => by
    simp at hk
    rw [o2 k (by simp <;> omega), o1 k (by simp <;> omega)]
  have f : ∀ k, k ∉ [34, 35, 36] → M2 k = M1 k := fun k hk => o2 k (by simp at hk ⊢; omega)
  refine ⟨fun k hk => ?_, fun j hj => ?_, fun j hj => ⟨?_, ?_, ?_, ?_⟩, ?_, fun j hj => ?_, ?_, fun j hj => ?_, ?_, fun g g3 g8 => ?_, fun j hj => ?_, fun j hj => ?_, ?_, ?_, ?_, ?_⟩
  · have k0 : ¬ k = 20 := by omega
    have k1 : ¬ k = 37 := by omega
    have k2 : ¬ k = 38 := by omega
    simp [ng_row, k0, k1, k2]
    exact e k (by simp <;> omega)
  · simp [ng_row]; rw [f _ (by decide)]; exact t1 j hj
  · simp [ng_row]; rw [f _ (by decide)]; exact (t2 j hj).1
  · simp [ng_row]; rw [f _ (by decide)]; exact (t2 j hj).2.1
  · simp [ng_row]; rw [f _ (by decide)]; exact (t2 j hj).2.2
  · simp [ng_row]; have := u1 j hj; rw [o1 _ (by decide)] at this; exact this
  · simp [ng_row]; rw [f _ (by decide)]; exact t3
  · simp [ng_row]; rw [f _ (by decide)]; exact t4 j hj
  · simp [ng_row]; rw [f _ (by decide)]; exact t5
  · simp [ng_row]; rw [f _ (by decide)]; exact t6 j hj
  · simp [ng_row]; rw [f _ (by decide)]; exact t7
  · simp [ng_row]; have := u2 g g3 g8; rw [o1 _ (by decide)] at this; exact this
  · simp [ng_row, va_cpy, hj]; rw [e _ (by decide)]
  · simp [ng_row, va_cpy, hj]; rw [e _ (by decide)]
  · simp [ng_row, upd]; rw [e _ (by decide)]
  · simp [ng_row, upd]; rw [e _ (by decide)]
  · simp [ng_row, upd]; rw [e _ (by decide)]
  · simp [ng_row, upd]; rw [e _ (by decide)]⟩
