/-! ===== sheets; pairs: sheet, put, move ===== -/
def ng_e8 {α : Type} (M : ng_M) (E : Nat ⊕ α) (v : α → Int32) (m : α → ng_M → Prop) (r : Int32) (M1 : ng_M) : Prop := match E with | .inl k => r = ng_er k ∧ M1 = ng_cfl M k | .inr x => r = v x ∧ m x M1
def ng_e9 {α : Type} (M : ng_M) (E : Nat ⊕ α) (v : α → Int32) (m : α → ng_M → Prop) (r : Int32) (M1 : ng_M) : Prop := match E with | .inl k => r = ng_er k ∧ M1 = ng_rfl M k | .inr x => r = v x ∧ m x M1
theorem ng_pair.E {α : Type} {X : Nat × (Nat → Int32)} {M : ng_M} {y8 y9 : ng_Y} {as : List Value} {E : Nat ⊕ α} {v : α → Int32} {mC : α → ng_M → Prop} {mR : ng_M → α → ng_M → Prop} {d8 d9 : Nat} (h : ng_inv M) (h8 : ng_EvI X d8 y8 (.ref 0 :: as) M (ng_e8 M E v mC)) (hd8 : d8 ≤ 60) (hd9 : d9 ≤ 60)
    (h9 : ∀ M1, (∀ k, 73 ≤ k → M1 k = M k) → ng_EvI X d9 y9 (.ref 73 :: as) M1 (ng_e9 M1 E v (mR M1))) (hC : ∀ x M1, E = .inr x → mC x M1 → ∀ k, 73 ≤ k → M1 k = M k) (hI : ∀ x M1 M2, E = .inr x → mC x M1 → mR M1 x M2 → ng_inv M2) : ng_pair X y8 y9 as M := by
  refine (h8.up hd8).imp (fun r1 M1 h1 => ?_)
  cases hE : E with
  | inl k =>
    rw [hE] at h1
    obtain ⟨e1, e2⟩ := h1
    refine ((h9 M1 (fun j hj => by rw [e2, ng_cfl, ng_row_ne (by omega)])).up hd9).imp (fun r2 M2 h2 => ?_)
    rw [hE] at h2
    obtain ⟨f1, f2⟩ := h2
    exact ⟨by rw [e1, f1], by rw [f2, e2]; exact ng_inv_err h⟩
  | inr x =>
    rw [hE] at h1
    obtain ⟨e1, e2⟩ := h1
    refine ((h9 M1 (hC x M1 hE e2)).up hd9).imp (fun r2 M2 h2 => ?_)
    rw [hE] at h2
    obtain ⟨f1, f2⟩ := h2
    exact ⟨by rw [e1, f1], hI x M1 M2 hE e2 f2⟩
theorem ng_inv_I5 {M M' : ng_M} (h : ng_inv M) (h5 : ng_I5 M') (ho : ∀ k, ¬ (64 ≤ k ∧ k ≤ 71) → ¬ (86 ≤ k ∧ k ≤ 89) → M' k = M k) : ng_inv M' := by
  obtain ⟨i1, i2, i3, i4, i5, i6⟩ := h
  exact ⟨i1.congr (fun k k1 k2 => ho k (by omega) (by omega)) (ho 74 (by omega) (by omega)), i2.congr (fun k k1 k2 => ho k (by omega) (by omega)) (by rw [ho 0 (by omega) (by omega)]) (by rw [ho 73 (by omega) (by omega)]) (ho 75 (by omega) (by omega)), i3.congr (ho 72 (by omega) (by omega)) (ho 77 (by omega) (by omega)), i4.congr (by rw [ho 58 (by omega) (by omega)]) (ho 59 (by omega) (by omega)) (by rw [ho 73 (by omega) (by omega)]) (ho 85 (by omega) (by omega)), h5, i6.congr (ho 78 (by omega) (by omega))⟩
theorem ng_H {i : Nat} (h : i < 4) : ng_fld (64 + 2 * i) 0 = some (4, some (65 + 2 * i)) ∧ ng_fld (64 + 2 * i) 1 = some (4, none) ∧ ng_fld (64 + 2 * i) 2 = some (4, none) ∧ ng_HS[65 + 2 * i]? = some (.inr (.inl 40)) ∧ ng_obj (64 + 2 * i) 4 := by
  have c : i = 0 ∨ i = 1 ∨ i = 2 ∨ i = 3 := by omega
  rcases c with rfl | rfl | rfl | rfl <;> exact ⟨rfl, rfl, rfl, rfl, _, rfl⟩
theorem ng_sh_at : ∀ i, i < 4 → ([64, 66, 68, 70] : List Nat)[i]? = some (64 + 2 * i) := by decide
theorem ng_s4 {s : Int32} (h : ng_in s 0 3 = true) : s = nI s.toNatClampNeg ∧ s.toNatClampNeg < 4 ∧ vp_in s 4 := ⟨ng_nat (ng_vin h (n := 4) (by decide)).1, (ng_vin h (n := 4) (by decide)).2, (ng_vin h (n := 4) (by decide)).1⟩
theorem s_X8_sheetAt {X : Nat × (Nat → Int32)} {M : ng_M} {s : Int32} (h : ng_in s 0 3 = true) : ng_EvX X 2 mi_X8_sheetAt [.ref 0, .int s] M (some (.ref (64 + 2 * s.toNatClampNeg))) M := by
  obtain ⟨q1, q2, q3⟩ := ng_s4 h
  refine ng_EvX.ofR (lv := [some (.ref 0), some (.int s)]) (by decide) (Nat.le_of_ble_eq_true rfl) rfl rfl ?_
  refine ng_iload_1 dX8_sheetAt_0 ?_
  refine ng_iconst_0 dX8_sheetAt_1 ?_
  refine ng_iconst_3 dX8_sheetAt_2 ?_
  refine ng_callS_3x (y2 := mi_X8_isWithin) dX8_sheetAt_3 lk_X8_61 ms_X8_isWithin my_X8_isWithin (by first | decide | exact Nat.le_of_ble_eq_true rfl) (s_X8_isWithin) (by decide) ?_
  refine ng_ifb_eq 18 dX8_sheetAt_6 (by decide +kernel) (fun h6 => ?_) (fun h6 => ?_)
  · rw [h] at h6; exact absurd h6 (by decide)
  · refine ng_aload_0 dX8_sheetAt_9 ?_
    refine ng_gR dX8_sheetAt_10 fl_X8_48 (by first | rfl | assumption) ?_
    refine ng_iload_1 dX8_sheetAt_13 ?_
    refine ng_aald dX8_sheetAt_14 (by first | rfl | assumption) (by decide) (by exact q3) (by exact ng_sh_at _ q2) ?_
    refine ng_goto 19 dX8_sheetAt_15 (by decide +kernel) ?_
    exact ng_areturn dX8_sheetAt_19 ⟨rfl, rfl⟩
theorem s_X8_sheetAtN {X : Nat × (Nat → Int32)} {M : ng_M} {s : Int32} (h : ng_in s 0 3 = false) : ng_EvX X 2 mi_X8_sheetAt [.ref 0, .int s] M (some .null) M := by
  refine ng_EvX.ofN (lv := [some (.ref 0), some (.int s)]) (by decide) (Nat.le_of_ble_eq_true rfl) rfl rfl ?_
  refine ng_iload_1 dX8_sheetAt_0 ?_
  refine ng_iconst_0 dX8_sheetAt_1 ?_
  refine ng_iconst_3 dX8_sheetAt_2 ?_
  refine ng_callS_3x (y2 := mi_X8_isWithin) dX8_sheetAt_3 lk_X8_61 ms_X8_isWithin my_X8_isWithin (by first | decide | exact Nat.le_of_ble_eq_true rfl) (s_X8_isWithin) (by decide) ?_
  refine ng_ifb_eq 18 dX8_sheetAt_6 (by decide +kernel) (fun h6 => ?_) (fun h6 => ?_)
  · refine ng_null dX8_sheetAt_18 ?_
    exact ng_areturnN dX8_sheetAt_19 ⟨rfl, rfl⟩
  · rw [h] at h6; exact absurd h6 (by decide)
theorem s_X4_isMissing {X : Nat × (Nat → Int32)} {M : ng_M} {i : Nat} (hi : i < 4) : ng_EvX X 1 mi_X4_isMissing [.ref (64 + 2 * i)] M (some (.int (ng_bi (decide (M (64 + 2 * i) 1 = 0))))) M := by
  obtain ⟨hf0, hf1, hf2, hf3, hf4⟩ := ng_H hi
  refine ng_EvX.ofI (lv := [some (.ref (64 + 2 * i))]) (ty := .boolean) (by decide) (Nat.le_of_ble_eq_true rfl) rfl rfl (ng_bi_nar _) ?_
  refine ng_aload_0 dX4_isMissing_0 ?_
  refine ng_gI dX4_isMissing_1 fl_X4_15 (by first | rfl | assumption) ?_
  refine ng_if_ne 11 dX4_isMissing_4 (by decide +kernel) (fun h4 => ?_) (fun h4 => ?_)
  · refine ng_iconst_0 dX4_isMissing_11 ?_
    exact ng_ireturn dX4_isMissing_12 ⟨by simp [h4, ng_bi], rfl⟩
  · refine ng_iconst_1 dX4_isMissing_7 ?_
    refine ng_goto 12 dX4_isMissing_8 (by decide +kernel) ?_
    exact ng_ireturn dX4_isMissing_12 ⟨by simp [h4, ng_bi], rfl⟩
theorem s_X4_number {X : Nat × (Nat → Int32)} {M : ng_M} {i L : Nat} {j : Int32} (hi : i < 4) (hL : M (64 + 2 * i) 2 = nI L) (hL40 : L ≤ 40) : ng_EvX X 2 mi_X4_number [.ref (64 + 2 * i), .int j] M (some (.int (if ng_in j 0 (M (64 + 2 * i) 2 - 1) then M (65 + 2 * i) j.toNatClampNeg else 0))) M := by
  obtain ⟨hf0, hf1, hf2, hf3, hf4⟩ := ng_H hi
  refine ng_EvX.ofI (lv := [some (.ref (64 + 2 * i)), some (.int j)]) (ty := .int) (by decide) (Nat.le_of_ble_eq_true rfl) rfl rfl rfl ?_
  refine ng_iload_1 dX4_number_0 ?_
  refine ng_iconst_0 dX4_number_1 ?_
  refine ng_aload_0 dX4_number_2 ?_
  refine ng_gI dX4_number_3 fl_X4_23 (by first | rfl | assumption) ?_
  refine ng_iconst_1 dX4_number_6 ?_
  refine ng_isub dX4_number_7 ?_
  refine ng_callSN_3x (y2 := mi_X8_isWithin) dX4_number_8 (by decide : (RX4, 26, yX8_isWithin, "NinePots") ∈ ng_nm) ms_X8_isWithin my_X8_isWithin (by first | decide | exact Nat.le_of_ble_eq_true rfl) (s_X8_isWithin) (by decide) ?_
  refine ng_ifb_eq 23 dX4_number_11 (by decide +kernel) (fun h11 => ?_) (fun h11 => ?_)
  · refine ng_iconst_0 dX4_number_23 ?_
    exact ng_ireturn dX4_number_24 ⟨by first | (rw [if_pos h11]; done) | (rw [if_neg (by rw [h11]; decide)]; done), rfl⟩
  · refine ng_aload_0 dX4_number_14 ?_
    refine ng_gR dX4_number_15 fl_X4_9 (by first | rfl | assumption) ?_
    refine ng_iload_1 dX4_number_18 ?_
    refine ng_iald dX4_number_19 (by first | rfl | assumption) (by exact (ng_vp_m h11 hL hL40 (by decide)).1) ?_
    refine ng_goto 24 dX4_number_20 (by decide +kernel) ?_
    exact ng_ireturn dX4_number_24 ⟨by first | (rw [if_pos h11]; done) | (rw [if_neg (by rw [h11]; decide)]; done), rfl⟩
def ng_low (b v : Int32) : Int32 := if b = 8 then v.toInt8.toInt32 else if b = 16 then v.toInt16.toInt32 else v
theorem sw_X4_lowest_4 {X : Nat × (Nat → Int32)} {d : Nat} {lv : ng_L} {st : List Value} {M : ng_M} {F : Option Value → ng_M → Prop} {x : Int32} (k0 : x = 8 → ng_Go X mi_X4_lowest d 32 lv st M F) (k1 : x = 16 → ng_Go X mi_X4_lowest d 35 lv st M F) (kd : ¬ x = 8 → ¬ x = 16 → ng_Go X mi_X4_lowest d 38 lv st M F) : ng_Go X mi_X4_lowest d 4 lv (.int x :: st) M F := by
  by_cases h0 : x = 8
  · subst h0
    intro l D cA ad A p e R s m args below meth c cells slots Q C fin H locs ls hP hS hl
    exact lv_lookup (tgt := 32) C.1.1 C.1.2.1 dX4_lowest_4 (by decide +kernel) rfl (by decide +kernel) (k0 rfl l D cA ad A p e R s m args below meth c cells slots Q C fin H locs ls hP hS hl)
  by_cases h1 : x = 16
  · subst h1
    intro l D cA ad A p e R s m args below meth c cells slots Q C fin H locs ls hP hS hl
    exact lv_lookup (tgt := 35) C.1.1 C.1.2.1 dX4_lowest_4 (by decide +kernel) rfl (by decide +kernel) (k1 rfl l D cA ad A p e R s m args below meth c cells slots Q C fin H locs ls hP hS hl)
  intro l D cA ad A p e R s m args below meth c cells slots Q C fin H locs ls hP hS hl
  have g0 := lv_neT h0 (show (8 : Int32).toInt = 8 from by decide)
  have g1 := lv_neT h1 (show (16 : Int32).toInt = 16 from by decide)
  refine lv_lookup (tgt := 38) (off := 34) C.1.1 C.1.2.1 dX4_lowest_4 (by decide +kernel) ?_ (by decide) (kd h0 h1 l D cA ad A p e R s m args below meth c cells slots Q C fin H locs ls hP hS hl)
  show Op.lookupswitch.offset [((8 : Int), (28 : Int)), ((16 : Int), (31 : Int))] _ _ = _
  rw [lv_osw h0 (show (8 : Int32).toInt = 8 from by decide), lv_osw h1 (show (16 : Int32).toInt = 16 from by decide)]
  rfl
theorem s_X4_lowest {X : Nat × (Nat → Int32)} {M : ng_M} {i : Nat} {v : Int32} (hi : i < 4) : ng_EvX X 1 mi_X4_lowest [.ref (64 + 2 * i), .int v] M (some (.int (ng_low (M (64 + 2 * i) 1) v))) M := by
  obtain ⟨hf0, hf1, hf2, hf3, hf4⟩ := ng_H hi
  refine ng_EvX.ofI (lv := [some (.ref (64 + 2 * i)), some (.int v)]) (ty := .int) (by decide) (Nat.le_of_ble_eq_true rfl) rfl rfl rfl ?_
  refine ng_aload_0 dX4_lowest_0 ?_
  refine ng_gI dX4_lowest_1 fl_X4_15 (by first | rfl | assumption) ?_
  refine sw_X4_lowest_4 (fun h4 => ?_) (fun h4 => ?_) (fun h4n0 h4n1 => ?_)
  · refine ng_iload_1 dX4_lowest_32 ?_
    refine ng_i2b dX4_lowest_33 ?_
    exact ng_ireturn dX4_lowest_34 ⟨by rw [ng_low, if_pos h4], rfl⟩
  · refine ng_iload_1 dX4_lowest_35 ?_
    refine ng_i2s dX4_lowest_36 ?_
    exact ng_ireturn dX4_lowest_37 ⟨by rw [ng_low, if_neg (by rw [h4]; decide), if_pos h4], rfl⟩
  · refine ng_iload_1 dX4_lowest_38 ?_
    exact ng_ireturn dX4_lowest_39 ⟨by rw [ng_low, if_neg h4n0, if_neg h4n1], rfl⟩
theorem s_X4_change {X : Nat × (Nat → Int32)} {M : ng_M} {i L : Nat} {j v : Int32} (hi : i < 4) (hL : M (64 + 2 * i) 2 = nI L) (hL40 : L ≤ 40) (hj : ng_in j 0 (M (64 + 2 * i) 2 - 1) = true) : ng_EvX X 2 mi_X4_change [.ref (64 + 2 * i), .int j, .int v] M none (ng_row M (65 + 2 * i) (upd (M (65 + 2 * i)) j.toNatClampNeg (ng_low (M (64 + 2 * i) 1) v))) := by
  obtain ⟨hf0, hf1, hf2, hf3, hf4⟩ := ng_H hi
  refine ng_EvX.ofV (lv := [some (.ref (64 + 2 * i)), some (.int j), some (.int v)]) (by decide) (Nat.le_of_ble_eq_true rfl) rfl rfl ?_
  refine ng_iload_1 dX4_change_0 ?_
  refine ng_iconst_0 dX4_change_1 ?_
  refine ng_aload_0 dX4_change_2 ?_
  refine ng_gI dX4_change_3 fl_X4_23 (by first | rfl | assumption) ?_
  refine ng_iconst_1 dX4_change_6 ?_
  refine ng_isub dX4_change_7 ?_
  refine ng_callSN_3x (y2 := mi_X8_isWithin) dX4_change_8 (by decide : (RX4, 26, yX8_isWithin, "NinePots") ∈ ng_nm) ms_X8_isWithin my_X8_isWithin (by first | decide | exact Nat.le_of_ble_eq_true rfl) (s_X8_isWithin) (by decide) ?_
  refine ng_ifb_eq 25 dX4_change_11 (by decide +kernel) (fun h11 => ?_) (fun h11 => ?_)
  · rw [hj] at h11; exact absurd h11 (by decide)
  · refine ng_aload_0 dX4_change_14 ?_
    refine ng_gR dX4_change_15 fl_X4_9 (by first | rfl | assumption) ?_
    refine ng_iload_1 dX4_change_18 ?_
    refine ng_aload_0 dX4_change_19 ?_
    refine ng_iload_2 dX4_change_20 ?_
    refine ng_callV_1x (y2 := mi_X4_lowest) dX4_change_21 lk_X4_30 ms_X4_lowest my_X4_lowest (by first | exact ⟨_, rfl⟩ | assumption | exact ng_fld_obj (f := 0) (by assumption)) mc_X4 (by first | decide | exact Nat.le_of_ble_eq_true rfl) (s_X4_lowest hi) (by decide) ?_
    refine ng_iast dX4_change_24 (by first | rfl | assumption) (by exact (ng_vp_m hj hL hL40 (by decide)).1) ?_
    exact ng_return dX4_change_25 ⟨rfl, rfl⟩
def ng_zero (g : Nat → Int32) (k : Nat) : Nat → Int32 := fun j => if j < k then 0 else g j
theorem ng_zero_s {g : Nat → Int32} {k : Nat} : upd (ng_zero g k) k 0 = ng_zero g (k + 1) := by
  funext j
  by_cases q : j = k
  · subst q; rw [ng_upd_eq, ng_zero, if_pos (by omega)]
  · rw [ng_upd_ne q, ng_zero, ng_zero]
    by_cases q2 : j < k
    · rw [if_pos q2, if_pos (by omega)]
    · rw [if_neg q2, if_neg (by omega)]
theorem ng_row_self {M : ng_M} {k : Nat} : ng_row M k (M k) = M := by
  funext j
  by_cases q : j = k
  · subst q; rw [ng_row_eq]
  · rw [ng_row_ne q]
abbrev ng_bec (M : ng_M) (i : Nat) (b n : Int32) : ng_M := ng_row (ng_row M (64 + 2 * i) (upd (upd (M (64 + 2 * i)) 1 b) 2 n)) (65 + 2 * i) (ng_zero (M (65 + 2 * i)) 40)
theorem l_X4_becomes {X : Nat × (Nat → Int32)} {M : ng_M} {i : Nat} {b n : Int32} (hi : i < 4) : ∀ (m k : Nat), k + m = 40 →
    ng_Go X mi_X4_becomes 2 18 [some (.ref (64 + 2 * i)), some (.int b), some (.int n), some (.int (nI k))] [] (ng_row M (65 + 2 * i) (ng_zero (M (65 + 2 * i)) k)) (fun r' M' => r' = none ∧ M' = ng_row M (65 + 2 * i) (ng_zero (M (65 + 2 * i)) 40)) := by
  obtain ⟨hf0, hf1, hf2, hf3, hf4⟩ := ng_H hi
  intro m
  induction m with
  | zero =>
    intro k hk
    have hk2 : k = 40 := by omega
    subst hk2
    refine ng_iload_3 dX4_becomes_18 ?_
    refine ng_bipush (v := 40) dX4_becomes_19 (by decide) ?_
    refine ng_icmp_ge 37 dX4_becomes_21 (by decide +kernel) (fun h21 => ?_) (fun h21 => ?_)
    · exact ng_return dX4_becomes_37 ⟨rfl, rfl⟩
    · exact absurd (show (40 : Int32) ≤ nI 40 by decide) h21
  | succ m ih =>
    intro k hk
    have hv : vp_in (nI k) 40 := vp_in_nI (by omega) (by omega)
    refine ng_iload_3 dX4_becomes_18 ?_
    refine ng_bipush (v := 40) dX4_becomes_19 (by decide) ?_
    refine ng_icmp_ge 37 dX4_becomes_21 (by decide +kernel) (fun h21 => ?_) (fun h21 => ?_)
    · exact absurd (show nI 40 ≤ nI k from h21) (nI_ge (by omega) (by omega))
    · refine ng_aload_0 dX4_becomes_24 ?_
      refine ng_gR dX4_becomes_25 fl_X4_9 (by first | rfl | assumption) ?_
      refine ng_iload_3 dX4_becomes_28 ?_
      refine ng_iconst_0 dX4_becomes_29 ?_
      refine ng_iastL (j := k) dX4_becomes_30 (by first | rfl | assumption) (by first | assumption | (unfold vp_in; decide)) (by first | assumption | exact nI_clamp (by omega)) ?_
      refine ng_iinc_3 (w := 1) dX4_becomes_31 (by decide) rfl ?_
      refine ng_goto 18 dX4_becomes_34 (by decide +kernel) ?_
      rw [nI_1, ng_row_row, ng_row_eq, ng_zero_s]
      exact ih (k + 1) (by omega)
theorem s_X4_becomes {X : Nat × (Nat → Int32)} {M : ng_M} {i : Nat} {b n : Int32} (hi : i < 4) (h0 : 0 ≤ n.toInt) (h40 : n.toInt ≤ 40) : ng_EvX X 2 mi_X4_becomes [.ref (64 + 2 * i), .int b, .int n] M none (ng_bec M i b n) := by
  obtain ⟨hf0, hf1, hf2, hf3, hf4⟩ := ng_H hi
  have hh : ng_held n 0 40 = n := by
    apply ng_i_eq
    rw [ng_heldI, ng_0, show (40 : Int32).toInt = 40 by decide]
    omega
  have z0 : ∀ N : ng_M, ng_row N (65 + 2 * i) (ng_zero (N (65 + 2 * i)) 0) = N := fun N => by
    have : ng_zero (N (65 + 2 * i)) 0 = N (65 + 2 * i) := by funext j; rw [ng_zero, if_neg (by omega)]
    rw [this, ng_row_self]
  refine ng_EvX.ofV (lv := [some (.ref (64 + 2 * i)), some (.int b), some (.int n), none]) (by decide) (Nat.le_of_ble_eq_true rfl) rfl rfl ?_
  refine ng_aload_0 dX4_becomes_0 ?_
  refine ng_iload_1 dX4_becomes_1 ?_
  refine ng_pI dX4_becomes_2 fp_X4_15 (by first | rfl | assumption) rfl rfl ?_
  refine ng_aload_0 dX4_becomes_5 ?_
  refine ng_iload_2 dX4_becomes_6 ?_
  refine ng_iconst_0 dX4_becomes_7 ?_
  refine ng_bipush (v := 40) dX4_becomes_8 (by decide) ?_
  refine ng_callSN_3x (y2 := mi_X8_held) dX4_becomes_10 (by decide : (RX4, 19, yX8_held, "NinePots") ∈ ng_nm) ms_X8_held my_X8_held (by first | decide | exact Nat.le_of_ble_eq_true rfl) (s_X8_held) (by decide) ?_
  rw [hh]
  refine ng_pI dX4_becomes_13 fp_X4_23 (by first | rfl | assumption) rfl rfl ?_
  refine ng_iconst_0 dX4_becomes_16 ?_
  refine ng_istore_3 dX4_becomes_17 (by first | rfl | assumption) ?_
  rw [ng_row_row, ng_row_eq]
  have z := l_X4_becomes (X := X) (M := ng_row M (64 + 2 * i) (upd (upd (M (64 + 2 * i)) 1 b) 2 n)) (b := b) (n := n) hi 40 0 (by omega)
  rw [z0] at z
  refine z.imp (fun r M' q => ⟨q.1, ?_⟩)
  rw [q.2, ng_row_ne (show 65 + 2 * i ≠ 64 + 2 * i by omega)]
def ng_shE (s b n : Int32) : Nat ⊕ Int32 := if ng_in s 0 3 then (if b = 0 then .inr 0 else if b = 8 ∨ b = 16 ∨ b = 32 then (if n < 0 then .inl 3 else if n ≤ 40 then .inr n else .inl 1) else .inl 1) else .inl 1
theorem ng_shE_v {s b n x : Int32} (h : ng_shE s b n = .inr x) : ng_in s 0 3 = true ∧ 0 ≤ x.toInt ∧ x.toInt ≤ 40 ∧ (b = 0 ∨ b = 8 ∨ b = 16 ∨ b = 32) := by
  unfold ng_shE at h
  split at h
  · rename_i q
    split at h
    · rename_i q0; cases h; exact ⟨q, by decide, by decide, Or.inl q0⟩
    · split at h
      · rename_i q8
        split at h
        · cases h
        · rename_i qn
          split at h
          · rename_i q40
            cases h
            rw [ng_lt, ng_0] at qn
            rw [ng_le, show (40 : Int32).toInt = 40 by decide] at q40
            exact ⟨q, by omega, q40, Or.inr q8⟩
          · cases h
      · cases h
  · cases h
theorem c_sheet {X : Nat × (Nat → Int32)} {M : ng_M} {s b n : Int32} : ng_EvI X 4 mi_X8_sheet [.ref 0, .int s, .int b, .int n] M (ng_e8 M (ng_shE s b n) (fun _ => 1) (fun x M1 => M1 = ng_bec M s.toNatClampNeg b x)) := by
  refine ng_EvI.of (lv := [some (.ref 0), some (.int s), some (.int b), some (.int n), none]) (ty := .int) (by decide) (Nat.le_of_ble_eq_true rfl) rfl rfl (fun _ _ _ => rfl) ?_
  by_cases hin : ng_in s 0 3 = true
  · obtain ⟨q1, q2, q3⟩ := ng_s4 hin
    obtain ⟨hf0, hf1, hf2, hf3, hf4⟩ := ng_H q2
    unfold ng_shE
    rw [if_pos hin]
    refine ng_aload_0 dX8_sheet_0 ?_
    refine ng_iload_1 dX8_sheet_1 ?_
    refine ng_callV_1x (y2 := mi_X8_sheetAt) dX8_sheet_2 lk_X8_122 ms_X8_sheetAt my_X8_sheetAt (by first | exact ⟨_, rfl⟩ | assumption | exact ng_fld_obj (f := 0) (by assumption)) mc_X8 (by first | decide | exact Nat.le_of_ble_eq_true rfl) (s_X8_sheetAt hin) (by decide) ?_
    refine ng_astore_4 dX8_sheet_5 (by first | rfl | assumption) ?_
    refine ng_aload_4 dX8_sheet_7 ?_
    refine ng_ifnull dX8_sheet_9 ?_
    refine ng_iload_2 dX8_sheet_12 ?_
    refine ng_if_eq 41 dX8_sheet_13 (by decide +kernel) (fun h13 => ?_) (fun h13 => ?_)
    · refine ng_iload_2 dX8_sheet_41 ?_
      refine ng_if_ne 54 dX8_sheet_42 (by decide +kernel) (fun h42 => ?_) (fun h42 => ?_)
      · refine ng_iload_3 dX8_sheet_54 ?_
        refine ng_if_ge 65 dX8_sheet_55 (by decide +kernel) (fun h55 => ?_) (fun h55 => ?_)
        · refine ng_iload_3 dX8_sheet_65 ?_
          refine ng_bipush (v := 40) dX8_sheet_66 (by decide) ?_
          refine ng_icmp_le 78 dX8_sheet_68 (by decide +kernel) (fun h68 => ?_) (fun h68 => ?_)
          · have n0 : 0 ≤ n.toInt := by rw [ng_le, ng_0] at h55; exact h55
            have n40 : n.toInt ≤ 40 := by rw [ng_le, show (40 : Int32).toInt = 40 by decide] at h68; exact h68
            have nn : ¬ n < 0 := by rw [ng_lt, ng_0]; omega
            refine ng_aload_4 dX8_sheet_78 ?_
            refine ng_iload_2 dX8_sheet_80 ?_
            refine ng_iload_3 dX8_sheet_81 ?_
            refine ng_callV_2v (y2 := mi_X4_becomes) dX8_sheet_82 lk_X8_269 ms_X4_becomes my_X4_becomes (by first | exact ⟨_, rfl⟩ | assumption | exact ng_fld_obj (f := 0) (by assumption)) mc_X4 (by first | decide | exact Nat.le_of_ble_eq_true rfl) (s_X4_becomes q2 n0 n40) (by decide) ?_
            refine ng_iconst_1 dX8_sheet_85 ?_
            exact ng_ireturn dX8_sheet_86 ⟨_, rfl, by rw [if_neg h42, if_pos (by first | exact Or.inl h19 | exact Or.inr (Or.inl h25) | exact Or.inr (Or.inr h31) | exact absurd h13 h42), if_neg nn, if_pos h68]; exact ⟨rfl, rfl⟩⟩
          · refine ng_aload_0 dX8_sheet_71 ?_
            refine ng_ldc dX8_sheet_72 kc_X8_65 ?_
            refine ng_callV_1x (y2 := mi_X8_fails) dX8_sheet_74 lk_X8_66 ms_X8_fails my_X8_fails (by first | exact ⟨_, rfl⟩ | assumption | exact ng_fld_obj (f := 0) (by assumption)) mc_X8 (by first | decide | exact Nat.le_of_ble_eq_true rfl) (s_X8_fails (k := 1) (by decide) (by decide) (by decide)) (by decide) ?_
            exact ng_ireturn dX8_sheet_77 ⟨_, rfl, by rw [if_neg h42, if_pos (by first | exact Or.inl h19 | exact Or.inr (Or.inl h25) | exact Or.inr (Or.inr h31) | exact absurd h13 h42), if_neg (Int32.not_lt.mpr h55), if_neg h68]; exact ⟨by decide, rfl⟩⟩
        · refine ng_aload_0 dX8_sheet_58 ?_
          refine ng_ldc dX8_sheet_59 kc_X8_191 ?_
          refine ng_callV_1x (y2 := mi_X8_fails) dX8_sheet_61 lk_X8_66 ms_X8_fails my_X8_fails (by first | exact ⟨_, rfl⟩ | assumption | exact ng_fld_obj (f := 0) (by assumption)) mc_X8 (by first | decide | exact Nat.le_of_ble_eq_true rfl) (s_X8_fails (k := 3) (by decide) (by decide) (by decide)) (by decide) ?_
          exact ng_ireturn dX8_sheet_64 ⟨_, rfl, by rw [if_neg h42, if_pos (by first | exact Or.inl h19 | exact Or.inr (Or.inl h25) | exact Or.inr (Or.inr h31) | exact absurd h13 h42), if_pos (Int32.not_le.mp h55)]; exact ⟨by decide, rfl⟩⟩
      · refine ng_aload_4 dX8_sheet_45 ?_
        refine ng_iconst_0 dX8_sheet_47 ?_
        refine ng_iconst_0 dX8_sheet_48 ?_
        refine ng_callV_2v (y2 := mi_X4_becomes) dX8_sheet_49 lk_X8_269 ms_X4_becomes my_X4_becomes (by first | exact ⟨_, rfl⟩ | assumption | exact ng_fld_obj (f := 0) (by assumption)) mc_X4 (by first | decide | exact Nat.le_of_ble_eq_true rfl) (s_X4_becomes q2 (by decide) (by decide)) (by decide) ?_
        refine ng_iconst_1 dX8_sheet_52 ?_
        exact ng_ireturn dX8_sheet_53 ⟨_, rfl, by rw [if_pos h42]; exact ⟨rfl, by rw [h42]⟩⟩
    · refine ng_iload_2 dX8_sheet_16 ?_
      refine ng_bipush (v := 8) dX8_sheet_17 (by decide) ?_
      refine ng_icmp_eq 41 dX8_sheet_19 (by decide +kernel) (fun h19 => ?_) (fun h19 => ?_)
      · refine ng_iload_2 dX8_sheet_41 ?_
        refine ng_if_ne 54 dX8_sheet_42 (by decide +kernel) (fun h42 => ?_) (fun h42 => ?_)
        · refine ng_iload_3 dX8_sheet_54 ?_
          refine ng_if_ge 65 dX8_sheet_55 (by decide +kernel) (fun h55 => ?_) (fun h55 => ?_)
          · refine ng_iload_3 dX8_sheet_65 ?_
            refine ng_bipush (v := 40) dX8_sheet_66 (by decide) ?_
            refine ng_icmp_le 78 dX8_sheet_68 (by decide +kernel) (fun h68 => ?_) (fun h68 => ?_)
            · have n0 : 0 ≤ n.toInt := by rw [ng_le, ng_0] at h55; exact h55
              have n40 : n.toInt ≤ 40 := by rw [ng_le, show (40 : Int32).toInt = 40 by decide] at h68; exact h68
              have nn : ¬ n < 0 := by rw [ng_lt, ng_0]; omega
              refine ng_aload_4 dX8_sheet_78 ?_
              refine ng_iload_2 dX8_sheet_80 ?_
              refine ng_iload_3 dX8_sheet_81 ?_
              refine ng_callV_2v (y2 := mi_X4_becomes) dX8_sheet_82 lk_X8_269 ms_X4_becomes my_X4_becomes (by first | exact ⟨_, rfl⟩ | assumption | exact ng_fld_obj (f := 0) (by assumption)) mc_X4 (by first | decide | exact Nat.le_of_ble_eq_true rfl) (s_X4_becomes q2 n0 n40) (by decide) ?_
              refine ng_iconst_1 dX8_sheet_85 ?_
              exact ng_ireturn dX8_sheet_86 ⟨_, rfl, by rw [if_neg h42, if_pos (by first | exact Or.inl h19 | exact Or.inr (Or.inl h25) | exact Or.inr (Or.inr h31) | exact absurd h13 h42), if_neg nn, if_pos h68]; exact ⟨rfl, rfl⟩⟩
            · refine ng_aload_0 dX8_sheet_71 ?_
              refine ng_ldc dX8_sheet_72 kc_X8_65 ?_
              refine ng_callV_1x (y2 := mi_X8_fails) dX8_sheet_74 lk_X8_66 ms_X8_fails my_X8_fails (by first | exact ⟨_, rfl⟩ | assumption | exact ng_fld_obj (f := 0) (by assumption)) mc_X8 (by first | decide | exact Nat.le_of_ble_eq_true rfl) (s_X8_fails (k := 1) (by decide) (by decide) (by decide)) (by decide) ?_
              exact ng_ireturn dX8_sheet_77 ⟨_, rfl, by rw [if_neg h42, if_pos (by first | exact Or.inl h19 | exact Or.inr (Or.inl h25) | exact Or.inr (Or.inr h31) | exact absurd h13 h42), if_neg (Int32.not_lt.mpr h55), if_neg h68]; exact ⟨by decide, rfl⟩⟩
          · refine ng_aload_0 dX8_sheet_58 ?_
            refine ng_ldc dX8_sheet_59 kc_X8_191 ?_
            refine ng_callV_1x (y2 := mi_X8_fails) dX8_sheet_61 lk_X8_66 ms_X8_fails my_X8_fails (by first | exact ⟨_, rfl⟩ | assumption | exact ng_fld_obj (f := 0) (by assumption)) mc_X8 (by first | decide | exact Nat.le_of_ble_eq_true rfl) (s_X8_fails (k := 3) (by decide) (by decide) (by decide)) (by decide) ?_
            exact ng_ireturn dX8_sheet_64 ⟨_, rfl, by rw [if_neg h42, if_pos (by first | exact Or.inl h19 | exact Or.inr (Or.inl h25) | exact Or.inr (Or.inr h31) | exact absurd h13 h42), if_pos (Int32.not_le.mp h55)]; exact ⟨by decide, rfl⟩⟩
        · refine ng_aload_4 dX8_sheet_45 ?_
          refine ng_iconst_0 dX8_sheet_47 ?_
          refine ng_iconst_0 dX8_sheet_48 ?_
          refine ng_callV_2v (y2 := mi_X4_becomes) dX8_sheet_49 lk_X8_269 ms_X4_becomes my_X4_becomes (by first | exact ⟨_, rfl⟩ | assumption | exact ng_fld_obj (f := 0) (by assumption)) mc_X4 (by first | decide | exact Nat.le_of_ble_eq_true rfl) (s_X4_becomes q2 (by decide) (by decide)) (by decide) ?_
          refine ng_iconst_1 dX8_sheet_52 ?_
          exact ng_ireturn dX8_sheet_53 ⟨_, rfl, by rw [if_pos h42]; exact ⟨rfl, by rw [h42]⟩⟩
      · refine ng_iload_2 dX8_sheet_22 ?_
        refine ng_bipush (v := 16) dX8_sheet_23 (by decide) ?_
        refine ng_icmp_eq 41 dX8_sheet_25 (by decide +kernel) (fun h25 => ?_) (fun h25 => ?_)
        · refine ng_iload_2 dX8_sheet_41 ?_
          refine ng_if_ne 54 dX8_sheet_42 (by decide +kernel) (fun h42 => ?_) (fun h42 => ?_)
          · refine ng_iload_3 dX8_sheet_54 ?_
            refine ng_if_ge 65 dX8_sheet_55 (by decide +kernel) (fun h55 => ?_) (fun h55 => ?_)
            · refine ng_iload_3 dX8_sheet_65 ?_
              refine ng_bipush (v := 40) dX8_sheet_66 (by decide) ?_
              refine ng_icmp_le 78 dX8_sheet_68 (by decide +kernel) (fun h68 => ?_) (fun h68 => ?_)
              · have n0 : 0 ≤ n.toInt := by rw [ng_le, ng_0] at h55; exact h55
                have n40 : n.toInt ≤ 40 := by rw [ng_le, show (40 : Int32).toInt = 40 by decide] at h68; exact h68
                have nn : ¬ n < 0 := by rw [ng_lt, ng_0]; omega
                refine ng_aload_4 dX8_sheet_78 ?_
                refine ng_iload_2 dX8_sheet_80 ?_
                refine ng_iload_3 dX8_sheet_81 ?_
                refine ng_callV_2v (y2 := mi_X4_becomes) dX8_sheet_82 lk_X8_269 ms_X4_becomes my_X4_becomes (by first | exact ⟨_, rfl⟩ | assumption | exact ng_fld_obj (f := 0) (by assumption)) mc_X4 (by first | decide | exact Nat.le_of_ble_eq_true rfl) (s_X4_becomes q2 n0 n40) (by decide) ?_
                refine ng_iconst_1 dX8_sheet_85 ?_
                exact ng_ireturn dX8_sheet_86 ⟨_, rfl, by rw [if_neg h42, if_pos (by first | exact Or.inl h19 | exact Or.inr (Or.inl h25) | exact Or.inr (Or.inr h31) | exact absurd h13 h42), if_neg nn, if_pos h68]; exact ⟨rfl, rfl⟩⟩
              · refine ng_aload_0 dX8_sheet_71 ?_
                refine ng_ldc dX8_sheet_72 kc_X8_65 ?_
                refine ng_callV_1x (y2 := mi_X8_fails) dX8_sheet_74 lk_X8_66 ms_X8_fails my_X8_fails (by first | exact ⟨_, rfl⟩ | assumption | exact ng_fld_obj (f := 0) (by assumption)) mc_X8 (by first | decide | exact Nat.le_of_ble_eq_true rfl) (s_X8_fails (k := 1) (by decide) (by decide) (by decide)) (by decide) ?_
                exact ng_ireturn dX8_sheet_77 ⟨_, rfl, by rw [if_neg h42, if_pos (by first | exact Or.inl h19 | exact Or.inr (Or.inl h25) | exact Or.inr (Or.inr h31) | exact absurd h13 h42), if_neg (Int32.not_lt.mpr h55), if_neg h68]; exact ⟨by decide, rfl⟩⟩
            · refine ng_aload_0 dX8_sheet_58 ?_
              refine ng_ldc dX8_sheet_59 kc_X8_191 ?_
              refine ng_callV_1x (y2 := mi_X8_fails) dX8_sheet_61 lk_X8_66 ms_X8_fails my_X8_fails (by first | exact ⟨_, rfl⟩ | assumption | exact ng_fld_obj (f := 0) (by assumption)) mc_X8 (by first | decide | exact Nat.le_of_ble_eq_true rfl) (s_X8_fails (k := 3) (by decide) (by decide) (by decide)) (by decide) ?_
              exact ng_ireturn dX8_sheet_64 ⟨_, rfl, by rw [if_neg h42, if_pos (by first | exact Or.inl h19 | exact Or.inr (Or.inl h25) | exact Or.inr (Or.inr h31) | exact absurd h13 h42), if_pos (Int32.not_le.mp h55)]; exact ⟨by decide, rfl⟩⟩
          · refine ng_aload_4 dX8_sheet_45 ?_
            refine ng_iconst_0 dX8_sheet_47 ?_
            refine ng_iconst_0 dX8_sheet_48 ?_
            refine ng_callV_2v (y2 := mi_X4_becomes) dX8_sheet_49 lk_X8_269 ms_X4_becomes my_X4_becomes (by first | exact ⟨_, rfl⟩ | assumption | exact ng_fld_obj (f := 0) (by assumption)) mc_X4 (by first | decide | exact Nat.le_of_ble_eq_true rfl) (s_X4_becomes q2 (by decide) (by decide)) (by decide) ?_
            refine ng_iconst_1 dX8_sheet_52 ?_
            exact ng_ireturn dX8_sheet_53 ⟨_, rfl, by rw [if_pos h42]; exact ⟨rfl, by rw [h42]⟩⟩
        · refine ng_iload_2 dX8_sheet_28 ?_
          refine ng_bipush (v := 32) dX8_sheet_29 (by decide) ?_
          refine ng_icmp_eq 41 dX8_sheet_31 (by decide +kernel) (fun h31 => ?_) (fun h31 => ?_)
          · refine ng_iload_2 dX8_sheet_41 ?_
            refine ng_if_ne 54 dX8_sheet_42 (by decide +kernel) (fun h42 => ?_) (fun h42 => ?_)
            · refine ng_iload_3 dX8_sheet_54 ?_
              refine ng_if_ge 65 dX8_sheet_55 (by decide +kernel) (fun h55 => ?_) (fun h55 => ?_)
              · refine ng_iload_3 dX8_sheet_65 ?_
                refine ng_bipush (v := 40) dX8_sheet_66 (by decide) ?_
                refine ng_icmp_le 78 dX8_sheet_68 (by decide +kernel) (fun h68 => ?_) (fun h68 => ?_)
                · have n0 : 0 ≤ n.toInt := by rw [ng_le, ng_0] at h55; exact h55
                  have n40 : n.toInt ≤ 40 := by rw [ng_le, show (40 : Int32).toInt = 40 by decide] at h68; exact h68
                  have nn : ¬ n < 0 := by rw [ng_lt, ng_0]; omega
                  refine ng_aload_4 dX8_sheet_78 ?_
                  refine ng_iload_2 dX8_sheet_80 ?_
                  refine ng_iload_3 dX8_sheet_81 ?_
                  refine ng_callV_2v (y2 := mi_X4_becomes) dX8_sheet_82 lk_X8_269 ms_X4_becomes my_X4_becomes (by first | exact ⟨_, rfl⟩ | assumption | exact ng_fld_obj (f := 0) (by assumption)) mc_X4 (by first | decide | exact Nat.le_of_ble_eq_true rfl) (s_X4_becomes q2 n0 n40) (by decide) ?_
                  refine ng_iconst_1 dX8_sheet_85 ?_
                  exact ng_ireturn dX8_sheet_86 ⟨_, rfl, by rw [if_neg h42, if_pos (by first | exact Or.inl h19 | exact Or.inr (Or.inl h25) | exact Or.inr (Or.inr h31) | exact absurd h13 h42), if_neg nn, if_pos h68]; exact ⟨rfl, rfl⟩⟩
                · refine ng_aload_0 dX8_sheet_71 ?_
                  refine ng_ldc dX8_sheet_72 kc_X8_65 ?_
                  refine ng_callV_1x (y2 := mi_X8_fails) dX8_sheet_74 lk_X8_66 ms_X8_fails my_X8_fails (by first | exact ⟨_, rfl⟩ | assumption | exact ng_fld_obj (f := 0) (by assumption)) mc_X8 (by first | decide | exact Nat.le_of_ble_eq_true rfl) (s_X8_fails (k := 1) (by decide) (by decide) (by decide)) (by decide) ?_
                  exact ng_ireturn dX8_sheet_77 ⟨_, rfl, by rw [if_neg h42, if_pos (by first | exact Or.inl h19 | exact Or.inr (Or.inl h25) | exact Or.inr (Or.inr h31) | exact absurd h13 h42), if_neg (Int32.not_lt.mpr h55), if_neg h68]; exact ⟨by decide, rfl⟩⟩
              · refine ng_aload_0 dX8_sheet_58 ?_
                refine ng_ldc dX8_sheet_59 kc_X8_191 ?_
                refine ng_callV_1x (y2 := mi_X8_fails) dX8_sheet_61 lk_X8_66 ms_X8_fails my_X8_fails (by first | exact ⟨_, rfl⟩ | assumption | exact ng_fld_obj (f := 0) (by assumption)) mc_X8 (by first | decide | exact Nat.le_of_ble_eq_true rfl) (s_X8_fails (k := 3) (by decide) (by decide) (by decide)) (by decide) ?_
                exact ng_ireturn dX8_sheet_64 ⟨_, rfl, by rw [if_neg h42, if_pos (by first | exact Or.inl h19 | exact Or.inr (Or.inl h25) | exact Or.inr (Or.inr h31) | exact absurd h13 h42), if_pos (Int32.not_le.mp h55)]; exact ⟨by decide, rfl⟩⟩
            · refine ng_aload_4 dX8_sheet_45 ?_
              refine ng_iconst_0 dX8_sheet_47 ?_
              refine ng_iconst_0 dX8_sheet_48 ?_
              refine ng_callV_2v (y2 := mi_X4_becomes) dX8_sheet_49 lk_X8_269 ms_X4_becomes my_X4_becomes (by first | exact ⟨_, rfl⟩ | assumption | exact ng_fld_obj (f := 0) (by assumption)) mc_X4 (by first | decide | exact Nat.le_of_ble_eq_true rfl) (s_X4_becomes q2 (by decide) (by decide)) (by decide) ?_
              refine ng_iconst_1 dX8_sheet_52 ?_
              exact ng_ireturn dX8_sheet_53 ⟨_, rfl, by rw [if_pos h42]; exact ⟨rfl, by rw [h42]⟩⟩
          · refine ng_aload_0 dX8_sheet_34 ?_
            refine ng_ldc dX8_sheet_35 kc_X8_65 ?_
            refine ng_callV_1x (y2 := mi_X8_fails) dX8_sheet_37 lk_X8_66 ms_X8_fails my_X8_fails (by first | exact ⟨_, rfl⟩ | assumption | exact ng_fld_obj (f := 0) (by assumption)) mc_X8 (by first | decide | exact Nat.le_of_ble_eq_true rfl) (s_X8_fails (k := 1) (by decide) (by decide) (by decide)) (by decide) ?_
            exact ng_ireturn dX8_sheet_40 ⟨_, rfl, by rw [if_neg h13, if_neg (by rintro (q | q | q); exact h19 q; exact h25 q; exact h31 q)]; exact ⟨by decide, rfl⟩⟩
  · unfold ng_shE
    rw [if_neg hin]
    refine ng_aload_0 dX8_sheet_0 ?_
    refine ng_iload_1 dX8_sheet_1 ?_
    refine ng_callV_1x (y2 := mi_X8_sheetAt) dX8_sheet_2 lk_X8_122 ms_X8_sheetAt my_X8_sheetAt (by first | exact ⟨_, rfl⟩ | assumption | exact ng_fld_obj (f := 0) (by assumption)) mc_X8 (by first | decide | exact Nat.le_of_ble_eq_true rfl) (s_X8_sheetAtN ((Bool.not_eq_true _).mp hin)) (by decide) ?_
    refine ng_astoreN_4 dX8_sheet_5 (by first | rfl | assumption) ?_
    refine ng_aloadN_4 dX8_sheet_7 ?_
    refine ng_ifnullN 34 dX8_sheet_9 (by decide +kernel) ?_
    refine ng_aload_0 dX8_sheet_34 ?_
    refine ng_ldc dX8_sheet_35 kc_X8_65 ?_
    refine ng_callV_1x (y2 := mi_X8_fails) dX8_sheet_37 lk_X8_66 ms_X8_fails my_X8_fails (by first | exact ⟨_, rfl⟩ | assumption | exact ng_fld_obj (f := 0) (by assumption)) mc_X8 (by first | decide | exact Nat.le_of_ble_eq_true rfl) (s_X8_fails (k := 1) (by decide) (by decide) (by decide)) (by decide) ?_
    exact ng_ireturn dX8_sheet_40 ⟨_, rfl, by decide, rfl⟩
theorem ng_i40 {s t : Int32} {i k : Nat} (hs : s = nI i) (ht : t = nI k) : 40 * s + t = nI (40 * i + k) := by
  rw [hs, ht]
  exact (congrArg (· + nI k) (nI_mul 40 i)).trans (nI_add _ _)
def ng_z160 (g : Nat → Int32) (i k : Nat) : Nat → Int32 := fun j => if 40 * i ≤ j ∧ j < 40 * i + k then 0 else g j
theorem ng_z160_s {g : Nat → Int32} {i k : Nat} : upd (ng_z160 g i k) (40 * i + k) 0 = ng_z160 g i (k + 1) := by
  funext j
  by_cases q : j = 40 * i + k
  · subst q; rw [ng_upd_eq, ng_z160, if_pos (by omega)]
  · rw [ng_upd_ne q, ng_z160, ng_z160]
    by_cases q2 : 40 * i ≤ j ∧ j < 40 * i + k
    · rw [if_pos q2, if_pos (by omega)]
    · rw [if_neg q2, if_neg (by omega)]
theorem l_X9_sheet {X : Nat × (Nat → Int32)} {M : ng_M} {i : Nat} {s b n : Int32} (hs : s = nI i) (hi : i < 4) : ∀ (m k : Nat), k + m = 40 →
    ng_Go X mi_X9_sheet 3 93 [some (.ref 73), some (.int s), some (.int b), some (.int n), some (.int (nI k))] [] (ng_row M 88 (ng_z160 (M 88) i k)) (fun r' M' => ∃ v, r' = some (.int v) ∧ v = 1 ∧ M' = ng_row M 88 (ng_z160 (M 88) i 40)) := by
  intro m
  induction m with
  | zero =>
    intro k hk
    have hk2 : k = 40 := by omega
    subst hk2
    refine ng_iload_4 dX9_sheet_93 ?_
    refine ng_bipush (v := 40) dX9_sheet_95 (by decide) ?_
    refine ng_icmp_ge 119 dX9_sheet_97 (by decide +kernel) (fun h97 => ?_) (fun h97 => ?_)
    · refine ng_iconst_1 dX9_sheet_119 ?_
      exact ng_ireturn dX9_sheet_120 ⟨_, rfl, rfl, rfl⟩
    · exact absurd (show (40 : Int32) ≤ nI 40 by decide) h97
  | succ m ih =>
    intro k hk
    have hx : 40 * s + nI k = nI (40 * i + k) := ng_i40 hs rfl
    refine ng_iload_4 dX9_sheet_93 ?_
    refine ng_bipush (v := 40) dX9_sheet_95 (by decide) ?_
    refine ng_icmp_ge 119 dX9_sheet_97 (by decide +kernel) (fun h97 => ?_) (fun h97 => ?_)
    · exact absurd (show nI 40 ≤ nI k from h97) (nI_ge (by omega) (by omega))
    · refine ng_aload_0 dX9_sheet_100 ?_
      refine ng_gR dX9_sheet_101 fl_X9_60 (by first | rfl | assumption) ?_
      refine ng_bipush (v := 40) dX9_sheet_104 (by decide) ?_
      refine ng_iload_1 dX9_sheet_106 ?_
      refine ng_imul dX9_sheet_107 ?_
      refine ng_iload_4 dX9_sheet_108 ?_
      refine ng_iadd dX9_sheet_110 ?_
      refine ng_iconst_0 dX9_sheet_111 ?_
      refine ng_iastL (j := (40 * i + k)) dX9_sheet_112 (by first | rfl | assumption) (by rw [hx]; exact vp_in_nI (by omega) (by omega)) (by rw [hx, nI_clamp (by omega)]) ?_
      refine ng_iinc_4 (w := 1) dX9_sheet_113 (by decide) rfl ?_
      refine ng_goto 93 dX9_sheet_116 (by decide +kernel) ?_
      rw [nI_1, ng_row_row, ng_row_eq, ng_z160_s]
      exact ih (k + 1) (by omega)
abbrev ng_becR (M : ng_M) (i : Nat) (b n : Int32) : ng_M := ng_row (ng_row (ng_row M 86 (upd (M 86) i b)) 87 (upd (M 87) i n)) 88 (ng_z160 (M 88) i 40)
theorem r_sheet {X : Nat × (Nat → Int32)} {M : ng_M} {s b n : Int32} : ng_EvI X 3 mi_X9_sheet [.ref 73, .int s, .int b, .int n] M (ng_e9 M (ng_shE s b n) (fun _ => 1) (fun x M1 => M1 = ng_becR M s.toNatClampNeg b x)) := by
  refine ng_EvI.of (lv := [some (.ref 73), some (.int s), some (.int b), some (.int n), none]) (ty := .int) (by decide) (Nat.le_of_ble_eq_true rfl) rfl rfl (fun _ _ _ => rfl) ?_
  by_cases hin : ng_in s 0 3 = true
  · obtain ⟨q1, q2, q3⟩ := ng_s4 hin
    have z0 : ∀ N : ng_M, ng_row N 88 (ng_z160 (N 88) s.toNatClampNeg 0) = N := fun N => by
      have : ng_z160 (N 88) s.toNatClampNeg 0 = N 88 := by funext j; rw [ng_z160, if_neg (by omega)]
      rw [this, ng_row_self]
    have fin : ∀ x : Int32, ng_shE s b n = .inr x → ng_Go X mi_X9_sheet 3 93 [some (.ref 73), some (.int s), some (.int b), some (.int n), some (.int (nI 0))] [] (ng_row (ng_row M 86 (upd (M 86) s.toNatClampNeg b)) 87 (upd (M 87) s.toNatClampNeg x)) (fun r' M' => ∃ v, r' = some (.int v) ∧ ng_e9 M (ng_shE s b n) (fun _ => 1) (fun x M1 => M1 = ng_becR M s.toNatClampNeg b x) v M') := by
      intro x hx
      have z := l_X9_sheet (X := X) (M := ng_row (ng_row M 86 (upd (M 86) s.toNatClampNeg b)) 87 (upd (M 87) s.toNatClampNeg x)) (b := b) (n := n) q1 q2 40 0 (by omega)
      rw [z0] at z
      refine z.imp (fun r M' q => ?_)
      obtain ⟨v, w1, w2, w3⟩ := q
      refine ⟨v, w1, ?_⟩
      rw [hx]
      exact ⟨w2, w3⟩
    have rest : (b = 0 ∨ b = 8 ∨ b = 16 ∨ b = 32) → ng_Go X mi_X9_sheet 3 36 [some (.ref 73), some (.int s), some (.int b), some (.int n), none] [] M (fun r' M' => ∃ v, r' = some (.int v) ∧ ng_e9 M (ng_shE s b n) (fun _ => 1) (fun x M1 => M1 = ng_becR M s.toNatClampNeg b x) v M') := by
      intro hb4
      by_cases hb0 : b = 0
      · have hE : ng_shE s b n = .inr 0 := by rw [ng_shE, if_pos hin, if_pos hb0]
        refine ng_iload_2 dX9_sheet_36 ?_
        refine ng_if_eq 51 dX9_sheet_37 (by decide +kernel) (fun h37 => ?_) (fun h37 => ?_)
        · refine ng_iload_2 dX9_sheet_51 ?_
          refine ng_if_eq 68 dX9_sheet_52 (by decide +kernel) (fun h52 => ?_) (fun h52 => ?_)
          · refine ng_aload_0 dX9_sheet_68 ?_
            refine ng_gR dX9_sheet_69 fl_X9_54 (by first | rfl | assumption) ?_
            refine ng_iload_1 dX9_sheet_72 ?_
            refine ng_iload_2 dX9_sheet_73 ?_
            refine ng_iast dX9_sheet_74 (by first | rfl | assumption) (by exact q3) ?_
            refine ng_aload_0 dX9_sheet_75 ?_
            refine ng_gR dX9_sheet_76 fl_X9_57 (by first | rfl | assumption) ?_
            refine ng_iload_1 dX9_sheet_79 ?_
            refine ng_iload_2 dX9_sheet_80 ?_
            refine ng_if_ne 88 dX9_sheet_81 (by decide +kernel) (fun h81 => ?_) (fun h81 => ?_)
            · exact absurd hb0 h81
            · refine ng_iconst_0 dX9_sheet_84 ?_
              refine ng_goto 89 dX9_sheet_85 (by decide +kernel) ?_
              refine ng_iast dX9_sheet_89 (by first | rfl | assumption) (by exact q3) ?_
              refine ng_iconst_0 dX9_sheet_90 ?_
              refine ng_istore_4 dX9_sheet_91 (by first | rfl | assumption) ?_
              exact fin 0 hE
          · exact absurd hb0 h52
        · exact absurd hb0 h37
      · have hb8 : b = 8 ∨ b = 16 ∨ b = 32 := hb4.resolve_left hb0
        refine ng_iload_2 dX9_sheet_36 ?_
        refine ng_if_eq 51 dX9_sheet_37 (by decide +kernel) (fun h37 => ?_) (fun h37 => ?_)
        · exact absurd h37 hb0
        · refine ng_iload_3 dX9_sheet_40 ?_
          refine ng_if_ge 51 dX9_sheet_41 (by decide +kernel) (fun h41 => ?_) (fun h41 => ?_)
          · refine ng_iload_2 dX9_sheet_51 ?_
            refine ng_if_eq 68 dX9_sheet_52 (by decide +kernel) (fun h52 => ?_) (fun h52 => ?_)
            · exact absurd h52 hb0
            · refine ng_iload_3 dX9_sheet_55 ?_
              refine ng_bipush (v := 40) dX9_sheet_56 (by decide) ?_
              refine ng_icmp_le 68 dX9_sheet_58 (by decide +kernel) (fun h58 => ?_) (fun h58 => ?_)
              · refine ng_aload_0 dX9_sheet_68 ?_
                refine ng_gR dX9_sheet_69 fl_X9_54 (by first | rfl | assumption) ?_
                refine ng_iload_1 dX9_sheet_72 ?_
                refine ng_iload_2 dX9_sheet_73 ?_
                refine ng_iast dX9_sheet_74 (by first | rfl | assumption) (by exact q3) ?_
                refine ng_aload_0 dX9_sheet_75 ?_
                refine ng_gR dX9_sheet_76 fl_X9_57 (by first | rfl | assumption) ?_
                refine ng_iload_1 dX9_sheet_79 ?_
                refine ng_iload_2 dX9_sheet_80 ?_
                refine ng_if_ne 88 dX9_sheet_81 (by decide +kernel) (fun h81 => ?_) (fun h81 => ?_)
                · refine ng_iload_3 dX9_sheet_88 ?_
                  refine ng_iast dX9_sheet_89 (by first | rfl | assumption) (by exact q3) ?_
                  refine ng_iconst_0 dX9_sheet_90 ?_
                  refine ng_istore_4 dX9_sheet_91 (by first | rfl | assumption) ?_
                  exact fin n (by rw [ng_shE, if_pos hin, if_neg hb0, if_pos hb8, if_neg (Int32.not_lt.mpr h41), if_pos h58])
                · exact absurd h81 hb0
              · refine ng_aload_0 dX9_sheet_61 ?_
                refine ng_ldc dX9_sheet_62 kc_X9_91 ?_
                refine ng_callV_1x (y2 := mi_X9_finding) dX9_sheet_64 lk_X9_92 ms_X9_finding my_X9_finding (by first | exact ⟨_, rfl⟩ | assumption | exact ng_fld_obj (f := 0) (by assumption)) mc_X9 (by first | decide | exact Nat.le_of_ble_eq_true rfl) (s_X9_finding (k := 1) (by decide) (by decide) (by decide)) (by decide) ?_
                exact ng_ireturn dX9_sheet_67 ⟨_, rfl, by rw [ng_shE, if_pos hin, if_neg hb0, if_pos hb8, if_neg (Int32.not_lt.mpr h41), if_neg h58]; exact ⟨by decide, rfl⟩⟩
          · refine ng_aload_0 dX9_sheet_44 ?_
            refine ng_ldc dX9_sheet_45 kc_X9_218 ?_
            refine ng_callV_1x (y2 := mi_X9_finding) dX9_sheet_47 lk_X9_92 ms_X9_finding my_X9_finding (by first | exact ⟨_, rfl⟩ | assumption | exact ng_fld_obj (f := 0) (by assumption)) mc_X9 (by first | decide | exact Nat.le_of_ble_eq_true rfl) (s_X9_finding (k := 3) (by decide) (by decide) (by decide)) (by decide) ?_
            exact ng_ireturn dX9_sheet_50 ⟨_, rfl, by rw [ng_shE, if_pos hin, if_neg hb0, if_pos hb8, if_pos (Int32.not_le.mp h41)]; exact ⟨by decide, rfl⟩⟩
    refine ng_iload_1 dX9_sheet_0 ?_
    refine ng_callS_1x (y2 := mi_X9_isSheet) dX9_sheet_1 lk_X9_115 ms_X9_isSheet my_X9_isSheet (by first | decide | exact Nat.le_of_ble_eq_true rfl) (s_X9_isSheet) (by decide) ?_
    refine ng_ifb_eq 29 dX9_sheet_4 (by decide +kernel) (fun h4 => ?_) (fun h4 => ?_)
    · rw [hin] at h4; exact absurd h4 (by decide)
    · refine ng_iload_2 dX9_sheet_7 ?_
      refine ng_if_eq 36 dX9_sheet_8 (by decide +kernel) (fun h8 => ?_) (fun h8 => ?_)
      · exact rest (by first | exact Or.inl h8 | exact Or.inr (Or.inl h14) | exact Or.inr (Or.inr (Or.inl h20)) | exact Or.inr (Or.inr (Or.inr h26)))
      · refine ng_iload_2 dX9_sheet_11 ?_
        refine ng_bipush (v := 8) dX9_sheet_12 (by decide) ?_
        refine ng_icmp_eq 36 dX9_sheet_14 (by decide +kernel) (fun h14 => ?_) (fun h14 => ?_)
        · exact rest (by first | exact Or.inl h8 | exact Or.inr (Or.inl h14) | exact Or.inr (Or.inr (Or.inl h20)) | exact Or.inr (Or.inr (Or.inr h26)))
        · refine ng_iload_2 dX9_sheet_17 ?_
          refine ng_bipush (v := 16) dX9_sheet_18 (by decide) ?_
          refine ng_icmp_eq 36 dX9_sheet_20 (by decide +kernel) (fun h20 => ?_) (fun h20 => ?_)
          · exact rest (by first | exact Or.inl h8 | exact Or.inr (Or.inl h14) | exact Or.inr (Or.inr (Or.inl h20)) | exact Or.inr (Or.inr (Or.inr h26)))
          · refine ng_iload_2 dX9_sheet_23 ?_
            refine ng_bipush (v := 32) dX9_sheet_24 (by decide) ?_
            refine ng_icmp_eq 36 dX9_sheet_26 (by decide +kernel) (fun h26 => ?_) (fun h26 => ?_)
            · exact rest (by first | exact Or.inl h8 | exact Or.inr (Or.inl h14) | exact Or.inr (Or.inr (Or.inl h20)) | exact Or.inr (Or.inr (Or.inr h26)))
            · refine ng_aload_0 dX9_sheet_29 ?_
              refine ng_ldc dX9_sheet_30 kc_X9_91 ?_
              refine ng_callV_1x (y2 := mi_X9_finding) dX9_sheet_32 lk_X9_92 ms_X9_finding my_X9_finding (by first | exact ⟨_, rfl⟩ | assumption | exact ng_fld_obj (f := 0) (by assumption)) mc_X9 (by first | decide | exact Nat.le_of_ble_eq_true rfl) (s_X9_finding (k := 1) (by decide) (by decide) (by decide)) (by decide) ?_
              exact ng_ireturn dX9_sheet_35 ⟨_, rfl, by rw [ng_shE, if_pos hin, if_neg h8, if_neg (by rintro (q | q | q); exact h14 q; exact h20 q; exact h26 q)]; exact ⟨by decide, rfl⟩⟩
  · have hf := (Bool.not_eq_true _).mp hin
    unfold ng_shE
    rw [if_neg hin]
    refine ng_iload_1 dX9_sheet_0 ?_
    refine ng_callS_1x (y2 := mi_X9_isSheet) dX9_sheet_1 lk_X9_115 ms_X9_isSheet my_X9_isSheet (by first | decide | exact Nat.le_of_ble_eq_true rfl) (s_X9_isSheet) (by decide) ?_
    refine ng_ifb_eq 29 dX9_sheet_4 (by decide +kernel) (fun h4 => ?_) (fun h4 => ?_)
    · refine ng_aload_0 dX9_sheet_29 ?_
      refine ng_ldc dX9_sheet_30 kc_X9_91 ?_
      refine ng_callV_1x (y2 := mi_X9_finding) dX9_sheet_32 lk_X9_92 ms_X9_finding my_X9_finding (by first | exact ⟨_, rfl⟩ | assumption | exact ng_fld_obj (f := 0) (by assumption)) mc_X9 (by first | decide | exact Nat.le_of_ble_eq_true rfl) (s_X9_finding (k := 1) (by decide) (by decide) (by decide)) (by decide) ?_
      exact ng_ireturn dX9_sheet_35 ⟨_, rfl, by decide, rfl⟩
    · rw [hf] at h4; exact absurd h4 (by decide)
theorem pr_sheet {X : Nat × (Nat → Int32)} {M : ng_M} {s b n : Int32} (h : ng_inv M) : ng_pair X mi_X8_sheet mi_X9_sheet [.int s, .int b, .int n] M := by
  refine ng_pair.E h c_sheet (by decide) (d9 := 3) (by decide) (fun M1 _ => r_sheet) (fun x M1 hE hm k hk => ?_) (fun x M1 M2 hE hm hr => ?_)
  · obtain ⟨e1, -⟩ := ng_shE_v hE
    have q2 := (ng_s4 e1).2.1
    rw [hm, ng_bec, ng_row_ne (by omega), ng_row_ne (by omega)]
  · obtain ⟨e1, e2, e3, e4⟩ := ng_shE_v hE
    have q2 := (ng_s4 e1).2.1
    generalize s.toNatClampNeg = i at hm hr q2
    have h5 := h.2.2.2.2.1
    have eC : ∀ k, k ≠ 64 + 2 * i → k ≠ 65 + 2 * i → M1 k = M k := fun k k1 k2 => by rw [hm, ng_bec, ng_row_ne k2, ng_row_ne k1]
    have eR : ∀ k, k ≠ 86 → k ≠ 87 → k ≠ 88 → M2 k = M1 k := fun k k1 k2 k3 => by rw [hr, ng_becR, ng_row_ne k3, ng_row_ne k2, ng_row_ne k1]
    have f86 : M2 86 = upd (M 86) i b := by rw [hr, ng_becR, ng_row_ne (by decide), ng_row_ne (by decide), ng_row_eq, eC 86 (by omega) (by omega)]
    have f87 : M2 87 = upd (M 87) i x := by rw [hr, ng_becR, ng_row_ne (by decide), ng_row_eq, eC 87 (by omega) (by omega)]
    have f88 : M2 88 = ng_z160 (M 88) i 40 := by rw [hr, ng_becR, ng_row_eq, eC 88 (by omega) (by omega)]
    refine ng_inv_I5 h (fun j hj => ?_) (fun k k1 k2 => by rw [eR k (by omega) (by omega) (by omega), eC k (by omega) (by omega)])
    rw [f86, f87, f88]
    by_cases q : j = i
    · subst q
      have g1 : M2 (64 + 2 * j) = upd (upd (M (64 + 2 * j)) 1 b) 2 x := by rw [eR _ (by omega) (by omega) (by omega), hm, ng_bec, ng_row_ne (by omega), ng_row_eq]
      have g2 : M2 (65 + 2 * j) = ng_zero (M (65 + 2 * j)) 40 := by rw [eR _ (by omega) (by omega) (by omega), hm, ng_bec, ng_row_eq]
      rw [g1, g2, ng_upd_eq, ng_upd_eq, ng_upd_ne (by decide), ng_upd_eq, ng_upd_eq]
      refine ⟨rfl, rfl, fun l hl => ?_, e4, ?_⟩
      · rw [ng_zero, if_pos hl, ng_z160, if_pos (by omega)]
      · obtain ⟨L, hL, e⟩ := nI_of (x := x) (by rw [ng_lt, ng_0]; omega)
        rw [e, nI_toInt hL] at e3
        exact ⟨L, e, by omega⟩
    · obtain ⟨i1, i2, i3, i4, i5⟩ := h5 j hj
      rw [ng_upd_ne q, ng_upd_ne q, eR _ (by omega) (by omega) (by omega), eR _ (by omega) (by omega) (by omega), eC _ (by omega) (by omega), eC _ (by omega) (by omega)]
      refine ⟨i1, i2, fun l hl => ?_, i4, i5⟩
      rw [ng_z160, if_neg (by omega)]
      exact i3 l hl
