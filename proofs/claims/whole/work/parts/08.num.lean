/-! ===== numbers, and the class's smallest methods ===== -/
theorem ng_le {a b : Int32} : a ≤ b ↔ a.toInt ≤ b.toInt := Int32.le_iff_toInt_le
theorem ng_lt {a b : Int32} : a < b ↔ a.toInt < b.toInt := Int32.lt_iff_toInt_lt
theorem ng_inT {v a b : Int32} : ng_in v a b = true ↔ a.toInt ≤ v.toInt ∧ v.toInt ≤ b.toInt := by
  simp [ng_in, ng_le]
theorem ng_inF {v a b : Int32} : ng_in v a b = false ↔ ¬ (a.toInt ≤ v.toInt ∧ v.toInt ≤ b.toInt) := by
  rw [← ng_inT]; simp
theorem ng_in_f1 {v a b : Int32} (h : v < a) : ng_in v a b = false := ng_inF.mpr (by rw [ng_lt] at h; omega)
theorem ng_in_f2 {v a b : Int32} (h : b < v) : ng_in v a b = false := ng_inF.mpr (by rw [ng_lt] at h; omega)
theorem ng_in_t {v a b : Int32} (h1 : ¬ v < a) (h2 : ¬ b < v) : ng_in v a b = true := ng_inT.mpr (by rw [ng_lt] at h1 h2; omega)
theorem ng_clamp (a : Int32) : a.toNatClampNeg = a.toInt.toNat := rfl
theorem ng_vp {a : Int32} {n : Nat} (h0 : 0 ≤ a.toInt) (h1 : a.toInt < n) : vp_in a n := by
  intro h
  rcases h with h | h
  · rw [ng_lt, Int32.toInt_zero] at h; omega
  · rw [ng_clamp] at h; omega
theorem ng_in_vp {a b : Int32} {n : Nat} (h : ng_in a 0 b = true) (hb : b.toInt < n) : vp_in a n := by
  have := ng_inT.mp h
  rw [Int32.toInt_zero] at this
  exact ng_vp this.1 (by omega)
theorem ng_rng (a : Int32) : -2147483648 ≤ a.toInt ∧ a.toInt < 2147483648 := ⟨Int32.le_toInt a, Int32.toInt_lt a⟩
def ng_held (v lo hi : Int32) : Int32 := if lo < (if v < hi then v else hi) then (if v < hi then v else hi) else lo
def ng_told (k w m : Int32) : Bool := ng_in k 0 6 && (ng_in w 0 9999 && ng_in m 1 9)
def ng_ab (a : Int32) : Int32 := ([-1, 0, 1, 0, 3, 0, 1] : List Int32).getD a.toNatClampNeg 0
def ng_ofN : Nat → Int32 → Int32 → Bool
  | 0, _, _ => false
  | n + 1, a, o => ng_in a 0 6 && (decide (a = o) || ng_ofN n (ng_ab a) o)
theorem s_X8_isWithin {X : Nat × (Nat → Int32)} {M : ng_M} {v a b : Int32} : ng_EvX X 1 mi_X8_isWithin [.int v, .int a, .int b] (M) (some (.int (ng_bi (ng_in v a b)))) (M) := by
  refine ng_EvX.ofI (lv := [some (.int v), some (.int a), some (.int b)]) (ty := .boolean) (by decide) (Nat.le_of_ble_eq_true rfl) rfl rfl (ng_bi_nar _) ?_
  refine ng_iload_0 dX8_isWithin_0 ?_
  refine ng_iload_1 dX8_isWithin_1 ?_
  refine ng_icmp_lt 14 dX8_isWithin_2 (by decide +kernel) (fun h2 => ?_) (fun h2 => ?_)
  · refine ng_iconst_0 dX8_isWithin_14 ?_
    exact ng_ireturn dX8_isWithin_15 ⟨by first | (rw [ng_in_f1 (by assumption)]; rfl) | (rw [ng_in_f2 (by assumption)]; rfl) | (rw [ng_in_t (by assumption) (by assumption)]; rfl), rfl⟩
  · refine ng_iload_0 dX8_isWithin_5 ?_
    refine ng_iload_2 dX8_isWithin_6 ?_
    refine ng_icmp_gt 14 dX8_isWithin_7 (by decide +kernel) (fun h7 => ?_) (fun h7 => ?_)
    · refine ng_iconst_0 dX8_isWithin_14 ?_
      exact ng_ireturn dX8_isWithin_15 ⟨by first | (rw [ng_in_f1 (by assumption)]; rfl) | (rw [ng_in_f2 (by assumption)]; rfl) | (rw [ng_in_t (by assumption) (by assumption)]; rfl), rfl⟩
    · refine ng_iconst_1 dX8_isWithin_10 ?_
      refine ng_goto 15 dX8_isWithin_11 (by decide +kernel) ?_
      exact ng_ireturn dX8_isWithin_15 ⟨by first | (rw [ng_in_f1 (by assumption)]; rfl) | (rw [ng_in_f2 (by assumption)]; rfl) | (rw [ng_in_t (by assumption) (by assumption)]; rfl), rfl⟩
theorem s_X8_isStep {X : Nat × (Nat → Int32)} {M : ng_M} {v : Int32} : ng_EvX X 2 mi_X8_isStep [.int v] (M) (some (.int (ng_bi (ng_in v 0 9)))) (M) := by
  refine ng_EvX.ofI (lv := [some (.int v)]) (ty := .boolean) (by decide) (Nat.le_of_ble_eq_true rfl) rfl rfl (ng_bi_nar _) ?_
  refine ng_iload_0 dX8_isStep_0 ?_
  refine ng_iconst_0 dX8_isStep_1 ?_
  refine ng_bipush (v := 9) dX8_isStep_2 (by decide) ?_
  refine ng_callS_3x (y2 := mi_X8_isWithin) dX8_isStep_4 lk_X8_61 ms_X8_isWithin my_X8_isWithin (by first | decide | exact Nat.le_of_ble_eq_true rfl) (s_X8_isWithin) (by decide) ?_
  exact ng_ireturn dX8_isStep_7 ⟨rfl, rfl⟩
theorem s_X8_isBuyerAsTold {X : Nat × (Nat → Int32)} {M : ng_M} {a b c : Int32} : ng_EvX X 2 mi_X8_isBuyerAsTold [.int a, .int b, .int c] (M) (some (.int (ng_bi (ng_told a b c)))) (M) := by
  refine ng_EvX.ofI (lv := [some (.int a), some (.int b), some (.int c)]) (ty := .boolean) (by decide) (Nat.le_of_ble_eq_true rfl) rfl rfl (ng_bi_nar _) ?_
  refine ng_iload_0 dX8_isBuyerAsTold_0 ?_
  refine ng_iconst_0 dX8_isBuyerAsTold_1 ?_
  refine ng_bipush (v := 6) dX8_isBuyerAsTold_2 (by decide) ?_
  refine ng_callS_3x (y2 := mi_X8_isWithin) dX8_isBuyerAsTold_4 lk_X8_61 ms_X8_isWithin my_X8_isWithin (by first | decide | exact Nat.le_of_ble_eq_true rfl) (s_X8_isWithin) (by decide) ?_
  refine ng_ifb_eq 35 dX8_isBuyerAsTold_7 (by decide +kernel) (fun h7 => ?_) (fun h7 => ?_)
  · refine ng_iconst_0 dX8_isBuyerAsTold_35 ?_
    exact ng_ireturn dX8_isBuyerAsTold_36 ⟨by simp [ng_told, ng_bi, *], rfl⟩
  · refine ng_iload_1 dX8_isBuyerAsTold_10 ?_
    refine ng_iconst_0 dX8_isBuyerAsTold_11 ?_
    refine ng_sipush (v := 9999) dX8_isBuyerAsTold_12 (by decide) ?_
    refine ng_callS_3x (y2 := mi_X8_isWithin) dX8_isBuyerAsTold_15 lk_X8_61 ms_X8_isWithin my_X8_isWithin (by first | decide | exact Nat.le_of_ble_eq_true rfl) (s_X8_isWithin) (by decide) ?_
    refine ng_ifb_eq 35 dX8_isBuyerAsTold_18 (by decide +kernel) (fun h18 => ?_) (fun h18 => ?_)
    · refine ng_iconst_0 dX8_isBuyerAsTold_35 ?_
      exact ng_ireturn dX8_isBuyerAsTold_36 ⟨by simp [ng_told, ng_bi, *], rfl⟩
    · refine ng_iload_2 dX8_isBuyerAsTold_21 ?_
      refine ng_iconst_1 dX8_isBuyerAsTold_22 ?_
      refine ng_bipush (v := 9) dX8_isBuyerAsTold_23 (by decide) ?_
      refine ng_callS_3x (y2 := mi_X8_isWithin) dX8_isBuyerAsTold_25 lk_X8_61 ms_X8_isWithin my_X8_isWithin (by first | decide | exact Nat.le_of_ble_eq_true rfl) (s_X8_isWithin) (by decide) ?_
      refine ng_ifb_eq 35 dX8_isBuyerAsTold_28 (by decide +kernel) (fun h28 => ?_) (fun h28 => ?_)
      · refine ng_iconst_0 dX8_isBuyerAsTold_35 ?_
        exact ng_ireturn dX8_isBuyerAsTold_36 ⟨by simp [ng_told, ng_bi, *], rfl⟩
      · refine ng_iconst_1 dX8_isBuyerAsTold_31 ?_
        refine ng_goto 36 dX8_isBuyerAsTold_32 (by decide +kernel) ?_
        exact ng_ireturn dX8_isBuyerAsTold_36 ⟨by simp [ng_told, ng_bi, *], rfl⟩
theorem s_X8_held {X : Nat × (Nat → Int32)} {M : ng_M} {v a b : Int32} : ng_EvX X 1 mi_X8_held [.int v, .int a, .int b] (M) (some (.int (ng_held v a b))) (M) := by
  refine ng_EvX.ofI (lv := [some (.int v), some (.int a), some (.int b)]) (ty := .int) (by decide) (Nat.le_of_ble_eq_true rfl) rfl rfl rfl ?_
  refine ng_iload_1 dX8_held_0 ?_
  refine ng_iload_2 dX8_held_1 ?_
  refine ng_iload_0 dX8_held_2 ?_
  refine ng_mmin dX8_held_3 lk_X8_307 mms_min li_J9 mmc_min (by first | decide | exact Nat.le_of_ble_eq_true rfl) ?_
  refine ng_mmax dX8_held_6 lk_X8_312 mms_max li_J9 mmc_max (by first | decide | exact Nat.le_of_ble_eq_true rfl) ?_
  exact ng_ireturn dX8_held_9 ⟨rfl, rfl⟩
theorem l_X8_isOf {X : Nat × (Nat → Int32)} {M : ng_M} : ∀ (n i : Nat) (k o a : Int32), i + n = 7 → ng_Go X mi_X8_isOf 2 4 [some (.int k), some (.int o), some (.int a), some (.int (nI i))] [] M (fun r' M' => r' = some (.int (ng_bi (ng_ofN n a o))) ∧ M' = M) := by
  intro n
  induction n with
  | zero =>
    intro i k o a hi
    refine ng_iload_3 dX8_isOf_4 ?_
    refine ng_bipush (v := 7) dX8_isOf_5 (by decide) ?_
    refine ng_icmp_ge 39 dX8_isOf_7 (by decide +kernel) (fun h7 => ?_) (fun h7 => ?_)
    · refine ng_iconst_0 dX8_isOf_39 ?_
      exact ng_ireturn dX8_isOf_40 ⟨rfl, rfl⟩
    · exact absurd (by rw [show i = 7 by omega]; decide) h7
  | succ n ih =>
    intro i k o a hi
    refine ng_iload_3 dX8_isOf_4 ?_
    refine ng_bipush (v := 7) dX8_isOf_5 (by decide) ?_
    refine ng_icmp_ge 39 dX8_isOf_7 (by decide +kernel) (fun h7 => ?_) (fun h7 => ?_)
    · exact absurd (show nI 7 ≤ nI i from h7) (nI_ge (by omega) (by omega))
    · refine ng_iload_2 dX8_isOf_10 ?_
      refine ng_iconst_0 dX8_isOf_11 ?_
      refine ng_bipush (v := 6) dX8_isOf_12 (by decide) ?_
      refine ng_callS_3x (y2 := mi_X8_isWithin) dX8_isOf_14 lk_X8_61 ms_X8_isWithin my_X8_isWithin (by first | decide | exact Nat.le_of_ble_eq_true rfl) (s_X8_isWithin) (by decide) ?_
      refine ng_ifb_eq 39 dX8_isOf_17 (by decide +kernel) (fun h17 => ?_) (fun h17 => ?_)
      · refine ng_iconst_0 dX8_isOf_39 ?_
        exact ng_ireturn dX8_isOf_40 ⟨by simp [ng_ofN, ng_bi, *], rfl⟩
      · refine ng_iload_2 dX8_isOf_20 ?_
        refine ng_iload_1 dX8_isOf_21 ?_
        refine ng_icmp_ne 27 dX8_isOf_22 (by decide +kernel) (fun h22 => ?_) (fun h22 => ?_)
        · refine ng_gets (v := .ref 1002) dX8_isOf_27 (by decide) fs_X8_315 ?_
          refine ng_iload_2 dX8_isOf_30 ?_
          refine ng_kld (k := 2) dX8_isOf_31 rfl (by exact ng_in_vp h17 (by decide)) ?_
          refine ng_istore_2 dX8_isOf_32 rfl ?_
          refine ng_iinc_3 (w := 1) dX8_isOf_33 (by decide) rfl ?_
          refine ng_goto 4 dX8_isOf_36 (by decide +kernel) ?_
          rw [nI_1]
          refine (ih (i + 1) k o _ (by omega)).imp (fun r M' h => ⟨?_, h.2⟩)
          rw [h.1]
          simp [ng_ofN, h17, h22, ng_ab]
        · refine ng_iconst_1 dX8_isOf_25 ?_
          exact ng_ireturn dX8_isOf_26 ⟨by subst h22; simp [ng_ofN, ng_bi, h17], rfl⟩
theorem s_X8_isOf {X : Nat × (Nat → Int32)} {M : ng_M} {k o : Int32} : ng_EvX X 2 mi_X8_isOf [.int k, .int o] (M) (some (.int (ng_bi (ng_ofN 7 k o)))) (M) := by
  refine ng_EvX.ofI (lv := [some (.int k), some (.int o), none, none]) (ty := .boolean) (by decide) (Nat.le_of_ble_eq_true rfl) rfl rfl (ng_bi_nar _) ?_
  refine ng_iload_0 dX8_isOf_0 ?_
  refine ng_istore_2 dX8_isOf_1 rfl ?_
  refine ng_iconst_0 dX8_isOf_2 ?_
  refine ng_istore_3 dX8_isOf_3 rfl ?_
  exact l_X8_isOf 7 0 k o k rfl
