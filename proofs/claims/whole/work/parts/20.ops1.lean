/-! ===== calls side by side: the class's, then the reference's ===== -/
def ng_pair (X : Nat × (Nat → Int32)) (y8 y9 : ng_Y) (as : List Value) (M : ng_M) : Prop := ng_EvI X 60 y8 (.ref 0 :: as) M (fun v M1 => ng_EvI X 60 y9 (.ref 73 :: as) M1 (fun v2 M2 => v2 = v ∧ ng_inv M2))
theorem ng_EvI.imp {X : Nat × (Nat → Int32)} {d : Nat} {y : ng_Y} {as : List Value} {M : ng_M} {Pp Qq : Int32 → ng_M → Prop} (h : ng_EvI X d y as M Pp) (hPQ : ∀ v M', Pp v M' → Qq v M') : ng_EvI X d y as M Qq := ng_Ev.imp h (fun r M' h => by obtain ⟨v, h1, h2⟩ := h; exact ⟨v, h1, hPQ v M' h2⟩)
theorem ng_EvI.up {X : Nat × (Nat → Int32)} {d d' : Nat} {y : ng_Y} {as : List Value} {M : ng_M} {Pp : Int32 → ng_M → Prop} (h : ng_EvI X d y as M Pp) (hd : d ≤ d') : ng_EvI X d' y as M Pp := ng_Ev.up h hd
theorem ng_pair.of {X : Nat × (Nat → Int32)} {y8 y9 : ng_Y} {as : List Value} {M : ng_M} {d8 d9 : Nat} {Pp : Int32 → ng_M → Prop} {Qq : ng_M → Int32 → ng_M → Prop} (h8 : ng_EvI X d8 y8 (.ref 0 :: as) M Pp) (hd8 : d8 ≤ 60) (hd9 : d9 ≤ 60) (h9 : ∀ v M1, Pp v M1 → ng_EvI X d9 y9 (.ref 73 :: as) M1 (Qq M1)) (h : ∀ v M1, Pp v M1 → ∀ v2 M2, Qq M1 v2 M2 → v2 = v ∧ ng_inv M2) : ng_pair X y8 y9 as M :=
  (h8.up hd8).imp (fun v M1 hp => ((h9 v M1 hp).up hd9).imp (fun v2 M2 hq => h v M1 hp v2 M2 hq))
def ng_cfl (M : ng_M) (k : Nat) : ng_M := ng_row M 72 (upd (M 72) k (M 72 k + 1))
def ng_rfl (M : ng_M) (k : Nat) : ng_M := ng_row M 77 (upd (M 77) k (M 77 k + 1))
/-- the rows that the other things rest on -/
def ng_oth (k : Nat) : Prop := k = 0 ∨ (20 ≤ k ∧ k ≤ 38) ∨ k = 58 ∨ k = 59 ∨ (64 ≤ k ∧ k ≤ 72) ∨ k = 75 ∨ k = 77 ∨ k = 78 ∨ (85 ≤ k ∧ k ≤ 88)
theorem ng_inv_I1 {M M' : ng_M} (h : ng_inv M) (h1 : ng_I1 M') (ho : ∀ k, ng_oth k → M' k = M k) (h3 : M' 73 3 = M 73 3) (ht : M' 73 19 = M 73 19) : ng_inv M' := by
  obtain ⟨-, i2, i3, i4, i5, i6⟩ := h
  have q : ∀ k, ng_oth k → M' k = M k := ho
  exact ⟨h1, i2.congr (fun k k1 k2 => q k (by unfold ng_oth; omega)) (by rw [q 0 (by unfold ng_oth; omega)]) h3 (q 75 (by unfold ng_oth; omega)), i3.congr (q 72 (by unfold ng_oth; omega)) (q 77 (by unfold ng_oth; omega)), i4.congr (by rw [q 58 (by unfold ng_oth; omega)]) (q 59 (by unfold ng_oth; omega)) ht (q 85 (by unfold ng_oth; omega)), i5.congr (fun k k1 k2 => q k (by unfold ng_oth; omega)) (q 86 (by unfold ng_oth; omega)) (q 87 (by unfold ng_oth; omega)) (q 88 (by unfold ng_oth; omega)), i6.congr (q 78 (by unfold ng_oth; omega))⟩
theorem ng_inv_err {M : ng_M} {k : Nat} (h : ng_inv M) : ng_inv (ng_rfl (ng_cfl M k) k) := by
  obtain ⟨i1, i2, i3, i4, i5, i6⟩ := h
  have e : ∀ j, j ≠ 72 → j ≠ 77 → ng_rfl (ng_cfl M k) k j = M j := fun j j1 j2 => by rw [ng_rfl, ng_row_ne j2, ng_cfl, ng_row_ne j1]
  refine ⟨i1.congr (fun j j1 j2 => e j (by omega) (by omega)) (e 74 (by omega) (by omega)), i2.congr (fun j j1 j2 => e j (by omega) (by omega)) (by rw [e 0 (by omega) (by omega)]) (by rw [e 73 (by omega) (by omega)]) (e 75 (by omega) (by omega)), ?_, i4.congr (by rw [e 58 (by omega) (by omega)]) (e 59 (by omega) (by omega)) (by rw [e 73 (by omega) (by omega)]) (e 85 (by omega) (by omega)), i5.congr (fun j j1 j2 => e j (by omega) (by omega)) (e 86 (by omega) (by omega)) (e 87 (by omega) (by omega)) (e 88 (by omega) (by omega)), i6.congr (e 78 (by omega) (by omega))⟩
  intro j h1 h5
  have e1 : ng_rfl (ng_cfl M k) k 72 = upd (M 72) k (M 72 k + 1) := by rw [ng_rfl, ng_row_ne (by decide), ng_cfl, ng_row_eq]
  have e2 : ng_rfl (ng_cfl M k) k 77 = upd (M 77) k (M 77 k + 1) := by rw [ng_rfl, ng_row_eq, ng_cfl, ng_row_ne (by decide)]
  rw [e1, e2]
  by_cases q : j = k
  · subst q; rw [ng_upd_eq, ng_upd_eq, i3 j h1 h5]
  · rw [ng_upd_ne q, ng_upd_ne q]; exact i3 j h1 h5
/-- an answer that changes nothing -/
theorem ng_vin {s b : Int32} {n : Nat} (h : ng_in s 0 b = true) (hb : b.toInt < n) : vp_in s n ∧ s.toNatClampNeg < n := ⟨ng_in_vp h hb, ng_vp_lt (ng_in_vp h hb)⟩
theorem s_X8_fails {X : Nat × (Nat → Int32)} {M : ng_M} {e : Int32} {k : Nat} (he : -1000000000 - e = nI k) (h1 : 1 ≤ k) (h5 : k ≤ 5) : ng_EvX X 2 mi_X8_fails [.ref 0, .int e] (M) (some (.int e)) (ng_cfl M k) := by
  have hv : vp_in (-1000000000 - e) 6 := by rw [he]; exact vp_in_nI (by omega) (by omega)
  have hc : (-1000000000 - e).toNatClampNeg = k := by rw [he, nI_clamp (by omega)]
  refine ng_EvX.ofI (lv := [some (.ref 0), some (.int e), none]) (ty := .int) (by decide) (Nat.le_of_ble_eq_true rfl) rfl rfl rfl ?_
  refine ng_ldcw dX8_fails_0 kc_X8_306 ?_
  refine ng_iload_1 dX8_fails_3 ?_
  refine ng_isub dX8_fails_4 ?_
  refine ng_istore_2 dX8_fails_5 (by first | rfl | assumption) ?_
  refine ng_iload_2 dX8_fails_6 ?_
  refine ng_iconst_1 dX8_fails_7 ?_
  refine ng_iconst_5 dX8_fails_8 ?_
  refine ng_callS_3x (y2 := mi_X8_isWithin) dX8_fails_9 lk_X8_61 ms_X8_isWithin my_X8_isWithin (by first | decide | exact Nat.le_of_ble_eq_true rfl) (s_X8_isWithin) (by decide) ?_
  refine ng_ifb_eq 25 dX8_fails_12 (by decide +kernel) (fun h12 => ?_) (fun h12 => ?_)
  · exact absurd h12 (by rw [he, Bool.not_eq_false, ng_inT, nI_toInt (by omega), ng_1, ng_5]; omega)
  · refine ng_aload_0 dX8_fails_15 ?_
    refine ng_gR dX8_fails_16 fl_X8_52 (by first | rfl | assumption) ?_
    refine ng_iload_2 dX8_fails_19 ?_
    refine ng_dup2 dX8_fails_20 rfl rfl ?_
    refine ng_ialdL (j := k) dX8_fails_21 (by first | rfl | assumption) (by exact hv) (by exact hc) ?_
    refine ng_iconst_1 dX8_fails_22 ?_
    refine ng_iadd dX8_fails_23 ?_
    refine ng_iastL (j := k) dX8_fails_24 (by first | rfl | assumption) (by exact hv) (by exact hc) ?_
    refine ng_iload_1 dX8_fails_25 ?_
    exact ng_ireturn dX8_fails_26 ⟨rfl, rfl⟩
theorem s_X9_finding {X : Nat × (Nat → Int32)} {M : ng_M} {e : Int32} {k : Nat} (he : -1000000000 - e = nI k) (h1 : 1 ≤ k) (h5 : k ≤ 5) : ng_EvX X 1 mi_X9_finding [.ref 73, .int e] (M) (some (.int e)) (ng_rfl M k) := by
  have hv : vp_in (-1000000000 - e) 6 := by rw [he]; exact vp_in_nI (by omega) (by omega)
  have hc : (-1000000000 - e).toNatClampNeg = k := by rw [he, nI_clamp (by omega)]
  refine ng_EvX.ofI (lv := [some (.ref 73), some (.int e)]) (ty := .int) (by decide) (Nat.le_of_ble_eq_true rfl) rfl rfl rfl ?_
  refine ng_aload_0 dX9_finding_0 ?_
  refine ng_gR dX9_finding_1 fl_X9_19 (by first | rfl | assumption) ?_
  refine ng_ldc dX9_finding_4 kc_X9_66 ?_
  refine ng_iload_1 dX9_finding_6 ?_
  refine ng_isub dX9_finding_7 ?_
  refine ng_dup2 dX9_finding_8 rfl rfl ?_
  refine ng_ialdL (j := k) dX9_finding_9 (by first | rfl | assumption) (by first | assumption | (unfold vp_in; decide)) (by first | assumption | exact nI_clamp (by omega)) ?_
  refine ng_iconst_1 dX9_finding_10 ?_
  refine ng_iadd dX9_finding_11 ?_
  refine ng_iastL (j := k) dX9_finding_12 (by first | rfl | assumption) (by first | assumption | (unfold vp_in; decide)) (by first | assumption | exact nI_clamp (by omega)) ?_
  refine ng_iload_1 dX9_finding_13 ?_
  exact ng_ireturn dX9_finding_14 ⟨rfl, rfl⟩
theorem s_X9_become {X : Nat × (Nat → Int32)} {M : ng_M} {i v : Int32} {k : Nat} (hi : i = nI k) (hk : k < 227) : ng_EvX X 1 mi_X9_become [.ref 73, .int i, .int v] (M) (some (.int (M 74 k))) (ng_row M 74 (upd (M 74) k v)) := by
  have hv : vp_in i 227 := by rw [hi]; exact vp_in_nI hk (by omega)
  have hc : i.toNatClampNeg = k := by rw [hi, nI_clamp (by omega)]
  refine ng_EvX.ofI (lv := [some (.ref 73), some (.int i), some (.int v), none]) (ty := .int) (by decide) (Nat.le_of_ble_eq_true rfl) rfl rfl rfl ?_
  refine ng_aload_0 dX9_become_0 ?_
  refine ng_gR dX9_become_1 fl_X9_9 (by first | rfl | assumption) ?_
  refine ng_iload_1 dX9_become_4 ?_
  refine ng_ialdL (j := k) dX9_become_5 (by first | rfl | assumption) (by first | assumption | (unfold vp_in; decide)) (by first | assumption | exact nI_clamp (by omega)) ?_
  refine ng_istore_3 dX9_become_6 (by first | rfl | assumption) ?_
  refine ng_aload_0 dX9_become_7 ?_
  refine ng_gR dX9_become_8 fl_X9_9 (by first | rfl | assumption) ?_
  refine ng_iload_1 dX9_become_11 ?_
  refine ng_iload_2 dX9_become_12 ?_
  refine ng_iastL (j := k) dX9_become_13 (by first | rfl | assumption) (by first | assumption | (unfold vp_in; decide)) (by first | assumption | exact nI_clamp (by omega)) ?_
  refine ng_iload_3 dX9_become_14 ?_
  exact ng_ireturn dX9_become_15 ⟨rfl, rfl⟩
abbrev ok_coins (s v : Int32) : Bool := ng_in s 0 9 && ng_in v 1 9999
theorem c_coins {X : Nat × (Nat → Int32)} {M : ng_M} {s v : Int32} : ng_EvI X 3 mi_X8_coins [.ref 0, .int s, .int v] M (fun r M1 => if ok_coins s v then (r = M 3 s.toNatClampNeg ∧ M1 = ng_row M 3 (upd (M 3) s.toNatClampNeg v)) else (r = -1000000001 ∧ M1 = ng_cfl M 1)) := by
  refine ng_EvI.of (lv := [some (.ref 0), some (.int s), some (.int v), none]) (ty := .int) (by decide) (Nat.le_of_ble_eq_true rfl) rfl rfl (fun _ _ _ => rfl) ?_
  refine ng_iload_1 dX8_coins_0 ?_
  refine ng_callS_1x (y2 := mi_X8_isStep) dX8_coins_1 lk_X8_57 ms_X8_isStep my_X8_isStep (by first | decide | exact Nat.le_of_ble_eq_true rfl) (s_X8_isStep) (by decide) ?_
  refine ng_ifb_eq 18 dX8_coins_4 (by decide +kernel) (fun h4 => ?_) (fun h4 => ?_)
  · refine ng_aload_0 dX8_coins_18 ?_
    refine ng_ldc dX8_coins_19 kc_X8_65 ?_
    refine ng_callV_1x (y2 := mi_X8_fails) dX8_coins_21 lk_X8_66 ms_X8_fails my_X8_fails (by first | exact ⟨_, rfl⟩ | assumption | exact ng_fld_obj (f := 0) (by assumption)) mc_X8 (by first | decide | exact Nat.le_of_ble_eq_true rfl) (s_X8_fails (k := 1) (by decide) (by decide) (by decide)) (by decide) ?_
    exact ng_ireturn dX8_coins_24 ⟨_, rfl, by simp [*]⟩
  · refine ng_iload_2 dX8_coins_7 ?_
    refine ng_iconst_1 dX8_coins_8 ?_
    refine ng_sipush (v := 9999) dX8_coins_9 (by decide) ?_
    refine ng_callS_3x (y2 := mi_X8_isWithin) dX8_coins_12 lk_X8_61 ms_X8_isWithin my_X8_isWithin (by first | decide | exact Nat.le_of_ble_eq_true rfl) (s_X8_isWithin) (by decide) ?_
    refine ng_ifb_ne 25 dX8_coins_15 (by decide +kernel) (fun h15 => ?_) (fun h15 => ?_)
    · refine ng_aload_0 dX8_coins_25 ?_
      refine ng_gR dX8_coins_26 fl_X8_12 (by first | rfl | assumption) ?_
      refine ng_gR dX8_coins_29 fl_X8_21 (by first | rfl | assumption) ?_
      refine ng_gR dX8_coins_32 fl_X8_70 (by first | rfl | assumption) ?_
      refine ng_iload_1 dX8_coins_35 ?_
      refine ng_iald dX8_coins_36 (by first | rfl | assumption) (by exact (ng_vin h4 (by decide)).1) ?_
      refine ng_istore_3 dX8_coins_37 (by first | rfl | assumption) ?_
      refine ng_aload_0 dX8_coins_38 ?_
      refine ng_gR dX8_coins_39 fl_X8_12 (by first | rfl | assumption) ?_
      refine ng_gR dX8_coins_42 fl_X8_21 (by first | rfl | assumption) ?_
      refine ng_gR dX8_coins_45 fl_X8_70 (by first | rfl | assumption) ?_
      refine ng_iload_1 dX8_coins_48 ?_
      refine ng_iload_2 dX8_coins_49 ?_
      refine ng_iast dX8_coins_50 (by first | rfl | assumption) (by exact (ng_vin h4 (by decide)).1) ?_
      refine ng_iload_3 dX8_coins_51 ?_
      exact ng_ireturn dX8_coins_52 ⟨_, rfl, by simp [*]⟩
    · refine ng_aload_0 dX8_coins_18 ?_
      refine ng_ldc dX8_coins_19 kc_X8_65 ?_
      refine ng_callV_1x (y2 := mi_X8_fails) dX8_coins_21 lk_X8_66 ms_X8_fails my_X8_fails (by first | exact ⟨_, rfl⟩ | assumption | exact ng_fld_obj (f := 0) (by assumption)) mc_X8 (by first | decide | exact Nat.le_of_ble_eq_true rfl) (s_X8_fails (k := 1) (by decide) (by decide) (by decide)) (by decide) ?_
      exact ng_ireturn dX8_coins_24 ⟨_, rfl, by simp [*]⟩
theorem r_coins {X : Nat × (Nat → Int32)} {M : ng_M} {s v : Int32} : ng_EvI X 3 mi_X9_coins [.ref 73, .int s, .int v] M (fun r M1 => if ok_coins s v then (r = M 74 (11 + s.toNatClampNeg) ∧ M1 = ng_row M 74 (upd (M 74) (11 + s.toNatClampNeg) v)) else (r = -1000000001 ∧ M1 = ng_rfl M 1)) := by
  refine ng_EvI.of (lv := [some (.ref 73), some (.int s), some (.int v)]) (ty := .int) (by decide) (Nat.le_of_ble_eq_true rfl) rfl rfl (fun _ _ _ => rfl) ?_
  refine ng_iload_1 dX9_coins_0 ?_
  refine ng_callS_1x (y2 := mi_X9_isStep) dX9_coins_1 lk_X9_84 ms_X9_isStep my_X9_isStep (by first | decide | exact Nat.le_of_ble_eq_true rfl) (s_X9_isStep) (by decide) ?_
  refine ng_ifb_eq 30 dX9_coins_4 (by decide +kernel) (fun h4 => ?_) (fun h4 => ?_)
  · refine ng_aload_0 dX9_coins_30 ?_
    refine ng_ldc dX9_coins_31 kc_X9_91 ?_
    refine ng_callV_1x (y2 := mi_X9_finding) dX9_coins_33 lk_X9_92 ms_X9_finding my_X9_finding (by first | exact ⟨_, rfl⟩ | assumption | exact ng_fld_obj (f := 0) (by assumption)) mc_X9 (by first | decide | exact Nat.le_of_ble_eq_true rfl) (s_X9_finding (k := 1) (by decide) (by decide) (by decide)) (by decide) ?_
    exact ng_ireturn dX9_coins_36 ⟨_, rfl, by simp [*]⟩
  · refine ng_iload_2 dX9_coins_7 ?_
    refine ng_iconst_1 dX9_coins_8 ?_
    refine ng_sipush (v := 9999) dX9_coins_9 (by decide) ?_
    refine ng_callS_3x (y2 := mi_X9_within) dX9_coins_12 lk_X9_80 ms_X9_within my_X9_within (by first | decide | exact Nat.le_of_ble_eq_true rfl) (s_X9_within) (by decide) ?_
    refine ng_ifb_eq 30 dX9_coins_15 (by decide +kernel) (fun h15 => ?_) (fun h15 => ?_)
    · refine ng_aload_0 dX9_coins_30 ?_
      refine ng_ldc dX9_coins_31 kc_X9_91 ?_
      refine ng_callV_1x (y2 := mi_X9_finding) dX9_coins_33 lk_X9_92 ms_X9_finding my_X9_finding (by first | exact ⟨_, rfl⟩ | assumption | exact ng_fld_obj (f := 0) (by assumption)) mc_X9 (by first | decide | exact Nat.le_of_ble_eq_true rfl) (s_X9_finding (k := 1) (by decide) (by decide) (by decide)) (by decide) ?_
      exact ng_ireturn dX9_coins_36 ⟨_, rfl, by simp [*]⟩
    · refine ng_aload_0 dX9_coins_18 ?_
      refine ng_bipush (v := 11) dX9_coins_19 (by decide) ?_
      refine ng_iload_1 dX9_coins_21 ?_
      refine ng_iadd dX9_coins_22 ?_
      refine ng_iload_2 dX9_coins_23 ?_
      refine ng_callV_2x (y2 := mi_X9_become) dX9_coins_24 lk_X9_88 ms_X9_become my_X9_become (by first | exact ⟨_, rfl⟩ | assumption | exact ng_fld_obj (f := 0) (by assumption)) mc_X9 (by first | decide | exact Nat.le_of_ble_eq_true rfl) (s_X9_become (k := 11 + s.toNatClampNeg) (ng_ix_add 11 (ng_vin h4 (n := 10) (by decide)).1) (by have := (ng_vin h4 (n := 10) (by decide)).2; omega)) (by decide) ?_
      refine ng_goto 36 dX9_coins_27 (by decide +kernel) ?_
      exact ng_ireturn dX9_coins_36 ⟨_, rfl, by simp [*]⟩
theorem pr_coins {X : Nat × (Nat → Int32)} {M : ng_M} {s v : Int32} (h : ng_inv M) : ng_pair X mi_X8_coins mi_X9_coins [.int s, .int v] M := by
  have hI := h.1.1.rl
  refine ng_pair.of (d8 := 3) (d9 := 3) (c_coins) (by decide) (by decide) (fun _ M1 _ => r_coins) (fun r1 M1 h1 r2 M2 h2 => ?_)
  by_cases hok : ok_coins s v = true
  · rw [if_pos hok] at h1
    obtain ⟨rfl, rfl⟩ := h1
    change if ok_coins s v then _ else _ at h2
    rw [if_pos hok] at h2
    obtain ⟨rfl, rfl⟩ := h2
    obtain ⟨h4, h15⟩ := Bool.and_eq_true_iff.mp hok
    have hs := (ng_vin h4 (n := 10) (by decide)).2
    have hv := ng_inT.mp h15
    refine ⟨(hI.1.1 _ hs).symm, ng_inv_I1 h ⟨?_, ?_⟩ (fun k hk => ?_) rfl rfl⟩
    · exact (h.1.1.upd (i := 11 + s.toNatClampNeg) (v := v) (by omega) (ng_cvr_upd (ng_loc_c _ hs)) rfl rfl rfl rfl).congr (fun k k1 k2 => ng_row_ne (by omega))
    · refine h.1.2.upd (by omega) ?_ ?_
      · simp only [ng_bl]; rw [if_neg (by omega), if_neg (by omega), if_pos (by omega)]; exact hv.1
      · simp only [ng_bh]; rw [if_neg (by omega), if_neg (by omega), if_neg (by omega), if_neg (by omega), if_neg (by omega), if_neg (by omega), if_neg (by omega), if_neg (by omega), if_neg (by omega), if_neg (by omega), if_neg (by omega), if_pos (by omega)]; exact hv.2
    · unfold ng_oth at hk
      rw [ng_row_ne (by omega), ng_row_ne (by omega)]
  · rw [if_neg hok] at h1
    obtain ⟨rfl, rfl⟩ := h1
    change if ok_coins s v then _ else _ at h2
    rw [if_neg hok] at h2
    obtain ⟨rfl, rfl⟩ := h2
    exact ⟨rfl, ng_inv_err h⟩
