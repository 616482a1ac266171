/-! ===== pair: buyers ===== -/
theorem ng_rep_come {M : ng_M} {a : ng_R} {k w t : Int32} {n : Nat} (h : ng_rep M 1 a) (hn8 : n < 8) : ng_rep (ng_come M n k w t) 1 (ng_comeR a n k w t) := by
  have e1 : M 2 6 + 1 = a 1 + 1 := by rw [h.rl.1.2.2.1]
  have g1 := ng_rset h (r := 4) (j := n) (v := k) (by decide) (ng_loc_ki n hn8) (by omega)
  have g2 := ng_rset g1 (r := 5) (j := n) (v := w) (by decide) (ng_loc_wa n hn8) (by omega)
  have g3 := ng_rset g2 (r := 6) (j := n) (v := t) (by decide) (ng_loc_ta n hn8) (by omega)
  have g4 := ng_rset g3 (r := 16) (j := n) (v := 0) (by decide) (ng_loc_ha n hn8) (by omega)
  have g5 := ng_rset g4 (r := 2) (j := 6) (v := M 2 6 + 1) (by decide) ng_loc_n (by decide)
  unfold ng_comeR
  rw [← e1]
  exact g5
theorem ng_ok_come {a : ng_R} {k w t : Int32} {n : Nat} (h : ng_ok a) (hn : a 1 = nI n) (hn8 : n < 8) (hk : ng_told k w t = true) : ng_ok (ng_comeR a n k w t) := by
  obtain ⟨k1, k2⟩ := Bool.and_eq_true_iff.mp hk
  obtain ⟨k2, k3⟩ := Bool.and_eq_true_iff.mp k2
  have q1 := ng_inT.mp k1
  have q2 := ng_inT.mp k2
  have q3 := ng_inT.mp k3
  rw [ng_0, ng_6] at q1
  rw [ng_0, ng_9999] at q2
  rw [ng_1, show (9 : Int32).toInt = 9 by decide] at q3
  have en : (a 1 + 1).toInt = n + 1 := by rw [hn, nI_1, nI_toInt (by omega)]; omega
  have b1 := ng_b_ki n hn8
  have b2 := ng_b_wa n hn8
  have b3 := ng_b_ta n hn8
  have b4 := ng_b_ha n hn8
  exact ((((h.upd (by omega) (by rw [b1.1]; omega) (by rw [b1.2]; omega)).upd (by omega) (by rw [b2.1]; omega) (by rw [b2.2]; omega)).upd (by omega) (by rw [b3.1]; omega) (by rw [b3.2]; omega)).upd (by omega) (by rw [b4.1, ng_0]; omega) (by rw [b4.2, ng_0]; omega)).upd (by decide) (by rw [en]; show (0 : Int) ≤ _; omega) (by rw [en]; show _ ≤ (8 : Int); omega)
def ng_bbc (g : Nat → Int32) (i : Nat) (a : ng_R) : Bool := ng_told (g (3 * i)) (g (3 * i + 1)) (g (3 * i + 2)) && decide (a 1 < 8)
def ng_bb (g : Nat → Int32) : Nat → Nat → ng_R → Nat × ng_R
  | 0, i, a => (i, a)
  | m + 1, i, a => if ng_bbc g i a then ng_bb g m (i + 1) (ng_comeR a (ng_yn a) (g (3 * i)) (g (3 * i + 1)) (g (3 * i + 2))) else (i, a)
theorem ng_lt8 {a : ng_R} {n : Nat} (hn : a 1 = nI n) (hn8 : n ≤ 8) : a 1 < 8 ↔ n < 8 := by
  rw [hn, ng_lt, nI_toInt (by omega), show (8 : Int32).toInt = 8 by decide]
  omega
theorem ng_bb_ok {g : Nat → Int32} : ∀ m i a, ng_ok a → ng_ok (ng_bb g m i a).2
  | 0, _, _, h => h
  | m + 1, i, a, h => by
    unfold ng_bb
    split
    · rename_i q
      obtain ⟨q1, q2⟩ := Bool.and_eq_true_iff.mp q
      obtain ⟨n, hn, hn8⟩ := h.wfr.1.1.1
      have q3 := (ng_lt8 hn hn8).mp (of_decide_eq_true q2)
      rw [ng_yn_of hn hn8]
      exact ng_bb_ok m (i + 1) _ (ng_ok_come h hn q3 q1)
    · exact h
theorem ng_n3 (i : Nat) : nI (3 * i) + 2 = nI (3 * i + 2) ∧ nI (3 * i) + 1 = nI (3 * i + 1) ∧ nI (3 * i) + 3 = nI (3 * (i + 1)) := ⟨nI_add _ 2, nI_add _ 1, nI_add _ 3⟩
theorem l_X8_bring {X : Nat × (Nat → Int32)} {M : ng_M} {S L : Nat} {g : Nat → Int32} (hS : S < 4) (hL : M (64 + 2 * S) 2 = nI L) (hL40 : L ≤ 40) (hg : ∀ j, j < 40 → M (65 + 2 * S) j = g j) : ∀ (m i : Nat) (a : ng_R) (M1 : ng_M) (x4 x5 x6 : Option Value), i + m = L / 3 → ng_rep M1 1 a → ng_ok a → (∀ k, (k = 0 ∨ 20 ≤ k) → M1 k = M k) → ng_nl x4 = true → ng_nl x5 = true → ng_nl x6 = true →
    ng_Go X mi_X8_bringBuyers 3 4 [some (.ref 0), some (.ref (64 + 2 * S)), some (.int (nI i)), some (.int (nI (3 * i))), x4, x5, x6] [] M1 (fun r' M' => ∃ v, r' = some (.int v) ∧ v = nI (ng_bb g m i a).1 ∧ ng_rep M' 1 (ng_bb g m i a).2 ∧ ∀ k, (k = 0 ∨ 20 ≤ k) → M' k = M k) := by
  obtain ⟨hf0, hf1, hf2, hf3, hf4⟩ := ng_H hS
  intro m
  induction m with
  | zero =>
    intro i a M1 x4 x5 x6 hi h hok ho n4 n5 n6
    have e2 : M1 (64 + 2 * S) 2 = nI L := by rw [ho (64 + 2 * S) (by omega)]; exact hL
    refine ng_iload_3 dX8_bringBuyers_4 ?_
    refine ng_iconst_2 dX8_bringBuyers_5 ?_
    refine ng_iadd dX8_bringBuyers_6 ?_
    refine ng_aload_1 dX8_bringBuyers_7 ?_
    refine ng_gI dX8_bringBuyers_8 fl_X8_135 (by first | rfl | assumption) ?_
    refine ng_icmp_ge 78 dX8_bringBuyers_11 (by decide +kernel) (fun h11 => ?_) (fun h11 => ?_)
    · refine ng_iload_2 dX8_bringBuyers_78 ?_
      exact ng_ireturn dX8_bringBuyers_79 ⟨_, rfl, rfl, h, ho⟩
    · exact absurd (by rw [e2, (ng_n3 i).1, ng_le, nI_toInt (by omega), nI_toInt (by omega)]; omega) h11
  | succ m ih =>
    intro i a M1 x4 x5 x6 hi h hok ho n4 n5 n6
    have e2 : M1 (64 + 2 * S) 2 = nI L := by rw [ho (64 + 2 * S) (by omega)]; exact hL
    have e5 : M1 (65 + 2 * S) = M (65 + 2 * S) := ho _ (by omega)
    have hn0 : ng_EvX X 2 mi_X4_number [.ref (64 + 2 * S), .int (nI (3 * i))] M1 (some (.int (g (3 * i)))) M1 := (s_X4_numA hS e2 hL40 (by omega)).cast (by rw [e5, hg _ (by omega)]) rfl
    have hn1 : ng_EvX X 2 mi_X4_number [.ref (64 + 2 * S), .int (nI (3 * i) + 1)] M1 (some (.int (g (3 * i + 1)))) M1 := by
      rw [(ng_n3 i).2.1]
      exact (s_X4_numA hS e2 hL40 (by omega)).cast (by rw [e5, hg _ (by omega)]) rfl
    have hn2 : ng_EvX X 2 mi_X4_number [.ref (64 + 2 * S), .int (nI (3 * i) + 2)] M1 (some (.int (g (3 * i + 2)))) M1 := by
      rw [(ng_n3 i).1]
      exact (s_X4_numA hS e2 hL40 (by omega)).cast (by rw [e5, hg _ (by omega)]) rfl
    obtain ⟨n, hn, hn8⟩ := hok.wfr.1.1.1
    have hn26 : M1 2 6 = nI n := h.rl.1.2.2.1.trans hn
    have hl8 := ng_lt8 hn hn8
    have h26 : M1 2 6 = a 1 := h.rl.1.2.2.1
    have hyn := ng_yn_of hn hn8
    refine ng_iload_3 dX8_bringBuyers_4 ?_
    refine ng_iconst_2 dX8_bringBuyers_5 ?_
    refine ng_iadd dX8_bringBuyers_6 ?_
    refine ng_aload_1 dX8_bringBuyers_7 ?_
    refine ng_gI dX8_bringBuyers_8 fl_X8_135 (by first | rfl | assumption) ?_
    refine ng_icmp_ge 78 dX8_bringBuyers_11 (by decide +kernel) (fun h11 => ?_) (fun h11 => ?_)
    · exact absurd h11 (by rw [e2, (ng_n3 i).1]; exact nI_ge (by omega) (by omega))
    · refine ng_aload_1 dX8_bringBuyers_14 ?_
      refine ng_iload_3 dX8_bringBuyers_15 ?_
      refine ng_callV_1x (y2 := mi_X4_number) dX8_bringBuyers_16 lk_X8_139 ms_X4_number my_X4_number (by first | exact ⟨_, rfl⟩ | assumption | exact ng_fld_obj (f := 0) (by assumption)) mc_X4 (by first | decide | exact Nat.le_of_ble_eq_true rfl) (hn0) (by decide) ?_
      refine ng_istore_4 dX8_bringBuyers_19 (by first | rfl | assumption) ?_
      refine ng_aload_1 dX8_bringBuyers_21 ?_
      refine ng_iload_3 dX8_bringBuyers_22 ?_
      refine ng_iconst_1 dX8_bringBuyers_23 ?_
      refine ng_iadd dX8_bringBuyers_24 ?_
      refine ng_callV_1x (y2 := mi_X4_number) dX8_bringBuyers_25 lk_X8_139 ms_X4_number my_X4_number (by first | exact ⟨_, rfl⟩ | assumption | exact ng_fld_obj (f := 0) (by assumption)) mc_X4 (by first | decide | exact Nat.le_of_ble_eq_true rfl) (hn1) (by decide) ?_
      refine ng_istore_5 dX8_bringBuyers_28 (by first | rfl | assumption) ?_
      refine ng_aload_1 dX8_bringBuyers_30 ?_
      refine ng_iload_3 dX8_bringBuyers_31 ?_
      refine ng_iconst_2 dX8_bringBuyers_32 ?_
      refine ng_iadd dX8_bringBuyers_33 ?_
      refine ng_callV_1x (y2 := mi_X4_number) dX8_bringBuyers_34 lk_X8_139 ms_X4_number my_X4_number (by first | exact ⟨_, rfl⟩ | assumption | exact ng_fld_obj (f := 0) (by assumption)) mc_X4 (by first | decide | exact Nat.le_of_ble_eq_true rfl) (hn2) (by decide) ?_
      refine ng_istore_6 dX8_bringBuyers_37 (by first | rfl | assumption) ?_
      refine ng_iload_4 dX8_bringBuyers_39 ?_
      refine ng_iload_5 dX8_bringBuyers_41 ?_
      refine ng_iload_6 dX8_bringBuyers_43 ?_
      refine ng_callS_3x (y2 := mi_X8_isBuyerAsTold) dX8_bringBuyers_45 lk_X8_94 ms_X8_isBuyerAsTold my_X8_isBuyerAsTold (by first | decide | exact Nat.le_of_ble_eq_true rfl) (s_X8_isBuyerAsTold) (by decide) ?_
      refine ng_ifb_eq 67 dX8_bringBuyers_48 (by decide +kernel) (fun h48 => ?_) (fun h48 => ?_)
      · refine ng_iload_2 dX8_bringBuyers_67 ?_
        exact ng_ireturn dX8_bringBuyers_68 ⟨_, rfl, by
  first
  | (rw [ng_bb, if_neg (by rw [ng_bbc, h48, Bool.false_and]; decide)]; exact ⟨rfl, h, ho⟩)
  | (by_cases q : a 1 < 8
     · rw [if_pos q] at hv
       exact absurd (by rw [hv.1, ng_le, ng_0, nI_toInt (by omega)]; omega) h64
     · rw [if_neg q] at hv
       rw [ng_bb, if_neg (by rw [ng_bbc, h48, decide_eq_false q]; decide), hv.2]; exact ⟨rfl, h, ho⟩)⟩
      · refine ng_aload_0 dX8_bringBuyers_51 ?_
        refine ng_gR dX8_bringBuyers_52 fl_X8_12 (by first | rfl | assumption) ?_
        refine ng_iload_4 dX8_bringBuyers_55 ?_
        refine ng_iload_5 dX8_bringBuyers_57 ?_
        refine ng_iload_6 dX8_bringBuyers_59 ?_
        refine ng_callV_3i (y2 := mi_X7_comes) dX8_bringBuyers_61 lk_X8_97 ms_X7_comes my_X7_comes (by first | exact ⟨_, rfl⟩ | assumption | exact ng_fld_obj (f := 0) (by assumption)) mc_X7 (by first | decide | exact Nat.le_of_ble_eq_true rfl) (c_comes hn26 hn8) (by decide) (fun v M2 hv => ?_)
        rw [h26] at hv
        refine ng_if_ge 69 dX8_bringBuyers_64 (by decide +kernel) (fun h64 => ?_) (fun h64 => ?_)
        · refine ng_iinc_2 (w := 1) dX8_bringBuyers_69 (by decide) rfl ?_
          refine ng_iinc_3 (w := 3) dX8_bringBuyers_72 (by decide) rfl ?_
          refine ng_goto 4 dX8_bringBuyers_75 (by decide +kernel) ?_
          by_cases q : a 1 < 8
          · rw [if_pos q] at hv
            rw [nI_1, (ng_n3 i).2.2, ng_bb, if_pos (by rw [ng_bbc, h48, decide_eq_true q]; rfl), hyn]
            refine ih (i + 1) _ M2 _ _ _ (by omega) ?_ (ng_ok_come hok hn (hl8.mp q) h48) ?_ rfl rfl rfl
            · rw [hv.2]; exact ng_rep_come h (hl8.mp q)
            · intro k hk
              rw [hv.2, ng_come, ng_row_ne (by omega), ng_row_ne (by omega), ng_row_ne (by omega), ng_row_ne (by omega), ng_row_ne (by omega)]; exact ho k hk
          · rw [if_neg q] at hv
            rw [hv.1] at h64
            exact absurd h64 (by decide)
        · refine ng_iload_2 dX8_bringBuyers_67 ?_
          exact ng_ireturn dX8_bringBuyers_68 ⟨_, rfl, by
  first
  | (rw [ng_bb, if_neg (by rw [ng_bbc, h48, Bool.false_and]; decide)]; exact ⟨rfl, h, ho⟩)
  | (by_cases q : a 1 < 8
     · rw [if_pos q] at hv
       exact absurd (by rw [hv.1, ng_le, ng_0, nI_toInt (by omega)]; omega) h64
     · rw [if_neg q] at hv
       rw [ng_bb, if_neg (by rw [ng_bbc, h48, decide_eq_false q]; decide), hv.2]; exact ⟨rfl, h, ho⟩)⟩
def ng_buE (M : ng_M) (s : Int32) : Nat ⊕ Unit := if ng_in s 0 3 = true then (if M 86 s.toNatClampNeg = 0 then .inl 2 else .inr ()) else .inl 1
abbrev ng_bbR (M : ng_M) (s : Int32) : Nat × ng_R := ng_bb (fun j => M 88 (40 * s.toNatClampNeg + j)) ((M 87 s.toNatClampNeg).toNatClampNeg / 3) 0 (M 74)
theorem c_buyers {X : Nat × (Nat → Int32)} {M : ng_M} {s : Int32} (h : ng_I1 M) (h5 : ng_I5 M) : ng_EvI X 4 mi_X8_buyers [.ref 0, .int s] M (ng_e8 M (ng_buE M s) (fun _ => nI (ng_bbR M s).1) (fun _ M1 => ng_rep M1 1 (ng_bbR M s).2 ∧ ∀ k, (k = 0 ∨ 20 ≤ k) → M1 k = M k)) := by
  refine ng_EvI.of (lv := [some (.ref 0), some (.int s), none]) (ty := .int) (by decide) (Nat.le_of_ble_eq_true rfl) rfl rfl (fun _ _ _ => rfl) ?_
  unfold ng_buE ng_bbR
  by_cases hin : ng_in s 0 3 = true
  · obtain ⟨q1, q2, q3⟩ := ng_s4 hin
    obtain ⟨hf0, hf1, hf2, hf3, hf4⟩ := ng_H q2
    obtain ⟨i1, i2, i3, i4, L, hL, hL40⟩ := h5 _ q2
    have hLc : (M 87 s.toNatClampNeg).toNatClampNeg = L := by rw [hL, nI_clamp (by omega)]
    rw [if_pos hin, hLc]
    have hb : ng_EvI X 3 mi_X8_bringBuyers [.ref 0, .ref (64 + 2 * s.toNatClampNeg)] M (fun v M' => v = nI (ng_bb (fun j => M 88 (40 * s.toNatClampNeg + j)) (L / 3) 0 (M 74)).1 ∧ ng_rep M' 1 (ng_bb (fun j => M 88 (40 * s.toNatClampNeg + j)) (L / 3) 0 (M 74)).2 ∧ ∀ k, (k = 0 ∨ 20 ≤ k) → M' k = M k) := by
      refine ng_EvI.of (lv := [some (.ref 0), some (.ref (64 + 2 * s.toNatClampNeg)), none, none, none, none, none]) (ty := .int) (by decide) (Nat.le_of_ble_eq_true rfl) rfl rfl (fun _ _ _ => rfl) ?_
      refine ng_iconst_0 dX8_bringBuyers_0 ?_
      refine ng_istore_2 dX8_bringBuyers_1 (by first | rfl | assumption) ?_
      refine ng_iconst_0 dX8_bringBuyers_2 ?_
      refine ng_istore_3 dX8_bringBuyers_3 (by first | rfl | assumption) ?_
      exact l_X8_bring q2 (i2.trans hL) hL40 i3 (L / 3) 0 (M 74) M _ _ _ (by omega) h.1 h.2 (fun _ _ => rfl) rfl rfl rfl
    refine ng_aload_0 dX8_buyers_0 ?_
    refine ng_iload_1 dX8_buyers_1 ?_
    refine ng_callV_1x (y2 := mi_X8_sheetAt) dX8_buyers_2 lk_X8_122 ms_X8_sheetAt my_X8_sheetAt (by first | exact ⟨_, rfl⟩ | assumption | exact ng_fld_obj (f := 0) (by assumption)) mc_X8 (by first | decide | exact Nat.le_of_ble_eq_true rfl) (s_X8_sheetAt hin) (by decide) ?_
    refine ng_astore_2 dX8_buyers_5 (by first | rfl | assumption) ?_
    refine ng_aload_2 dX8_buyers_6 ?_
    refine ng_ifnonnull 17 dX8_buyers_7 (by decide +kernel) ?_
    refine ng_aload_2 dX8_buyers_17 ?_
    refine ng_callV_0x (y2 := mi_X4_isMissing) dX8_buyers_18 lk_X8_126 ms_X4_isMissing my_X4_isMissing (by first | exact ⟨_, rfl⟩ | assumption | exact ng_fld_obj (f := 0) (by assumption)) mc_X4 (by first | decide | exact Nat.le_of_ble_eq_true rfl) (s_X4_isMissing q2) (by decide) ?_
    rw [i1]
    refine ng_ifb_eq 33 dX8_buyers_21 (by decide +kernel) (fun h21 => ?_) (fun h21 => ?_)
    · refine ng_aload_0 dX8_buyers_33 ?_
      refine ng_aload_2 dX8_buyers_34 ?_
      refine ng_callV_1i (y2 := mi_X8_bringBuyers) dX8_buyers_35 lk_X8_131 ms_X8_bringBuyers my_X8_bringBuyers (by first | exact ⟨_, rfl⟩ | assumption | exact ng_fld_obj (f := 0) (by assumption)) mc_X8 (by first | decide | exact Nat.le_of_ble_eq_true rfl) (hb) (by decide) (fun v M2 hv => ?_)
      exact ng_ireturn dX8_buyers_38 ⟨_, rfl, by first | (rw [if_pos (of_decide_eq_true h21)]; exact ⟨by decide, rfl⟩) | (rw [if_neg (of_decide_eq_false h21)]; exact hv)⟩
    · refine ng_aload_0 dX8_buyers_24 ?_
      refine ng_ldc dX8_buyers_25 kc_X8_130 ?_
      refine ng_callV_1x (y2 := mi_X8_fails) dX8_buyers_27 lk_X8_66 ms_X8_fails my_X8_fails (by first | exact ⟨_, rfl⟩ | assumption | exact ng_fld_obj (f := 0) (by assumption)) mc_X8 (by first | decide | exact Nat.le_of_ble_eq_true rfl) (s_X8_fails (k := 2) (by decide) (by decide) (by decide)) (by decide) ?_
      refine ng_goto 38 dX8_buyers_30 (by decide +kernel) ?_
      exact ng_ireturn dX8_buyers_38 ⟨_, rfl, by first | (rw [if_pos (of_decide_eq_true h21)]; exact ⟨by decide, rfl⟩) | (rw [if_neg (of_decide_eq_false h21)]; exact hv)⟩
  · rw [if_neg hin]
    refine ng_aload_0 dX8_buyers_0 ?_
    refine ng_iload_1 dX8_buyers_1 ?_
    refine ng_callV_1x (y2 := mi_X8_sheetAt) dX8_buyers_2 lk_X8_122 ms_X8_sheetAt my_X8_sheetAt (by first | exact ⟨_, rfl⟩ | assumption | exact ng_fld_obj (f := 0) (by assumption)) mc_X8 (by first | decide | exact Nat.le_of_ble_eq_true rfl) (s_X8_sheetAtN ((Bool.not_eq_true _).mp hin)) (by decide) ?_
    refine ng_astoreN_2 dX8_buyers_5 (by first | rfl | assumption) ?_
    refine ng_aloadN_2 dX8_buyers_6 ?_
    refine ng_ifnonnullN dX8_buyers_7 ?_
    refine ng_aload_0 dX8_buyers_10 ?_
    refine ng_ldc dX8_buyers_11 kc_X8_65 ?_
    refine ng_callV_1x (y2 := mi_X8_fails) dX8_buyers_13 lk_X8_66 ms_X8_fails my_X8_fails (by first | exact ⟨_, rfl⟩ | assumption | exact ng_fld_obj (f := 0) (by assumption)) mc_X8 (by first | decide | exact Nat.le_of_ble_eq_true rfl) (s_X8_fails (k := 1) (by decide) (by decide) (by decide)) (by decide) ?_
    exact ng_ireturn dX8_buyers_16 ⟨_, rfl, by decide, rfl⟩
theorem l_X9_buyers {X : Nat × (Nat → Int32)} {M : ng_M} {s : Int32} {S L : Nat} {g : Nat → Int32} (hs : s = nI S) (hS : S < 4) (hL : M 87 S = nI L) (hL40 : L ≤ 40) (hg : ∀ j, M 88 (40 * S + j) = g j) : ∀ (m i : Nat) (a : ng_R) (x4 : Option Value), i + m = L / 3 → ng_ok a → ng_nl x4 = true →
    ng_Go X mi_X9_buyers 3 37 [some (.ref 73), some (.int s), some (.int (nI i)), some (.int (nI (40 * S + 3 * i))), x4] [] (ng_row M 74 a) (fun r' M' => ∃ v, r' = some (.int v) ∧ v = nI (ng_bb g m i a).1 ∧ M' = ng_row M 74 (ng_bb g m i a).2) := by
  have hv : vp_in s 4 := by rw [hs]; exact vp_in_nI hS (by omega)
  have hc : s.toNatClampNeg = S := by rw [hs, nI_clamp (by omega)]
  intro m
  induction m with
  | zero =>
    intro i a x4 hi hok n4
    have h3 : 3 * nI i + 3 = nI (3 * i + 3) := (congrArg (· + (3 : Int32)) (nI_mul 3 i)).trans (nI_add _ 3)
    refine ng_iconst_3 dX9_buyers_37 ?_
    refine ng_iload_2 dX9_buyers_38 ?_
    refine ng_imul dX9_buyers_39 ?_
    refine ng_iconst_3 dX9_buyers_40 ?_
    refine ng_iadd dX9_buyers_41 ?_
    refine ng_aload_0 dX9_buyers_42 ?_
    refine ng_gR dX9_buyers_43 fl_X9_57 (by first | rfl | assumption) ?_
    refine ng_iload_1 dX9_buyers_46 ?_
    refine ng_ialdL (j := S) dX9_buyers_47 (by first | rfl | assumption) (by exact hv) (by exact hc) ?_
    refine ng_icmp_gt 129 dX9_buyers_48 (by decide +kernel) (fun h48 => ?_) (fun h48 => ?_)
    · refine ng_iload_2 dX9_buyers_129 ?_
      exact ng_ireturn dX9_buyers_130 ⟨_, rfl, rfl, rfl⟩
    · exact absurd (show M 87 S < 3 * nI i + 3 by rw [hL, h3, ng_lt, nI_toInt (by omega), nI_toInt (by omega)]; omega) h48
  | succ m ih =>
    intro i a x4 hi hok n4
    have h3 : 3 * nI i + 3 = nI (3 * i + 3) := (congrArg (· + (3 : Int32)) (nI_mul 3 i)).trans (nI_add _ 3)
    have x1 : nI (40 * S + 3 * i) + 1 = nI (40 * S + (3 * i + 1)) := nI_add _ 1
    have x2 : nI (40 * S + 3 * i) + 2 = nI (40 * S + (3 * i + 2)) := nI_add _ 2
    have x3 : nI (40 * S + 3 * i) + 3 = nI (40 * S + 3 * (i + 1)) := nI_add _ 3
    have v0 : vp_in (nI (40 * S + 3 * i)) 160 := vp_in_nI (by omega) (by omega)
    have v1 : vp_in (nI (40 * S + 3 * i) + 1) 160 := by rw [x1]; exact vp_in_nI (by omega) (by omega)
    have v2 : vp_in (nI (40 * S + 3 * i) + 2) 160 := by rw [x2]; exact vp_in_nI (by omega) (by omega)
    have c0 : (nI (40 * S + 3 * i)).toNatClampNeg = 40 * S + 3 * i := nI_clamp (by omega)
    have c1 : (nI (40 * S + 3 * i) + 1).toNatClampNeg = 40 * S + (3 * i + 1) := by rw [x1, nI_clamp (by omega)]
    have c2 : (nI (40 * S + 3 * i) + 2).toNatClampNeg = 40 * S + (3 * i + 2) := by rw [x2, nI_clamp (by omega)]
    have g0 : ng_row M 74 a 88 (40 * S + 3 * i) = g (3 * i) := (congrFun (ng_row_ne (by decide)) _).trans (hg _)
    have g1 : ng_row M 74 a 88 (40 * S + (3 * i + 1)) = g (3 * i + 1) := (congrFun (ng_row_ne (by decide)) _).trans (hg _)
    have g2 : ng_row M 74 a 88 (40 * S + (3 * i + 2)) = g (3 * i + 2) := (congrFun (ng_row_ne (by decide)) _).trans (hg _)
    obtain ⟨n, hn, hn8⟩ := hok.wfr.1.1.1
    have hl8 := ng_lt8 hn hn8
    have hyn := ng_yn_of hn hn8
    have e1 : ng_row M 74 a 74 1 = a 1 := congrFun ng_row_eq 1
    refine ng_iconst_3 dX9_buyers_37 ?_
    refine ng_iload_2 dX9_buyers_38 ?_
    refine ng_imul dX9_buyers_39 ?_
    refine ng_iconst_3 dX9_buyers_40 ?_
    refine ng_iadd dX9_buyers_41 ?_
    refine ng_aload_0 dX9_buyers_42 ?_
    refine ng_gR dX9_buyers_43 fl_X9_57 (by first | rfl | assumption) ?_
    refine ng_iload_1 dX9_buyers_46 ?_
    refine ng_ialdL (j := S) dX9_buyers_47 (by first | rfl | assumption) (by exact hv) (by exact hc) ?_
    refine ng_icmp_gt 129 dX9_buyers_48 (by decide +kernel) (fun h48 => ?_) (fun h48 => ?_)
    · exact absurd (show M 87 S < 3 * nI i + 3 from h48) (by rw [hL, h3, ng_lt, nI_toInt (by omega), nI_toInt (by omega)]; omega)
    · refine ng_aload_0 dX9_buyers_51 ?_
      refine ng_gR dX9_buyers_52 fl_X9_9 (by first | rfl | assumption) ?_
      refine ng_iconst_1 dX9_buyers_55 ?_
      refine ng_ialdL (j := 1) dX9_buyers_56 (by first | rfl | assumption) (by first | assumption | (unfold vp_in; decide)) (by decide) ?_
      refine ng_bipush (v := 8) dX9_buyers_57 (by decide) ?_
      rw [e1]
      refine ng_icmp_ge 129 dX9_buyers_59 (by decide +kernel) (fun h59 => ?_) (fun h59 => ?_)
      · refine ng_iload_2 dX9_buyers_129 ?_
        exact ng_ireturn dX9_buyers_130 ⟨_, rfl, by rw [ng_bb, if_neg (by rw [ng_bbc, decide_eq_false (Int32.not_lt.mpr h59), Bool.and_false]; decide)]; exact ⟨rfl, rfl⟩⟩
      · refine ng_aload_0 dX9_buyers_62 ?_
        refine ng_gR dX9_buyers_63 fl_X9_60 (by first | rfl | assumption) ?_
        refine ng_iload_3 dX9_buyers_66 ?_
        refine ng_ialdL (j := (40 * S + 3 * i)) dX9_buyers_67 (by first | rfl | assumption) (by exact v0) (by exact c0) ?_
        refine ng_aload_0 dX9_buyers_68 ?_
        refine ng_gR dX9_buyers_69 fl_X9_60 (by first | rfl | assumption) ?_
        refine ng_iload_3 dX9_buyers_72 ?_
        refine ng_iconst_1 dX9_buyers_73 ?_
        refine ng_iadd dX9_buyers_74 ?_
        refine ng_ialdL (j := (40 * S + (3 * i + 1))) dX9_buyers_75 (by first | rfl | assumption) (by exact v1) (by exact c1) ?_
        refine ng_aload_0 dX9_buyers_76 ?_
        refine ng_gR dX9_buyers_77 fl_X9_60 (by first | rfl | assumption) ?_
        refine ng_iload_3 dX9_buyers_80 ?_
        refine ng_iconst_2 dX9_buyers_81 ?_
        refine ng_iadd dX9_buyers_82 ?_
        refine ng_ialdL (j := (40 * S + (3 * i + 2))) dX9_buyers_83 (by first | rfl | assumption) (by exact v2) (by exact c2) ?_
        rw [g0, g1, g2]
        refine ng_callS_3x (y2 := mi_X9_isAsTold) dX9_buyers_84 lk_X9_97 ms_X9_isAsTold my_X9_isAsTold (by first | decide | exact Nat.le_of_ble_eq_true rfl) (s_X9_isAsTold) (by decide) ?_
        refine ng_ifb_ne 92 dX9_buyers_87 (by decide +kernel) (fun h87 => ?_) (fun h87 => ?_)
        · refine ng_aload_0 dX9_buyers_92 ?_
          refine ng_aload_0 dX9_buyers_93 ?_
          refine ng_gR dX9_buyers_94 fl_X9_60 (by first | rfl | assumption) ?_
          refine ng_iload_3 dX9_buyers_97 ?_
          refine ng_ialdL (j := (40 * S + 3 * i)) dX9_buyers_98 (by first | rfl | assumption) (by exact v0) (by exact c0) ?_
          refine ng_aload_0 dX9_buyers_99 ?_
          refine ng_gR dX9_buyers_100 fl_X9_60 (by first | rfl | assumption) ?_
          refine ng_iload_3 dX9_buyers_103 ?_
          refine ng_iconst_1 dX9_buyers_104 ?_
          refine ng_iadd dX9_buyers_105 ?_
          refine ng_ialdL (j := (40 * S + (3 * i + 1))) dX9_buyers_106 (by first | rfl | assumption) (by exact v1) (by exact c1) ?_
          refine ng_aload_0 dX9_buyers_107 ?_
          refine ng_gR dX9_buyers_108 fl_X9_60 (by first | rfl | assumption) ?_
          refine ng_iload_3 dX9_buyers_111 ?_
          refine ng_iconst_2 dX9_buyers_112 ?_
          refine ng_iadd dX9_buyers_113 ?_
          refine ng_ialdL (j := (40 * S + (3 * i + 2))) dX9_buyers_114 (by first | rfl | assumption) (by exact v2) (by exact c2) ?_
          rw [g0, g1, g2]
          have hq : n < 8 := hl8.mp (Int32.not_le.mp h59)
          refine ng_callV_3i (y2 := mi_X9_comes) dX9_buyers_115 lk_X9_101 ms_X9_comes my_X9_comes (by first | exact ⟨_, rfl⟩ | assumption | exact ng_fld_obj (f := 0) (by assumption)) mc_X9 (by first | decide | exact Nat.le_of_ble_eq_true rfl) (r_comes (e1.trans hn) hq) (by decide) (fun v M2 hv2 => ?_)
          refine ng_istore_4 dX9_buyers_118 (by first | rfl | assumption) ?_
          refine ng_iinc_2 (w := 1) dX9_buyers_120 (by decide) rfl ?_
          refine ng_iinc_3 (w := 3) dX9_buyers_123 (by decide) rfl ?_
          refine ng_goto 37 dX9_buyers_126 (by decide +kernel) ?_
          rw [nI_1, x3, ng_bb, if_pos (by rw [ng_bbc, h87, decide_eq_true (Int32.not_le.mp h59)]; rfl), hyn, hv2.2, ng_row_row, ng_row_eq]
          exact ih (i + 1) _ _ (by omega) (ng_ok_come hok hn hq h87) rfl
        · refine ng_iload_2 dX9_buyers_90 ?_
          exact ng_ireturn dX9_buyers_91 ⟨_, rfl, by rw [ng_bb, if_neg (by rw [ng_bbc, h87, Bool.false_and]; decide)]; exact ⟨rfl, rfl⟩⟩
theorem r_buyers {X : Nat × (Nat → Int32)} {M : ng_M} {s : Int32} (h : ng_ok (M 74)) (hL : ∀ i, i < 4 → ∃ L, M 87 i = nI L ∧ L ≤ 40) : ng_EvI X 3 mi_X9_buyers [.ref 73, .int s] M (ng_e9 M (ng_buE M s) (fun _ => nI (ng_bbR M s).1) (fun _ M1 => M1 = ng_row M 74 (ng_bbR M s).2)) := by
  refine ng_EvI.of (lv := [some (.ref 73), some (.int s), none, none, none]) (ty := .int) (by decide) (Nat.le_of_ble_eq_true rfl) rfl rfl (fun _ _ _ => rfl) ?_
  unfold ng_buE ng_bbR
  by_cases hin : ng_in s 0 3 = true
  · obtain ⟨q1, q2, q3⟩ := ng_s4 hin
    obtain ⟨L, hL, hL40⟩ := hL _ q2
    have hLc : (M 87 s.toNatClampNeg).toNatClampNeg = L := by rw [hL, nI_clamp (by omega)]
    have e0 : 40 * s = nI (40 * s.toNatClampNeg + 3 * 0) := by
      have z := nI_mul 40 s.toNatClampNeg
      rw [← q1] at z
      exact z
    rw [if_pos hin, hLc]
    refine ng_iload_1 dX9_buyers_0 ?_
    refine ng_callS_1x (y2 := mi_X9_isSheet) dX9_buyers_1 lk_X9_115 ms_X9_isSheet my_X9_isSheet (by first | decide | exact Nat.le_of_ble_eq_true rfl) (s_X9_isSheet) (by decide) ?_
    refine ng_ifb_ne 14 dX9_buyers_4 (by decide +kernel) (fun h4 => ?_) (fun h4 => ?_)
    · refine ng_aload_0 dX9_buyers_14 ?_
      refine ng_gR dX9_buyers_15 fl_X9_54 (by first | rfl | assumption) ?_
      refine ng_iload_1 dX9_buyers_18 ?_
      refine ng_iald dX9_buyers_19 (by first | rfl | assumption) (by exact q3) ?_
      refine ng_if_ne 30 dX9_buyers_20 (by decide +kernel) (fun h20 => ?_) (fun h20 => ?_)
      · refine ng_iconst_0 dX9_buyers_30 ?_
        refine ng_istore_2 dX9_buyers_31 (by first | rfl | assumption) ?_
        refine ng_bipush (v := 40) dX9_buyers_32 (by decide) ?_
        refine ng_iload_1 dX9_buyers_34 ?_
        refine ng_imul dX9_buyers_35 ?_
        rw [e0]
        refine ng_istore_3 dX9_buyers_36 (by first | rfl | assumption) ?_
        rw [if_neg h20]
        have z := l_X9_buyers (X := X) (M := M) q1 q2 hL hL40 (fun _ => rfl) (L / 3) 0 (M 74) none (by omega) h rfl
        rw [ng_row_self] at z
        exact z
      · refine ng_aload_0 dX9_buyers_23 ?_
        refine ng_ldc dX9_buyers_24 kc_X9_118 ?_
        refine ng_callV_1x (y2 := mi_X9_finding) dX9_buyers_26 lk_X9_92 ms_X9_finding my_X9_finding (by first | exact ⟨_, rfl⟩ | assumption | exact ng_fld_obj (f := 0) (by assumption)) mc_X9 (by first | decide | exact Nat.le_of_ble_eq_true rfl) (s_X9_finding (k := 2) (by decide) (by decide) (by decide)) (by decide) ?_
        exact ng_ireturn dX9_buyers_29 ⟨_, rfl, by rw [if_pos h20]; exact ⟨by decide, rfl⟩⟩
    · rw [hin] at h4; exact absurd h4 (by decide)
  · have hf := (Bool.not_eq_true _).mp hin
    rw [if_neg hin]
    refine ng_iload_1 dX9_buyers_0 ?_
    refine ng_callS_1x (y2 := mi_X9_isSheet) dX9_buyers_1 lk_X9_115 ms_X9_isSheet my_X9_isSheet (by first | decide | exact Nat.le_of_ble_eq_true rfl) (s_X9_isSheet) (by decide) ?_
    refine ng_ifb_ne 14 dX9_buyers_4 (by decide +kernel) (fun h4 => ?_) (fun h4 => ?_)
    · rw [hf] at h4; exact absurd h4 (by decide)
    · refine ng_aload_0 dX9_buyers_7 ?_
      refine ng_ldc dX9_buyers_8 kc_X9_91 ?_
      refine ng_callV_1x (y2 := mi_X9_finding) dX9_buyers_10 lk_X9_92 ms_X9_finding my_X9_finding (by first | exact ⟨_, rfl⟩ | assumption | exact ng_fld_obj (f := 0) (by assumption)) mc_X9 (by first | decide | exact Nat.le_of_ble_eq_true rfl) (s_X9_finding (k := 1) (by decide) (by decide) (by decide)) (by decide) ?_
      exact ng_ireturn dX9_buyers_13 ⟨_, rfl, by decide, rfl⟩
theorem pr_buyers {X : Nat × (Nat → Int32)} {M : ng_M} {s : Int32} (h : ng_inv M) : ng_pair X mi_X8_buyers mi_X9_buyers [.int s] M := by
  refine ng_pair.E h (c_buyers h.1 h.2.2.2.2.1) (by decide) (d9 := 3) (by decide) (fun M1 e => ?_) (fun x M1 hE hm k hk => hm.2 k (by omega)) (fun x M1 M2 hE hm hr => ?_) (mR := fun M1 _ M2 => M2 = ng_row M1 74 (ng_bbR M s).2)
  · have hE : ng_buE M s = ng_buE M1 s := by unfold ng_buE; rw [e 86 (by decide)]
    have hR : ng_bbR M s = ng_bbR M1 s := by unfold ng_bbR; rw [e 87 (by decide), e 88 (by decide), e 74 (by decide)]
    rw [hE, hR]
    exact r_buyers (by rw [e 74 (by decide)]; exact h.1.2) (fun i hi => by rw [e 87 (by decide)]; exact (h.2.2.2.2.1 i hi).2.2.2.2)
  · rw [hr]
    exact ng_inv_new h hm.1 (ng_bb_ok _ _ _ h.1.2) hm.2

