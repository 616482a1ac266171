/-! ===== pair: feed ===== -/
def ng_by (w : Int64) (j : Nat) : Int32 := ((w >>> ((8 * nI j).toInt64 &&& 63)) &&& 255).toInt32
def ng_byc (w : Int64) (j : Nat) : Int32 := ((w.toUInt64 >>> ((8 * nI j).toInt64.toUInt64 &&& Int64.toUInt64 63)).toInt64).toInt32 &&& 255
theorem ng_shc : ∀ j, j < 8 → ((8 * nI j).toInt64.toUInt64 &&& Int64.toUInt64 63) = UInt64.ofNat (8 * j) ∧ ((8 * nI j).toInt64 &&& 63) = Int64.ofNat (8 * j) := by decide +kernel
theorem ng_by_eq {w : Int64} {j : Nat} (h : j < 8) : ng_byc w j = ng_by w j := by
  unfold ng_byc ng_by
  rw [(ng_shc j h).1, (ng_shc j h).2]
  apply Int32.toBitVec_inj.1
  apply BitVec.eq_of_getLsbD_eq
  intro i hi
  have c : j = 0 ∨ j = 1 ∨ j = 2 ∨ j = 3 ∨ j = 4 ∨ j = 5 ∨ j = 6 ∨ j = 7 := by omega
  have h8 : (8 : Nat) ≤ i → (255#32).getLsbD i = false ∧ (255#64).getLsbD i = false := by
    intro q
    have : ∀ i, i < 32 → 8 ≤ i → (255#32).getLsbD i = false ∧ (255#64).getLsbD i = false := by decide
    exact this i hi q
  have e255 : (255 : Int32).toBitVec = 255#32 := by decide
  have f255 : (255 : Int64).toBitVec = 255#64 := by decide
  have g255 : ∀ i, i < 8 → (255#32).getLsbD i = true ∧ (255#64).getLsbD i = true := by decide
  rcases c with rfl | rfl | rfl | rfl | rfl | rfl | rfl | rfl
  all_goals
    simp [Int32.toBitVec_and, Int64.toBitVec_and, Int64.toBitVec_toInt32, BitVec.getLsbD_signExtend, BitVec.getLsbD_and]
  all_goals
    by_cases q : i < 8
    · have q2 : i < 64 := by omega
      have q3 : ¬ 64 ≤ i := by omega
      rw [if_pos q2, BitVec.getLsbD_sshiftRight, if_pos (by omega)]
      simp [q2, q3, hi]
    · simp [(h8 (by omega)).1]
theorem ng_by_bd (w : Int64) {j : Nat} (h : j < 8) : 0 ≤ (ng_by w j).toInt ∧ (ng_by w j).toInt ≤ 255 := by
  rw [← ng_by_eq h]
  unfold ng_byc
  generalize ((w.toUInt64 >>> ((8 * nI j).toInt64.toUInt64 &&& Int64.toUInt64 63)).toInt64).toInt32 = x
  have e : (x &&& 255).toBitVec.toNat ≤ 255 := by
    rw [Int32.toBitVec_and, BitVec.toNat_and]
    exact Nat.and_le_right
  have f : (x &&& 255).toInt = ((x &&& 255).toBitVec.toNat : Int) := by
    show (x &&& 255).toBitVec.toInt = _
    exact BitVec.toInt_eq_toNat_of_lt (by omega)
  rw [f]
  omega
/-- bytes onto the tape -/
def ng_fd (a : ng_R) (P : Nat) (g : Nat → Int32) : Nat → ng_R
  | 0 => a
  | i + 1 => upd (ng_fd a P g i) (53 + P + i) (g i)
abbrev ng_fdT (a : ng_R) (P : Nat) (g : Nat → Int32) (i : Nat) : ng_R := upd (ng_fd a P g i) 8 (nI (P + i))
theorem ng_ok_fd {a : ng_R} {P : Nat} {g : Nat → Int32} (h : ng_ok a) (hg : ∀ i, i < 8 → 0 ≤ (g i).toInt ∧ (g i).toInt ≤ 255) : ∀ i, i ≤ 8 → P + i ≤ 50 → ng_ok (ng_fd a P g i)
  | 0, _, _ => h
  | i + 1, h8, h50 => by
    have b := ng_b_tp (P + i) (by omega)
    have e : 53 + (P + i) = 53 + P + i := by omega
    rw [e] at b
    exact (ng_ok_fd h hg i (by omega) (by omega)).upd (by omega) (by rw [b.1]; exact (hg i (by omega)).1) (by rw [b.2]; exact (hg i (by omega)).2)
def ng_fdE (a : ng_R) (n : Int32) : Nat ⊕ Unit := if ng_in n 1 8 then (if a 8 + n ≤ 50 then .inr () else .inl 4) else .inl 1
theorem ng_n8 {n : Int32} (h : ng_in n 1 8 = true) : ∃ N : Nat, n = nI N ∧ 1 ≤ N ∧ N ≤ 8 := by
  have q := ng_inT.mp h
  rw [ng_1, show (8 : Int32).toInt = 8 by decide] at q
  obtain ⟨N, hN, e⟩ := nI_of (x := n) (by rw [ng_lt, ng_0]; omega)
  rw [e, nI_toInt hN] at q
  exact ⟨N, e, by omega, by omega⟩
theorem ng_fd50 {a : ng_R} {n : Int32} {P N : Nat} (hP : a 8 = nI P) (hN : n = nI N) (hP50 : P ≤ 50) (hN8 : N ≤ 8) : a 8 + n ≤ 50 ↔ P + N ≤ 50 := by
  rw [hP, hN, nI_add, ng_le, nI_toInt (by omega), show (50 : Int32).toInt = 50 by decide]
  omega
theorem l_X8_feed {X : Nat × (Nat → Int32)} {M : ng_M} {w : Int64} {n : Int32} {P N : Nat} (hn : n = nI N) (hN8 : N ≤ 8) (h14 : M 1 4 = nI P) (hPN : P + N ≤ 50) {F : Option Value → ng_M → Prop} : ∀ (m i : Nat) (M1 : ng_M), i + m = N → ng_rep M1 1 (ng_fd (M 74) P (ng_by w) i) → (∀ k, k ≠ 18 → M1 k = M k) →
    (∀ M2 x4, ng_rep M2 1 (ng_fd (M 74) P (ng_by w) N) → (∀ k, k ≠ 18 → M2 k = M k) → ng_Go X mi_X8_feed 3 83 [some (.ref 0), some (.long w), none, some (.int n), x4] [] M2 F) →
    ng_Go X mi_X8_feed 3 41 [some (.ref 0), some (.long w), none, some (.int n), some (.int (nI i))] [] M1 F := by
  intro m
  induction m with
  | zero =>
    intro i M1 hi hr ho kk
    have hi2 : i = N := by omega
    subst hi2
    refine ng_iload_4 dX8_feed_41 ?_
    refine ng_iload_3 dX8_feed_43 ?_
    refine ng_icmp_ge 83 dX8_feed_44 (by decide +kernel) (fun h44 => ?_) (fun h44 => ?_)
    · exact kk M1 _ hr ho
    · exact absurd (by rw [hn]; exact Int32.le_refl _) h44
  | succ m ih =>
    intro i M1 hi hr ho kk
    have e14 : M1 1 4 = nI P := by rw [ho 1 (by decide)]; exact h14
    have hx : M1 1 4 + nI i = nI (P + i) := by rw [e14, nI_add]
    refine ng_iload_4 dX8_feed_41 ?_
    refine ng_iload_3 dX8_feed_43 ?_
    refine ng_icmp_ge 83 dX8_feed_44 (by decide +kernel) (fun h44 => ?_) (fun h44 => ?_)
    · rw [hn] at h44; exact absurd h44 (nI_ge (by omega) (by omega))
    · refine ng_aload_0 dX8_feed_47 ?_
      refine ng_gR dX8_feed_48 fl_X8_12 (by first | rfl | assumption) ?_
      refine ng_gR dX8_feed_51 fl_X8_158 (by first | rfl | assumption) ?_
      refine ng_aload_0 dX8_feed_54 ?_
      refine ng_gR dX8_feed_55 fl_X8_12 (by first | rfl | assumption) ?_
      refine ng_gI dX8_feed_58 fl_X8_155 (by first | rfl | assumption) ?_
      refine ng_iload_4 dX8_feed_61 ?_
      refine ng_iadd dX8_feed_63 ?_
      refine ng_lload_1 dX8_feed_64 ?_
      refine ng_bipush (v := 8) dX8_feed_65 (by decide) ?_
      refine ng_iload_4 dX8_feed_67 ?_
      refine ng_imul dX8_feed_69 ?_
      refine ng_lushr dX8_feed_70 ?_
      refine ng_l2i dX8_feed_71 ?_
      refine ng_sipush (v := 255) dX8_feed_72 (by decide) ?_
      refine ng_iand dX8_feed_75 ?_
      refine ng_iastL (j := (P + i)) dX8_feed_76 (by first | rfl | assumption) (by rw [hx]; exact vp_in_nI (by omega) (by omega)) (by rw [hx, nI_clamp (by omega)]) ?_
      refine ng_iinc_4 (w := 1) dX8_feed_77 (by decide) rfl ?_
      refine ng_goto 41 dX8_feed_80 (by decide +kernel) ?_
      rw [nI_1]
      have eb : ((w.toUInt64 >>> ((8 * nI i).toInt64.toUInt64 &&& Int64.toUInt64 63)).toInt64).toInt32 &&& 255 = ng_by w i := ng_by_eq (by omega)
      rw [eb]
      refine ih (i + 1) _ (by omega) ?_ (fun k hk => by rw [ng_row_ne hk]; exact ho k hk) kk
      have z := ng_rset hr (r := 18) (j := P + i) (i := 53 + (P + i)) (v := ng_by w i) (by decide) (ng_loc_tp (P + i) (by omega)) (by omega)
      rw [show 53 + (P + i) = 53 + P + i by omega] at z
      exact z
theorem c_feed {X : Nat × (Nat → Int32)} {M : ng_M} {w : Int64} {n : Int32} {P : Nat} (h : ng_I1 M) (hP : M 74 8 = nI P) (hP50 : P ≤ 50) : ng_EvI X 3 mi_X8_feed [.ref 0, .long w, .int n] M (ng_e8 M (ng_fdE (M 74) n) (fun _ => M 74 8 + n) (fun _ M1 => ng_rep M1 1 (ng_fdT (M 74) P (ng_by w) n.toNatClampNeg) ∧ ∀ k, k ≠ 18 → k ≠ 1 → M1 k = M k)) := by
  have e14 : M 1 4 = M 74 8 := h.1.rl.2.2.2.1
  refine ng_EvI.of (lv := [some (.ref 0), some (.long w), none, some (.int n), none]) (ty := .int) (by decide) (Nat.le_of_ble_eq_true rfl) rfl rfl (fun _ _ _ => rfl) ?_
  unfold ng_fdE
  refine ng_iload_3 dX8_feed_0 ?_
  refine ng_iconst_1 dX8_feed_1 ?_
  refine ng_bipush (v := 8) dX8_feed_2 (by decide) ?_
  refine ng_callS_3x (y2 := mi_X8_isWithin) dX8_feed_4 lk_X8_61 ms_X8_isWithin my_X8_isWithin (by first | decide | exact Nat.le_of_ble_eq_true rfl) (s_X8_isWithin) (by decide) ?_
  refine ng_ifb_ne 17 dX8_feed_7 (by decide +kernel) (fun h7 => ?_) (fun h7 => ?_)
  · obtain ⟨N, hN, hN1, hN8⟩ := ng_n8 h7
    have hc : n.toNatClampNeg = N := by rw [hN, nI_clamp (by omega)]
    rw [hc]
    refine ng_aload_0 dX8_feed_17 ?_
    refine ng_gR dX8_feed_18 fl_X8_12 (by first | rfl | assumption) ?_
    refine ng_gI dX8_feed_21 fl_X8_155 (by first | rfl | assumption) ?_
    rw [e14]
    refine ng_iload_3 dX8_feed_24 ?_
    refine ng_iadd dX8_feed_25 ?_
    refine ng_bipush (v := 50) dX8_feed_26 (by decide) ?_
    refine ng_icmp_le 38 dX8_feed_28 (by decide +kernel) (fun h28 => ?_) (fun h28 => ?_)
    · refine ng_iconst_0 dX8_feed_38 ?_
      refine ng_istore_4 dX8_feed_39 (by first | rfl | assumption) ?_
      have hPN := (ng_fd50 hP hN hP50 hN8).mp h28
      rw [if_pos h7, if_pos h28]
      refine l_X8_feed hN hN8 (e14.trans hP) hPN N 0 M (by omega) h.1 (fun _ _ => rfl) (fun M2 x4 hr ho => ?_)
      refine ng_aload_0 dX8_feed_83 ?_
      refine ng_gR dX8_feed_84 fl_X8_12 (by first | rfl | assumption) ?_
      refine ng_dup dX8_feed_87 rfl ?_
      refine ng_gI dX8_feed_88 fl_X8_155 (by first | rfl | assumption) ?_
      refine ng_iload_3 dX8_feed_91 ?_
      refine ng_iadd dX8_feed_92 ?_
      refine ng_pI dX8_feed_93 fp_X8_155 (by first | rfl | assumption) rfl rfl ?_
      refine ng_aload_0 dX8_feed_96 ?_
      refine ng_gR dX8_feed_97 fl_X8_12 (by first | rfl | assumption) ?_
      refine ng_gI dX8_feed_100 fl_X8_155 (by first | rfl | assumption) ?_
      have e1 : M2 1 4 = M 74 8 := by rw [ho 1 (by decide)]; exact e14
      refine ng_ireturn dX8_feed_103 ⟨_, rfl, by rw [ng_row_eq, ng_upd_eq, e1], ?_, fun k k1 k2 => by rw [ng_row_ne k2]; exact ho k k1⟩
      have z := ng_rset hr (r := 1) (j := 4) (i := 8) (v := M2 1 4 + n) (by decide) (fun k hk => (ng_loc_w k hk).2.1) (by decide)
      rw [e1] at z ⊢
      have e2 : M 74 8 + n = nI (P + N) := by rw [hP, hN, nI_add]
      rw [e2] at z ⊢
      exact z
    · refine ng_aload_0 dX8_feed_31 ?_
      refine ng_ldc dX8_feed_32 kc_X8_101 ?_
      refine ng_callV_1x (y2 := mi_X8_fails) dX8_feed_34 lk_X8_66 ms_X8_fails my_X8_fails (by first | exact ⟨_, rfl⟩ | assumption | exact ng_fld_obj (f := 0) (by assumption)) mc_X8 (by first | decide | exact Nat.le_of_ble_eq_true rfl) (s_X8_fails (k := 4) (by decide) (by decide) (by decide)) (by decide) ?_
      exact ng_ireturn dX8_feed_37 ⟨_, rfl, by rw [if_pos h7, if_neg h28]; exact ⟨by decide, rfl⟩⟩
  · refine ng_aload_0 dX8_feed_10 ?_
    refine ng_ldc dX8_feed_11 kc_X8_65 ?_
    refine ng_callV_1x (y2 := mi_X8_fails) dX8_feed_13 lk_X8_66 ms_X8_fails my_X8_fails (by first | exact ⟨_, rfl⟩ | assumption | exact ng_fld_obj (f := 0) (by assumption)) mc_X8 (by first | decide | exact Nat.le_of_ble_eq_true rfl) (s_X8_fails (k := 1) (by decide) (by decide) (by decide)) (by decide) ?_
    exact ng_ireturn dX8_feed_16 ⟨_, rfl, by rw [if_neg (by rw [h7]; decide)]; exact ⟨by decide, rfl⟩⟩
theorem ng_upd_comm {f : Nat → Int32} {i j : Nat} {v w : Int32} (h : i ≠ j) : upd (upd f i v) j w = upd (upd f j w) i v := by
  funext k
  by_cases q : k = i
  · subst q; rw [ng_upd_ne h, ng_upd_eq, ng_upd_eq]
  · rw [ng_upd_ne q]
    by_cases q2 : k = j
    · subst q2; rw [ng_upd_eq, ng_upd_eq]
    · rw [ng_upd_ne q2, ng_upd_ne q2, ng_upd_ne q]
theorem l_X9_feed {X : Nat × (Nat → Int32)} {M : ng_M} {a : ng_R} {w : Int64} {n : Int32} {P N : Nat} (hn : n = nI N) (hN8 : N ≤ 8) (hPN : P + N ≤ 50) : ∀ (m i : Nat), i + m = N →
    ng_Go X mi_X9_feed 3 41 [some (.ref 73), some (.long w), none, some (.int n), some (.int (nI i))] [] (ng_row M 74 (ng_fdT a P (ng_by w) i)) (fun r' M' => ∃ v, r' = some (.int v) ∧ v = nI (P + N) ∧ M' = ng_row M 74 (ng_fdT a P (ng_by w) N)) := by
  intro m
  induction m with
  | zero =>
    intro i hi
    have hi2 : i = N := by omega
    subst hi2
    refine ng_iload_4 dX9_feed_41 ?_
    refine ng_iload_3 dX9_feed_43 ?_
    refine ng_icmp_ge 91 dX9_feed_44 (by decide +kernel) (fun h44 => ?_) (fun h44 => ?_)
    · refine ng_aload_0 dX9_feed_91 ?_
      refine ng_gR dX9_feed_92 fl_X9_9 (by first | rfl | assumption) ?_
      refine ng_bipush (v := 8) dX9_feed_95 (by decide) ?_
      refine ng_ialdL (j := 8) dX9_feed_97 (by first | rfl | assumption) (by first | assumption | (unfold vp_in; decide)) (by decide) ?_
      exact ng_ireturn dX9_feed_98 ⟨_, rfl, by rw [ng_row_eq]; exact ng_upd_eq, rfl⟩
    · exact absurd (by rw [hn]; exact Int32.le_refl _) h44
  | succ m ih =>
    intro i hi
    have e8 : ng_row M 74 (ng_fdT a P (ng_by w) i) 74 8 = nI (P + i) := by rw [ng_row_eq]; exact ng_upd_eq
    have hx : 53 + nI (P + i) = nI (53 + P + i) := (nI_add 53 (P + i)).trans (by congr 1; omega)
    refine ng_iload_4 dX9_feed_41 ?_
    refine ng_iload_3 dX9_feed_43 ?_
    refine ng_icmp_ge 91 dX9_feed_44 (by decide +kernel) (fun h44 => ?_) (fun h44 => ?_)
    · rw [hn] at h44; exact absurd h44 (nI_ge (by omega) (by omega))
    · refine ng_aload_0 dX9_feed_47 ?_
      refine ng_gR dX9_feed_48 fl_X9_9 (by first | rfl | assumption) ?_
      refine ng_bipush (v := 53) dX9_feed_51 (by decide) ?_
      refine ng_aload_0 dX9_feed_53 ?_
      refine ng_gR dX9_feed_54 fl_X9_9 (by first | rfl | assumption) ?_
      refine ng_bipush (v := 8) dX9_feed_57 (by decide) ?_
      refine ng_ialdL (j := 8) dX9_feed_59 (by first | rfl | assumption) (by first | assumption | (unfold vp_in; decide)) (by decide) ?_
      rw [e8]
      refine ng_iadd dX9_feed_60 ?_
      refine ng_lload_1 dX9_feed_61 ?_
      refine ng_bipush (v := 8) dX9_feed_62 (by decide) ?_
      refine ng_iload_4 dX9_feed_64 ?_
      refine ng_imul dX9_feed_66 ?_
      refine ng_lshr dX9_feed_67 ?_
      refine ng_ldc2 dX9_feed_68 kc_X9_138 ?_
      refine ng_land dX9_feed_71 ?_
      refine ng_l2i dX9_feed_72 ?_
      refine ng_iastL (j := (53 + P + i)) dX9_feed_73 (by first | rfl | assumption) (by rw [hx]; exact vp_in_nI (by omega) (by omega)) (by rw [hx, nI_clamp (by omega)]) ?_
      refine ng_aload_0 dX9_feed_74 ?_
      refine ng_gR dX9_feed_75 fl_X9_9 (by first | rfl | assumption) ?_
      refine ng_bipush (v := 8) dX9_feed_78 (by decide) ?_
      refine ng_dup2 dX9_feed_80 rfl rfl ?_
      refine ng_ialdL (j := 8) dX9_feed_81 (by first | rfl | assumption) (by first | assumption | (unfold vp_in; decide)) (by decide) ?_
      refine ng_iconst_1 dX9_feed_82 ?_
      refine ng_iadd dX9_feed_83 ?_
      refine ng_iastL (j := 8) dX9_feed_84 (by first | rfl | assumption) (by first | assumption | (unfold vp_in; decide)) (by decide) ?_
      refine ng_iinc_4 (w := 1) dX9_feed_85 (by decide) rfl ?_
      refine ng_goto 41 dX9_feed_88 (by decide +kernel) ?_
      rw [nI_1]
      have z := ih (i + 1) (by omega)
      have eb : ((w >>> ((8 * nI i).toInt64 &&& 63)) &&& 255).toInt32 = ng_by w i := rfl
      rw [eb]
      have er : ng_fdT a P (ng_by w) (i + 1) = upd (upd (ng_fdT a P (ng_by w) i) (53 + P + i) (ng_by w i)) 8 (upd (ng_fdT a P (ng_by w) i) (53 + P + i) (ng_by w i) 8 + 1) := by
        rw [ng_upd_ne (show 8 ≠ 53 + P + i by omega), show ng_fdT a P (ng_by w) i 8 = nI (P + i) from ng_upd_eq, nI_1]
        unfold ng_fdT
        rw [ng_upd_comm (show 8 ≠ 53 + P + i by omega), ng_updd]
        rfl
      rw [er] at z
      simp only [ng_row_row, ng_row_eq]
      exact z
theorem r_feed {X : Nat × (Nat → Int32)} {M : ng_M} {w : Int64} {n : Int32} {P : Nat} (hP : M 74 8 = nI P) (hP50 : P ≤ 50) : ng_EvI X 3 mi_X9_feed [.ref 73, .long w, .int n] M (ng_e9 M (ng_fdE (M 74) n) (fun _ => M 74 8 + n) (fun _ M1 => M1 = ng_row M 74 (ng_fdT (M 74) P (ng_by w) n.toNatClampNeg))) := by
  refine ng_EvI.of (lv := [some (.ref 73), some (.long w), none, some (.int n), none]) (ty := .int) (by decide) (Nat.le_of_ble_eq_true rfl) rfl rfl (fun _ _ _ => rfl) ?_
  unfold ng_fdE
  have z0 : ng_row M 74 (ng_fdT (M 74) P (ng_by w) 0) = M := by
    have : ng_fdT (M 74) P (ng_by w) 0 = M 74 := by
      funext k
      by_cases q : k = 8
      · subst q; rw [ng_fdT, ng_upd_eq]; exact hP.symm
      · rw [ng_fdT, ng_upd_ne q]; rfl
    rw [this, ng_row_self]
  refine ng_iload_3 dX9_feed_0 ?_
  refine ng_iconst_1 dX9_feed_1 ?_
  refine ng_bipush (v := 8) dX9_feed_2 (by decide) ?_
  refine ng_callS_3x (y2 := mi_X9_within) dX9_feed_4 lk_X9_80 ms_X9_within my_X9_within (by first | decide | exact Nat.le_of_ble_eq_true rfl) (s_X9_within) (by decide) ?_
  refine ng_ifb_ne 17 dX9_feed_7 (by decide +kernel) (fun h7 => ?_) (fun h7 => ?_)
  · obtain ⟨N, hN, hN1, hN8⟩ := ng_n8 h7
    have hc : n.toNatClampNeg = N := by rw [hN, nI_clamp (by omega)]
    rw [hc]
    refine ng_aload_0 dX9_feed_17 ?_
    refine ng_gR dX9_feed_18 fl_X9_9 (by first | rfl | assumption) ?_
    refine ng_bipush (v := 8) dX9_feed_21 (by decide) ?_
    refine ng_ialdL (j := 8) dX9_feed_23 (by first | rfl | assumption) (by first | assumption | (unfold vp_in; decide)) (by decide) ?_
    refine ng_iload_3 dX9_feed_24 ?_
    refine ng_iadd dX9_feed_25 ?_
    refine ng_bipush (v := 50) dX9_feed_26 (by decide) ?_
    refine ng_icmp_le 38 dX9_feed_28 (by decide +kernel) (fun h28 => ?_) (fun h28 => ?_)
    · refine ng_iconst_0 dX9_feed_38 ?_
      refine ng_istore_4 dX9_feed_39 (by first | rfl | assumption) ?_
      have hPN := (ng_fd50 hP hN hP50 hN8).mp h28
      rw [if_pos h7, if_pos h28]
      have z := l_X9_feed (X := X) (M := M) (a := M 74) (w := w) hN hN8 hPN N 0 (by omega)
      rw [z0] at z
      refine z.imp (fun r M2 q => ?_)
      obtain ⟨v, q1, q2, q3⟩ := q
      exact ⟨v, q1, by rw [q2, hP, hN, nI_add], q3⟩
    · refine ng_aload_0 dX9_feed_31 ?_
      refine ng_ldc dX9_feed_32 kc_X9_100 ?_
      refine ng_callV_1x (y2 := mi_X9_finding) dX9_feed_34 lk_X9_92 ms_X9_finding my_X9_finding (by first | exact ⟨_, rfl⟩ | assumption | exact ng_fld_obj (f := 0) (by assumption)) mc_X9 (by first | decide | exact Nat.le_of_ble_eq_true rfl) (s_X9_finding (k := 4) (by decide) (by decide) (by decide)) (by decide) ?_
      exact ng_ireturn dX9_feed_37 ⟨_, rfl, by rw [if_pos h7, if_neg h28]; exact ⟨by decide, rfl⟩⟩
  · refine ng_aload_0 dX9_feed_10 ?_
    refine ng_ldc dX9_feed_11 kc_X9_91 ?_
    refine ng_callV_1x (y2 := mi_X9_finding) dX9_feed_13 lk_X9_92 ms_X9_finding my_X9_finding (by first | exact ⟨_, rfl⟩ | assumption | exact ng_fld_obj (f := 0) (by assumption)) mc_X9 (by first | decide | exact Nat.le_of_ble_eq_true rfl) (s_X9_finding (k := 1) (by decide) (by decide) (by decide)) (by decide) ?_
    exact ng_ireturn dX9_feed_16 ⟨_, rfl, by rw [if_neg (by rw [h7]; decide)]; exact ⟨by decide, rfl⟩⟩
theorem pr_feed {X : Nat × (Nat → Int32)} {M : ng_M} {w : Int64} {n : Int32} (h : ng_inv M) : ng_pair X mi_X8_feed mi_X9_feed [.long w, .int n] M := by
  obtain ⟨P, hP, hP50⟩ := ng_cnt (k := 8) (u := 50) h.1.2 (by decide) (by decide) (by decide) (by decide)
  have hP50 : P ≤ 50 := by omega
  refine ng_pair.E h (c_feed h.1 hP hP50) (by decide) (d9 := 3) (by decide) (fun M1 e => ?_) (fun x M1 hE hm k hk => hm.2 k (by omega) (by omega)) (fun x M1 M2 hE hm hr => ?_) (mR := fun M1 _ M2 => M2 = ng_row M1 74 (ng_fdT (M 74) P (ng_by w) n.toNatClampNeg))
  · rw [← e 74 (by decide)]
    exact r_feed (by rw [e 74 (by decide)]; exact hP) hP50
  · rw [hr]
    unfold ng_fdE at hE
    split at hE
    · rename_i q
      split at hE
      · rename_i q2
        obtain ⟨N, hN, hN1, hN8⟩ := ng_n8 q
        have hPN := (ng_fd50 hP hN hP50 hN8).mp q2
        have hc : n.toNatClampNeg = N := by rw [hN, nI_clamp (by omega)]
        rw [hc] at hm ⊢
        exact ng_inv_new h hm.1 ((ng_ok_fd h.1.2 (fun i hi => ng_by_bd w hi) N hN8 hPN).upd (by decide) (by rw [nI_toInt (by omega)]; show (0 : Int) ≤ _; omega) (by rw [nI_toInt (by omega)]; show _ ≤ (50 : Int); omega)) (fun k hk => hm.2 k (by omega) (by omega))
      · cases hE
    · cases hE

