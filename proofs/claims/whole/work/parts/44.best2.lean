/-! ===== the best row of steps: flat and by steps are one ===== -/
def ng_fsr (nv : Bool) : Nat → Bool → ng_R → Nat → Bool × ng_R
  | 0, g, a, _ => (g, a)
  | m + 1, g, a, r => if (g && (!nv || decide (a 2 ≤ nI (r / 10 ^ m % 10)))) = true then ng_fsr nv m true (ng_yr a (nI (r / 10 ^ m % 10)) 0 ng_all) r else ng_fsr nv m false a r
theorem ng_fsr_f {nv : Bool} : ∀ m a r, ng_fsr nv m false a r = (false, a)
  | 0, _, _ => rfl
  | m + 1, a, r => by rw [ng_fsr, if_neg (by rw [Bool.false_and]; decide)]; exact ng_fsr_f m a r
def ng_fo (nv : Bool) (m : Nat) (a : ng_R) (r : Nat) : Option Int32 := if (ng_fsr nv m true a r).1 = true then some (ng_ends (ng_fsr nv m true a r).2) else none
def ng_kpO (acc : Option (Int32 × Nat)) (o : Option Int32) (p : Nat) : Option (Int32 × Nat) := match o with | none => acc | some e => ng_kpA acc e p
theorem ng_fold_cg {f g : Option (Int32 × Nat) → Nat → Option (Int32 × Nat)} : ∀ (l : List Nat) (acc : Option (Int32 × Nat)), (∀ x ∈ l, ∀ acc, f acc x = g acc x) → l.foldl f acc = l.foldl g acc
  | [], _, _ => rfl
  | x :: l, acc, h => by
    rw [List.foldl_cons, List.foldl_cons, h x List.mem_cons_self]
    exact ng_fold_cg l _ (fun y hy => h y (List.mem_cons_of_mem _ hy))
theorem ng_fold_id {f : Option (Int32 × Nat) → Nat → Option (Int32 × Nat)} : ∀ (l : List Nat) (acc : Option (Int32 × Nat)), (∀ x ∈ l, ∀ acc, f acc x = acc) → l.foldl f acc = acc
  | [], _, _ => rfl
  | x :: l, acc, h => by
    rw [List.foldl_cons, h x List.mem_cons_self]
    exact ng_fold_id l _ (fun y hy => h y (List.mem_cons_of_mem _ hy))
theorem ng_fold_blk {f : Option (Int32 × Nat) → Nat → Option (Int32 × Nat)} {A B : Nat} {acc : Option (Int32 × Nat)} : ∀ k, (List.range' A (k * B)).foldl f acc = (List.range k).foldl (fun acc s => (List.range' (A + s * B) B).foldl f acc) acc
  | 0 => by simp
  | k + 1 => by
    have e : List.range' A ((k + 1) * B) = List.range' A (k * B) ++ List.range' (A + k * B) B := by
      have z := List.range'_append (s := A) (m := k * B) (n := B) (step := 1)
      rw [Nat.one_mul] at z
      rw [Nat.succ_mul]
      exact z.symm
    rw [e, List.foldl_append, List.range_succ, List.foldl_append, ng_fold_blk k]
    rfl
theorem ng_fold_lo {F : Option (Int32 × Nat) → Nat → Option (Int32 × Nat)} {l : Nat} {acc : Option (Int32 × Nat)} (hl : l ≤ 10) : (List.range 10).foldl (fun acc s => if l ≤ s then F acc s else acc) acc = (List.range' l (10 - l)).foldl F acc := by
  have e : List.range 10 = List.range' 0 l ++ List.range' l (10 - l) := by
    have z := List.range'_append (s := 0) (m := l) (n := 10 - l) (step := 1)
    rw [Nat.one_mul, Nat.zero_add, show l + (10 - l) = 10 by omega] at z
    rw [List.range_eq_range']
    exact z.symm
  rw [e, List.foldl_append, ng_fold_id (List.range' 0 l) acc (fun x hx acc => by rw [List.mem_range'_1] at hx; rw [if_neg (by omega)])]
  exact ng_fold_cg _ _ (fun x hx acc => by rw [List.mem_range'_1] at hx; rw [if_pos (by omega)])
theorem ng_fo_s {nv : Bool} {m : Nat} {a : ng_R} {r s : Nat} (hs : r / 10 ^ m % 10 = s) (h : (!nv || decide (a 2 ≤ nI s)) = true) : ng_fo nv (m + 1) a r = ng_fo nv m (ng_yr a (nI s) 0 ng_all) r := by
  have e : ng_fsr nv (m + 1) true a r = ng_fsr nv m true (ng_yr a (nI s) 0 ng_all) r := by rw [ng_fsr, hs, if_pos (by rw [h]; rfl)]
  unfold ng_fo
  rw [e]
theorem ng_fo_n {nv : Bool} {m : Nat} {a : ng_R} {r s : Nat} (hs : r / 10 ^ m % 10 = s) (h : ¬ (!nv || decide (a 2 ≤ nI s)) = true) : ng_fo nv (m + 1) a r = none := by
  have e : ng_fsr nv (m + 1) true a r = (false, a) := by rw [ng_fsr, hs, if_neg (by rw [Bool.true_and]; exact h), ng_fsr_f]
  unfold ng_fo
  rw [e]
  rfl
theorem ng_flat {nv : Bool} : ∀ (m : Nat) (a : ng_R) (p : Nat) (acc : Option (Int32 × Nat)), (∃ l, l < 10 ∧ a 2 = nI l) → (List.range' (p * 10 ^ m) (10 ^ m)).foldl (fun acc r => ng_kpO acc (ng_fo nv m a r) r) acc = ng_btr nv m a p acc
  | 0, a, p, acc, _ => by
    rw [Nat.pow_zero, Nat.mul_one, List.range'_one]
    rfl
  | m + 1, a, p, acc, ⟨l, hl, ha⟩ => by
    have hlo : ∀ s, s < 10 → (((!nv || decide (a 2 ≤ nI s)) = true) ↔ ng_loA nv a ≤ s) := by
      intro s hs
      unfold ng_loA
      cases nv with
      | false => simp
      | true => simp; rw [ha, ng_le, nI_toInt (by omega), nI_toInt (by omega), nI_clamp (by omega)]; omega
    have hl10 : ng_loA nv a ≤ 10 := by
      unfold ng_loA
      split
      · rw [ha, nI_clamp (by omega)]; omega
      · omega
    have hpos : 0 < 10 ^ m := Nat.pow_pos (by decide)
    rw [show (10 : Nat) ^ (m + 1) = 10 * 10 ^ m by rw [Nat.pow_succ, Nat.mul_comm], ng_fold_blk 10]
    unfold ng_btr
    rw [← ng_fold_lo hl10]
    refine ng_fold_cg _ _ (fun s hs acc => ?_)
    rw [List.mem_range] at hs
    have eA : p * (10 * 10 ^ m) + s * 10 ^ m = (10 * p + s) * 10 ^ m := by rw [← Nat.mul_assoc, ← Nat.add_mul, Nat.mul_comm p 10]
    have hd : ∀ r ∈ List.range' ((10 * p + s) * 10 ^ m) (10 ^ m), r / 10 ^ m % 10 = s := by
      intro r hr
      rw [List.mem_range'_1] at hr
      obtain ⟨x, hx⟩ : ∃ x, r = x + (10 * p + s) * 10 ^ m := ⟨r - (10 * p + s) * 10 ^ m, by omega⟩
      rw [hx, Nat.add_mul_div_right _ _ hpos, Nat.div_eq_of_lt (by omega)]
      omega
    rw [eA]
    by_cases q : ng_loA nv a ≤ s
    · rw [if_pos q, ← ng_flat m (ng_yr a (nI s) 0 ng_all) (10 * p + s) acc ⟨s, hs, by simp [ng_yr]⟩]
      exact ng_fold_cg _ _ (fun r hr acc => by rw [ng_fo_s (hd r hr) ((hlo s hs).mpr q)])
    · rw [if_neg q]
      exact ng_fold_id _ _ (fun r hr acc => by rw [ng_fo_n (hd r hr) (fun z => q ((hlo s hs).mp z))]; rfl)
theorem ng_flat0 {nv : Bool} {m : Nat} {a : ng_R} (h : ∃ l, l < 10 ∧ a 2 = nI l) : (List.range (10 ^ m)).foldl (fun acc r => ng_kpO acc (ng_fo nv m a r) r) none = ng_btr nv m a 0 none := by
  have z := ng_flat (nv := nv) m a 0 none h
  rw [Nat.zero_mul, ← List.range_eq_range'] at z
  exact z
/-! the class: bestEnds and what calls it -/
theorem ng_l10 {a : ng_R} (h : ng_okY a) : ∃ l, l < 10 ∧ a 2 = nI l := ⟨_, ng_vp_lt h.wfr.1.1.2.1, ng_nat h.wfr.1.1.2.1⟩
theorem ng_bst_some {nv : Bool} {n : Nat} {a : ng_R} (h : ng_okY a) : ng_btr nv n a 0 none = some (ng_bst nv n a) := by
  have z : (ng_btr nv n a 0 none).isSome = true := ng_btr_some n a 0 none (by
    unfold ng_loA
    split
    · exact ng_vp_lt h.wfr.1.1.2.1
    · omega)
  obtain ⟨q, hq⟩ := Option.isSome_iff_exists.mp z
  rw [ng_bst, hq]
  rfl
abbrev ng_JB : List Nat := [9, 10, 13, 14, 39, 44, 45, 46, 47, 48, 49, 50, 51, 52, 53, 54, 55, 56, 57]
theorem ng_keepB {M M' : ng_M} {a : ng_R} (h : ng_off ng_JB M M') (hr : ng_rl M a) (hv : ng_sv M 15 a) : ng_rl M' a ∧ ng_sv M' 15 a := by
  refine ⟨hr.kept (fun k hk => h k (by simp at hk ⊢; omega)) (fun _ _ => rfl), hv.congr (h 15 (by decide)) (h 16 (by decide))⟩
theorem s_X1_bestEnds {X : Nat × (Nat → Int32)} {M : ng_M} {a : ng_R} {kept n : Int32} {N : Nat} {nv : Bool} (hr : ng_rl M a) (hv : ng_sv M 15 a) (hok : ng_okY (upd a 5 kept)) (hn : n = nI N) (h1 : 1 ≤ N) (h3 : N ≤ 3) : ng_EvI X 10 mi_X1_bestEnds [.ref 39, .ref 15, .int kept, .int n, .int (ng_bi nv)] M (fun v M' => v = (ng_bst nv N (upd a 5 kept)).1 ∧ ng_off ng_JB M M' ∧ ∀ i, i < N → M' 57 i = nI (ng_dgt N (ng_bst nv N (upd a 5 kept)).2 i)) := by
  subst hn
  refine ng_EvI.of (lv := [some (.ref 39), some (.ref 15), some (.int kept), some (.int (nI N)), some (.int (ng_bi nv)), none]) (ty := .int) (by decide) (Nat.le_of_ble_eq_true rfl) rfl rfl (fun _ _ _ => rfl) ?_
  have key : ∀ M2 : ng_M, ng_took M 44 15 M2 → ng_EvV X (N + 5) mi_X1_goOn [.ref 39, .int 0, .int (nI N), .int (ng_bi nv)] (ng_row (ng_row M2 44 (upd (M2 44) 6 kept)) 39 (upd (ng_row M2 44 (upd (M2 44) 6 kept) 39) 5 0)) (fun M' => ng_off ng_JB M M' ∧ M' 39 4 = (ng_bst nv N (upd a 5 kept)).1 ∧ ∀ i, i < N → M' 57 i = nI (ng_dgt N (ng_bst nv N (upd a 5 kept)).2 i)) := by
    intro M2 ht
    have e2 : ∀ k, k ∉ [39, 44, 45, 46] → (ng_row (ng_row M2 44 (upd (M2 44) 6 kept)) 39 (upd (ng_row M2 44 (upd (M2 44) 6 kept) 39) 5 0)) k = M k := fun k hk => by
      simp at hk
      rw [ng_row_ne (by omega), ng_row_ne (by omega), ht.1 k (by simp; omega)]
    have hs2 := hv.took ht
    obtain ⟨s1, s2, s3, s4, s5, s6, s7⟩ := hs2
    refine (s_X1_goOn (X := X) (nv := nv) h3 N 0 (upd a 5 kept) 0 none _ (by omega) h1 ?_ ?_ hok (fun i hi => absurd hi (by omega)) ?_).imp (fun M' hg => ?_)
    · exact hr.kept (fun k hk => e2 k (by simp at hk ⊢; omega)) (fun k hk => ng_upd_ne (by omega))
    · refine ⟨fun j hj => ?_, ?_, ?_, ?_, ?_, ?_, ?_⟩
      · rw [ng_upd_ne (by omega), ng_row_ne (by decide), ng_row_ne (by decide)]; exact s1 j hj
      · rw [ng_upd_ne (by decide), ng_row_ne (by decide), ng_row_eq, ng_upd_ne (by decide)]; exact s2
      · rw [ng_upd_ne (by decide), ng_row_ne (by decide), ng_row_eq, ng_upd_ne (by decide)]; exact s3
      · rw [ng_upd_ne (by decide), ng_row_ne (by decide), ng_row_eq, ng_upd_ne (by decide)]; exact s4
      · rw [ng_upd_eq, ng_row_ne (by decide), ng_row_eq, ng_upd_eq]
      · rw [ng_upd_ne (by decide), ng_row_ne (by decide), ng_row_eq, ng_upd_ne (by decide)]; exact s6
      · rw [ng_upd_ne (by decide), ng_row_ne (by decide), ng_row_eq, ng_upd_ne (by decide)]; exact s7
    · show ng_row _ 39 _ 39 5 = 0
      rw [ng_row_eq, ng_upd_eq]
    · obtain ⟨g1, g2, g3⟩ := hg
      rw [ng_bst_some hok] at g2
      refine ⟨fun k hk => ?_, g2.2.1, g2.2.2⟩
      simp at hk
      rw [g1 k (by simp; omega) (by omega), e2 k (by simp; omega)]
  refine ng_aload_0 dX1_bestEnds_0 ?_
  refine ng_gR dX1_bestEnds_1 fl_X1_11 (by first | rfl | assumption) ?_
  refine ng_iconst_0 dX1_bestEnds_4 ?_
  refine ng_aald dX1_bestEnds_5 (by first | rfl | assumption) (by decide) (by unfold vp_in; decide) (by exact (by decide : ([44, 47, 50, 53] : List Nat)[(0 : Int32).toNatClampNeg]? = some 44)) ?_
  refine ng_astore_5 dX1_bestEnds_6 (by first | rfl | assumption) ?_
  refine ng_aload_5 dX1_bestEnds_8 ?_
  refine ng_ifnonnull 15 dX1_bestEnds_10 (by decide +kernel) ?_
  refine ng_aload_5 dX1_bestEnds_15 ?_
  refine ng_aload_1 dX1_bestEnds_17 ?_
  refine ng_callV_1w (y2 := mi_X5_take) dX1_bestEnds_18 lk_X1_31 ms_X5_take my_X5_take (by first | exact ⟨_, rfl⟩ | assumption | exact ng_fld_obj (f := 0) (by assumption)) mc_X5 (by first | decide | exact Nat.le_of_ble_eq_true rfl) (s_X5_take (s := 44) (s2 := 15) (by unfold ng_isT; omega) (by unfold ng_isT; omega) (by omega)) (by decide) (fun M2 ht => ?_)
  refine ng_aload_5 dX1_bestEnds_21 ?_
  refine ng_iload_2 dX1_bestEnds_23 ?_
  refine ng_pI dX1_bestEnds_24 fp_X1_39 (by first | rfl | assumption) rfl rfl ?_
  refine ng_aload_0 dX1_bestEnds_27 ?_
  refine ng_iconst_0 dX1_bestEnds_28 ?_
  refine ng_pI dX1_bestEnds_29 fp_X1_43 (by first | rfl | assumption) rfl rfl ?_
  refine ng_aload_0 dX1_bestEnds_32 ?_
  refine ng_iconst_0 dX1_bestEnds_33 ?_
  refine ng_iload_3 dX1_bestEnds_34 ?_
  refine ng_iload_4 dX1_bestEnds_35 ?_
  refine ng_callV_3w (y2 := mi_X1_goOn) dX1_bestEnds_37 lk_X1_47 ms_X1_goOn my_X1_goOn (by first | exact ⟨_, rfl⟩ | assumption | exact ng_fld_obj (f := 0) (by assumption)) mc_X1 (by first | decide | exact Nat.le_of_ble_eq_true rfl) (key M2 ht) (by omega) (fun M3 hg => ?_)
  refine ng_aload_0 dX1_bestEnds_40 ?_
  refine ng_gI dX1_bestEnds_41 fl_X1_51 (by first | rfl | assumption) ?_
  exact ng_ireturn dX1_bestEnds_44 ⟨_, rfl, hg.2.1, hg.1, hg.2.2⟩
theorem ng_upd_same {a : ng_R} : upd a 5 (a 5) = a := by
  funext k
  by_cases q : k = 5
  · subst q; rw [ng_upd_eq]
  · rw [ng_upd_ne q]
theorem s_X1_bestEndsA {X : Nat × (Nat → Int32)} {M : ng_M} {a : ng_R} {kept n : Int32} {N : Nat} {nv : Bool} (hr : ng_rl M a) (hv : ng_sv M 15 a) (hok : ng_okY a) (hk : kept = a 5) (hn : n = nI N) (h1 : 1 ≤ N) (h3 : N ≤ 3) : ng_EvI X 10 mi_X1_bestEnds [.ref 39, .ref 15, .int kept, .int n, .int (ng_bi nv)] M (fun v M' => v = (ng_bst nv N a).1 ∧ ng_off ng_JB M M' ∧ ∀ i, i < N → M' 57 i = nI (ng_dgt N (ng_bst nv N a).2 i)) := by
  have z := s_X1_bestEnds (X := X) (kept := kept) (nv := nv) hr hv (by rw [hk, ng_upd_same]; exact hok) hn h1 h3
  rw [hk, ng_upd_same] at z
  rw [hk]
  exact z
theorem ng_n3v {n : Int32} (h : ng_in n 1 3 = true) : n = nI n.toNatClampNeg ∧ 1 ≤ n.toNatClampNeg ∧ n.toNatClampNeg ≤ 3 := by
  have q := ng_inT.mp h
  rw [ng_1, show (3 : Int32).toInt = 3 by decide] at q
  have v : vp_in n 4 := ng_vp (by omega) (by omega)
  have e := ng_nat v
  have q2 := nI_toInt (n := n.toNatClampNeg) (by have := ng_vp_lt v; omega)
  rw [← e] at q2
  exact ⟨e, by omega, by omega⟩
theorem ng_i3v {n i : Int32} (hn : ng_in n 1 3 = true) (h : ng_in i (-1) (n - 1) = true) (h0 : 0 ≤ i) : i = nI i.toNatClampNeg ∧ i.toNatClampNeg < n.toNatClampNeg ∧ vp_in i 3 := by
  obtain ⟨e, e1, e3⟩ := ng_n3v hn
  have q := ng_inT.mp h
  obtain ⟨K, hK⟩ : ∃ K, n.toNatClampNeg = K + 1 := ⟨n.toNatClampNeg - 1, by omega⟩
  have en : n - 1 = nI K := by rw [e, hK, nI_pred]
  rw [en, nI_toInt (by omega)] at q
  rw [ng_le, ng_0] at h0
  have v : vp_in i 3 := ng_vp h0 (by omega)
  have ei := ng_nat v
  have q2 := nI_toInt (n := i.toNatClampNeg) (by have := ng_vp_lt v; omega)
  rw [← ei] at q2
  exact ⟨ei, by omega, v⟩
def ng_beE (a : ng_R) (nv : Bool) (n i : Int32) : Nat ⊕ Int32 := if (ng_in n 1 3 && ng_in i (-1) (n - 1)) = true then .inr (if 0 ≤ i then nI (ng_dgt n.toNatClampNeg (ng_bst nv n.toNatClampNeg a).2 i.toNatClampNeg) else (ng_bst nv n.toNatClampNeg a).1) else .inl 1
theorem s_X1_bestStep {X : Nat × (Nat → Int32)} {M : ng_M} {i : Int32} (hv : vp_in i 3) : ng_EvX X 2 mi_X1_bestStep [.ref 39, .int i] (M) (some (.int (M 57 i.toNatClampNeg))) (M) := by
  have hin : ng_in i 0 ((3 : Int32) - 1) = true := by
    have q := ng_vp_I hv
    rw [ng_inT, ng_0, show ((3 : Int32) - 1).toInt = 2 by decide]
    omega
  refine ng_EvX.ofI (lv := [some (.ref 39), some (.int i)]) (ty := .int) (by decide) (Nat.le_of_ble_eq_true rfl) rfl rfl rfl ?_
  refine ng_iload_1 dX1_bestStep_0 ?_
  refine ng_iconst_0 dX1_bestStep_1 ?_
  refine ng_aload_0 dX1_bestStep_2 ?_
  refine ng_gR dX1_bestStep_3 fl_X1_21 (by first | rfl | assumption) ?_
  refine ng_alen dX1_bestStep_6 (by first | rfl | assumption) ?_
  refine ng_iconst_1 dX1_bestStep_7 ?_
  refine ng_isub dX1_bestStep_8 ?_
  refine ng_callSN_3x (y2 := mi_X8_isWithin) dX1_bestStep_9 (by decide : (RX1, 35, yX8_isWithin, "NinePots") ∈ ng_nm) ms_X8_isWithin my_X8_isWithin (by first | decide | exact Nat.le_of_ble_eq_true rfl) (s_X8_isWithin) (by decide) ?_
  refine ng_ifb_eq 24 dX1_bestStep_12 (by decide +kernel) (fun h12 => ?_) (fun h12 => ?_)
  · exact absurd h12 (by rw [show ng_in i 0 (Int32.ofNat 3 - 1) = true from hin]; decide)
  · refine ng_aload_0 dX1_bestStep_15 ?_
    refine ng_gR dX1_bestStep_16 fl_X1_21 (by first | rfl | assumption) ?_
    refine ng_iload_1 dX1_bestStep_19 ?_
    refine ng_iald dX1_bestStep_20 (by first | rfl | assumption) (by exact hv) ?_
    refine ng_goto 25 dX1_bestStep_21 (by decide +kernel) ?_
    exact ng_ireturn dX1_bestStep_25 ⟨rfl, rfl⟩
theorem s_X8_ofBestRow {X : Nat × (Nat → Int32)} {M : ng_M} {n i : Int32} {nv : Bool} (h : ng_I1 M) : ng_EvI X 11 mi_X8_ofBestRow [.ref 0, .int n, .int i, .int (ng_bi nv)] M (fun r M1 => ng_a8 M (ng_beE (M 74) nv n i) r M1) := by
  refine ng_EvI.of (lv := [some (.ref 0), some (.int n), some (.int i), some (.int (ng_bi nv)), none]) (ty := .int) (by decide) (Nat.le_of_ble_eq_true rfl) rfl rfl (fun _ _ _ => rfl) ?_
  have hI := h.1.rl
  unfold ng_beE
  refine ng_iload_1 dX8_ofBestRow_0 ?_
  refine ng_iconst_1 dX8_ofBestRow_1 ?_
  refine ng_iconst_3 dX8_ofBestRow_2 ?_
  refine ng_callS_3x (y2 := mi_X8_isWithin) dX8_ofBestRow_3 lk_X8_61 ms_X8_isWithin my_X8_isWithin (by first | decide | exact Nat.le_of_ble_eq_true rfl) (s_X8_isWithin) (by decide) ?_
  refine ng_ifb_eq 20 dX8_ofBestRow_6 (by decide +kernel) (fun h6 => ?_) (fun h6 => ?_)
  · refine ng_aload_0 dX8_ofBestRow_20 ?_
    refine ng_ldc dX8_ofBestRow_21 kc_X8_65 ?_
    refine ng_callV_1x (y2 := mi_X8_fails) dX8_ofBestRow_23 lk_X8_66 ms_X8_fails my_X8_fails (by first | exact ⟨_, rfl⟩ | assumption | exact ng_fld_obj (f := 0) (by assumption)) mc_X8 (by first | decide | exact Nat.le_of_ble_eq_true rfl) (s_X8_fails (k := 1) (by decide) (by decide) (by decide)) (by decide) ?_
    exact ng_ireturn dX8_ofBestRow_26 ⟨_, rfl, by rw [if_neg (by simp_all)]; exact ⟨M, fun _ _ => rfl, by decide, rfl⟩⟩
  · refine ng_iload_2 dX8_ofBestRow_9 ?_
    refine ng_iconst_m1 dX8_ofBestRow_10 ?_
    refine ng_iload_1 dX8_ofBestRow_11 ?_
    refine ng_iconst_1 dX8_ofBestRow_12 ?_
    refine ng_isub dX8_ofBestRow_13 ?_
    refine ng_callS_3x (y2 := mi_X8_isWithin) dX8_ofBestRow_14 lk_X8_61 ms_X8_isWithin my_X8_isWithin (by first | decide | exact Nat.le_of_ble_eq_true rfl) (s_X8_isWithin) (by decide) ?_
    refine ng_ifb_ne 27 dX8_ofBestRow_17 (by decide +kernel) (fun h17 => ?_) (fun h17 => ?_)
    · obtain ⟨e, e1, e3⟩ := ng_n3v h6
      refine ng_aload_0 dX8_ofBestRow_27 ?_
      refine ng_gR dX8_ofBestRow_28 fl_X8_28 (by first | rfl | assumption) ?_
      refine ng_aload_0 dX8_ofBestRow_31 ?_
      refine ng_gR dX8_ofBestRow_32 fl_X8_12 (by first | rfl | assumption) ?_
      refine ng_gR dX8_ofBestRow_35 fl_X8_81 (by first | rfl | assumption) ?_
      refine ng_aload_0 dX8_ofBestRow_38 ?_
      refine ng_gR dX8_ofBestRow_39 fl_X8_12 (by first | rfl | assumption) ?_
      refine ng_gR dX8_ofBestRow_42 fl_X8_81 (by first | rfl | assumption) ?_
      refine ng_gI dX8_ofBestRow_45 fl_X8_199 (by first | rfl | assumption) ?_
      refine ng_iload_1 dX8_ofBestRow_48 ?_
      refine ng_iload_3 dX8_ofBestRow_49 ?_
      refine ng_callV_4i (y2 := mi_X1_bestEnds) dX8_ofBestRow_50 lk_X8_224 ms_X1_bestEnds my_X1_bestEnds (by first | exact ⟨_, rfl⟩ | assumption | exact ng_fld_obj (f := 0) (by assumption)) mc_X1 (by first | decide | exact Nat.le_of_ble_eq_true rfl) (s_X1_bestEndsA (nv := nv) hI.1 hI.2.1 h.2.Y hI.2.1.2.2.2.2.1 e e1 e3) (by decide) (fun v M2 hf => ?_)
      refine ng_istore_4 dX8_ofBestRow_53 (by first | rfl | assumption) ?_
      refine ng_iload_2 dX8_ofBestRow_55 ?_
      refine ng_if_ge 64 dX8_ofBestRow_56 (by decide +kernel) (fun h56 => ?_) (fun h56 => ?_)
      · obtain ⟨i1, i2, i3⟩ := ng_i3v h6 h17 h56
        have hbs : ng_EvX X 2 mi_X1_bestStep [.ref 39, .int i] M2 (some (.int (M2 57 i.toNatClampNeg))) M2 := s_X1_bestStep i3
        refine ng_aload_0 dX8_ofBestRow_64 ?_
        refine ng_gR dX8_ofBestRow_65 fl_X8_28 (by first | rfl | assumption) ?_
        refine ng_iload_2 dX8_ofBestRow_68 ?_
        refine ng_callV_1x (y2 := mi_X1_bestStep) dX8_ofBestRow_69 lk_X8_228 ms_X1_bestStep my_X1_bestStep (by first | exact ⟨_, rfl⟩ | assumption | exact ng_fld_obj (f := 0) (by assumption)) mc_X1 (by first | decide | exact Nat.le_of_ble_eq_true rfl) (hbs) (by decide) ?_
        exact ng_ireturn dX8_ofBestRow_72 ⟨_, rfl, by
  rw [if_pos (by rw [h6, h17]; rfl)]
  first
  | (rw [if_pos h56]; exact ⟨M2, ng_out.of hf.2.1 (by decide), hf.2.2 _ i2, rfl⟩)
  | (rw [if_neg h56]; exact ⟨M2, ng_out.of hf.2.1 (by decide), hf.1, rfl⟩)⟩
      · refine ng_iload_4 dX8_ofBestRow_59 ?_
        refine ng_goto 72 dX8_ofBestRow_61 (by decide +kernel) ?_
        exact ng_ireturn dX8_ofBestRow_72 ⟨_, rfl, by
  rw [if_pos (by rw [h6, h17]; rfl)]
  first
  | (rw [if_pos h56]; exact ⟨M2, ng_out.of hf.2.1 (by decide), hf.2.2 _ i2, rfl⟩)
  | (rw [if_neg h56]; exact ⟨M2, ng_out.of hf.2.1 (by decide), hf.1, rfl⟩)⟩
    · refine ng_aload_0 dX8_ofBestRow_20 ?_
      refine ng_ldc dX8_ofBestRow_21 kc_X8_65 ?_
      refine ng_callV_1x (y2 := mi_X8_fails) dX8_ofBestRow_23 lk_X8_66 ms_X8_fails my_X8_fails (by first | exact ⟨_, rfl⟩ | assumption | exact ng_fld_obj (f := 0) (by assumption)) mc_X8 (by first | decide | exact Nat.le_of_ble_eq_true rfl) (s_X8_fails (k := 1) (by decide) (by decide) (by decide)) (by decide) ?_
      exact ng_ireturn dX8_ofBestRow_26 ⟨_, rfl, by rw [if_neg (by simp_all)]; exact ⟨M, fun _ _ => rfl, by decide, rfl⟩⟩
theorem c_best {X : Nat × (Nat → Int32)} {M : ng_M} {n i : Int32} (h : ng_I1 M) : ng_EvI X 12 mi_X8_best [.ref 0, .int n, .int i] M (ng_a8 M (ng_beE (M 74) false n i)) := by
  refine ng_EvI.of (lv := [some (.ref 0), some (.int n), some (.int i)]) (ty := .int) (by decide) (Nat.le_of_ble_eq_true rfl) rfl rfl (fun _ _ _ => rfl) ?_
  have z : ng_EvI X 11 mi_X8_ofBestRow [.ref 0, .int n, .int i, .int 0] M (ng_a8 M (ng_beE (M 74) false n i)) := s_X8_ofBestRow (nv := false) h
  refine ng_aload_0 dX8_best_0 ?_
  refine ng_iload_1 dX8_best_1 ?_
  refine ng_iload_2 dX8_best_2 ?_
  refine ng_iconst_0 dX8_best_3 ?_
  refine ng_callV_3i (y2 := mi_X8_ofBestRow) dX8_best_4 lk_X8_220 ms_X8_ofBestRow my_X8_ofBestRow (by first | exact ⟨_, rfl⟩ | assumption | exact ng_fld_obj (f := 0) (by assumption)) mc_X8 (by first | decide | exact Nat.le_of_ble_eq_true rfl) (z) (by decide) (fun v M2 hf => ?_)
  exact ng_ireturn dX8_best_7 ⟨_, rfl, hf⟩
theorem c_never {X : Nat × (Nat → Int32)} {M : ng_M} {n i : Int32} (h : ng_I1 M) : ng_EvI X 12 mi_X8_never [.ref 0, .int n, .int i] M (ng_a8 M (ng_beE (M 74) true n i)) := by
  refine ng_EvI.of (lv := [some (.ref 0), some (.int n), some (.int i)]) (ty := .int) (by decide) (Nat.le_of_ble_eq_true rfl) rfl rfl (fun _ _ _ => rfl) ?_
  have z : ng_EvI X 11 mi_X8_ofBestRow [.ref 0, .int n, .int i, .int 1] M (ng_a8 M (ng_beE (M 74) true n i)) := s_X8_ofBestRow (nv := true) h
  refine ng_aload_0 dX8_never_0 ?_
  refine ng_iload_1 dX8_never_1 ?_
  refine ng_iload_2 dX8_never_2 ?_
  refine ng_iconst_1 dX8_never_3 ?_
  refine ng_callV_3i (y2 := mi_X8_ofBestRow) dX8_never_4 lk_X8_220 ms_X8_ofBestRow my_X8_ofBestRow (by first | exact ⟨_, rfl⟩ | assumption | exact ng_fld_obj (f := 0) (by assumption)) mc_X8 (by first | decide | exact Nat.le_of_ble_eq_true rfl) (z) (by decide) (fun v M2 hf => ?_)
  exact ng_ireturn dX8_never_7 ⟨_, rfl, hf⟩
def ng_coE (a : ng_R) (n : Int32) : Nat ⊕ Int32 := if ng_in n 1 3 = true then .inr ((ng_bst false n.toNatClampNeg a).1 - (ng_bst true n.toNatClampNeg a).1) else .inl 1
theorem c_costs {X : Nat × (Nat → Int32)} {M : ng_M} {n : Int32} (h : ng_I1 M) : ng_EvI X 12 mi_X8_costs [.ref 0, .int n] M (ng_a8 M (ng_coE (M 74) n)) := by
  have hI := h.1.rl
  refine ng_EvI.of (lv := [some (.ref 0), some (.int n), none]) (ty := .int) (by decide) (Nat.le_of_ble_eq_true rfl) rfl rfl (fun _ _ _ => rfl) ?_
  unfold ng_coE
  refine ng_iload_1 dX8_costs_0 ?_
  refine ng_iconst_1 dX8_costs_1 ?_
  refine ng_iconst_3 dX8_costs_2 ?_
  refine ng_callS_3x (y2 := mi_X8_isWithin) dX8_costs_3 lk_X8_61 ms_X8_isWithin my_X8_isWithin (by first | decide | exact Nat.le_of_ble_eq_true rfl) (s_X8_isWithin) (by decide) ?_
  refine ng_ifb_ne 16 dX8_costs_6 (by decide +kernel) (fun h6 => ?_) (fun h6 => ?_)
  · obtain ⟨e, e1, e3⟩ := ng_n3v h6
    refine ng_aload_0 dX8_costs_16 ?_
    refine ng_gR dX8_costs_17 fl_X8_12 (by first | rfl | assumption) ?_
    refine ng_gR dX8_costs_20 fl_X8_81 (by first | rfl | assumption) ?_
    refine ng_gI dX8_costs_23 fl_X8_199 (by first | rfl | assumption) ?_
    refine ng_istore_2 dX8_costs_26 (by first | rfl | assumption) ?_
    refine ng_aload_0 dX8_costs_27 ?_
    refine ng_gR dX8_costs_28 fl_X8_28 (by first | rfl | assumption) ?_
    refine ng_aload_0 dX8_costs_31 ?_
    refine ng_gR dX8_costs_32 fl_X8_12 (by first | rfl | assumption) ?_
    refine ng_gR dX8_costs_35 fl_X8_81 (by first | rfl | assumption) ?_
    refine ng_iload_2 dX8_costs_38 ?_
    refine ng_iload_1 dX8_costs_39 ?_
    refine ng_iconst_0 dX8_costs_40 ?_
    refine ng_callV_4i (y2 := mi_X1_bestEnds) dX8_costs_41 lk_X8_224 ms_X1_bestEnds my_X1_bestEnds (by first | exact ⟨_, rfl⟩ | assumption | exact ng_fld_obj (f := 0) (by assumption)) mc_X1 (by first | decide | exact Nat.le_of_ble_eq_true rfl) (s_X1_bestEndsA (nv := false) hI.1 hI.2.1 h.2.Y hI.2.1.2.2.2.2.1 e e1 e3) (by decide) (fun v M2 hf => ?_)
    refine ng_aload_0 dX8_costs_44 ?_
    refine ng_gR dX8_costs_45 fl_X8_28 (by first | rfl | assumption) ?_
    refine ng_aload_0 dX8_costs_48 ?_
    refine ng_gR dX8_costs_49 fl_X8_12 (by first | rfl | assumption) ?_
    refine ng_gR dX8_costs_52 fl_X8_81 (by first | rfl | assumption) ?_
    refine ng_iload_2 dX8_costs_55 ?_
    refine ng_iload_1 dX8_costs_56 ?_
    refine ng_iconst_1 dX8_costs_57 ?_
    refine ng_callV_4i (y2 := mi_X1_bestEnds) dX8_costs_58 lk_X8_224 ms_X1_bestEnds my_X1_bestEnds (by first | exact ⟨_, rfl⟩ | assumption | exact ng_fld_obj (f := 0) (by assumption)) mc_X1 (by first | decide | exact Nat.le_of_ble_eq_true rfl) (s_X1_bestEndsA (nv := true) (ng_keepB hf.2.1 hI.1 hI.2.1).1 (ng_keepB hf.2.1 hI.1 hI.2.1).2 h.2.Y hI.2.1.2.2.2.2.1 e e1 e3) (by decide) (fun v2 M3 hg => ?_)
    refine ng_isub dX8_costs_61 ?_
    exact ng_ireturn dX8_costs_62 ⟨_, rfl, by rw [if_pos h6]; exact ⟨M3, (ng_out.of hf.2.1 (by decide)).tr (ng_out.of hg.2.1 (by decide)), by rw [hf.1, hg.1], rfl⟩⟩
  · refine ng_aload_0 dX8_costs_9 ?_
    refine ng_ldc dX8_costs_10 kc_X8_65 ?_
    refine ng_callV_1x (y2 := mi_X8_fails) dX8_costs_12 lk_X8_66 ms_X8_fails my_X8_fails (by first | exact ⟨_, rfl⟩ | assumption | exact ng_fld_obj (f := 0) (by assumption)) mc_X8 (by first | decide | exact Nat.le_of_ble_eq_true rfl) (s_X8_fails (k := 1) (by decide) (by decide) (by decide)) (by decide) ?_
    exact ng_ireturn dX8_costs_15 ⟨_, rfl, by rw [if_neg (by rw [h6]; decide)]; exact ⟨M, fun _ _ => rfl, by decide, rfl⟩⟩
def ng_rs (a : ng_R) (N : Nat) : Nat → Nat → Int32
  | 0, _ => -1
  | m + 1, k => if a 2 < nI (ng_dgt N (ng_bst false N (upd a 5 (nI k))).2 0) then nI k else ng_rs a N m (k + 1)
theorem ng_rs_9 {a : ng_R} {N : Nat} (h : 9 ≤ a 2) : ∀ m k, ng_rs a N m k = -1
  | 0, _ => rfl
  | m + 1, k => by
    rw [ng_rs, if_neg, ng_rs_9 h m (k + 1)]
    rw [ng_le, show (9 : Int32).toInt = 9 by decide] at h
    have q : ng_dgt N (ng_bst false N (upd a 5 (nI k))).2 0 < 10 := Nat.mod_lt _ (by decide)
    rw [ng_lt, nI_toInt (by omega)]
    omega
theorem ng_rs_v {a : ng_R} {N : Nat} : ∀ m k, ng_rs a N m k = -1 ∨ ∃ j, j < k + m ∧ ng_rs a N m k = nI j
  | 0, _ => Or.inl rfl
  | m + 1, k => by
    unfold ng_rs
    split
    · exact Or.inr ⟨k, by omega, rfl⟩
    · rcases ng_rs_v m (k + 1) with q | ⟨j, j2, q⟩
      · exact Or.inl q
      · exact Or.inr ⟨j, by omega, q⟩
theorem ng_ok5 {a : ng_R} {k : Nat} (h : ng_okY a) (hk : k ≤ 60) : ng_okY (upd a 5 (nI k)) := h.upd (by decide) (by rw [nI_toInt (by omega)]; show (0 : Int) ≤ _; omega) (by rw [nI_toInt (by omega)]; show _ ≤ (60 : Int); omega)
theorem l_X1_least {X : Nat × (Nat → Int32)} {M0 : ng_M} {a : ng_R} {n : Int32} {N : Nat} (hr : ng_rl M0 a) (hv : ng_sv M0 15 a) (hok : ng_okY a) (hn : n = nI N) (h1 : 1 ≤ N) (h3 : N ≤ 3) : ∀ (m k : Nat) (M : ng_M), k + m = 61 → ng_off ng_JB M0 M →
    ng_Go X mi_X1_leastKeptToRaise 11 13 [some (.ref 39), some (.ref 15), some (.int n), some (.int (nI k))] [] M (fun r' M' => ∃ v, r' = some (.int v) ∧ v = ng_rs a N m k ∧ ng_off ng_JB M0 M') := by
  intro m
  induction m with
  | zero =>
    intro k M hk h
    have hk2 : k = 61 := by omega
    subst hk2
    refine ng_iload_3 dX1_leastKeptToRaise_13 ?_
    refine ng_bipush (v := 60) dX1_leastKeptToRaise_14 (by decide) ?_
    refine ng_icmp_gt 49 dX1_leastKeptToRaise_16 (by decide +kernel) (fun h16 => ?_) (fun h16 => ?_)
    · refine ng_iconst_m1 dX1_leastKeptToRaise_49 ?_
      exact ng_ireturn dX1_leastKeptToRaise_50 ⟨_, rfl, rfl, h⟩
    · exact absurd (show (60 : Int32) < nI 61 by decide) h16
  | succ m ih =>
    intro k M hk h
    obtain ⟨r1, v1⟩ := ng_keepB h hr hv
    have hbe := s_X1_bestEnds (X := X) (nv := false) r1 v1 (ng_ok5 (k := k) hok (by omega)) hn h1 h3
    refine ng_iload_3 dX1_leastKeptToRaise_13 ?_
    refine ng_bipush (v := 60) dX1_leastKeptToRaise_14 (by decide) ?_
    refine ng_icmp_gt 49 dX1_leastKeptToRaise_16 (by decide +kernel) (fun h16 => ?_) (fun h16 => ?_)
    · exact absurd (show nI 60 < nI k from h16) (ng_nI_lt (by omega) (by omega))
    · refine ng_aload_0 dX1_leastKeptToRaise_19 ?_
      refine ng_aload_1 dX1_leastKeptToRaise_20 ?_
      refine ng_iload_3 dX1_leastKeptToRaise_21 ?_
      refine ng_iload_2 dX1_leastKeptToRaise_22 ?_
      refine ng_iconst_0 dX1_leastKeptToRaise_23 ?_
      refine ng_callV_4i (y2 := mi_X1_bestEnds) dX1_leastKeptToRaise_24 lk_X1_81 ms_X1_bestEnds my_X1_bestEnds (by first | exact ⟨_, rfl⟩ | assumption | exact ng_fld_obj (f := 0) (by assumption)) mc_X1 (by first | decide | exact Nat.le_of_ble_eq_true rfl) (hbe) (by decide) (fun v M2 hf => ?_)
      refine ng_pop dX1_leastKeptToRaise_27 rfl ?_
      refine ng_aload_0 dX1_leastKeptToRaise_28 ?_
      refine ng_gR dX1_leastKeptToRaise_29 fl_X1_21 (by first | rfl | assumption) ?_
      refine ng_iconst_0 dX1_leastKeptToRaise_32 ?_
      refine ng_ialdL (j := 0) dX1_leastKeptToRaise_33 (by first | rfl | assumption) (by first | assumption | (unfold vp_in; decide)) (by decide) ?_
      refine ng_aload_1 dX1_leastKeptToRaise_34 ?_
      refine ng_gI dX1_leastKeptToRaise_35 fl_X1_57 (by first | rfl | assumption) ?_
      rw [hf.2.2 0 (by omega), show M2 15 3 = a 2 by rw [hf.2.1 15 (by decide)]; exact v1.2.1]
      refine ng_icmp_le 43 dX1_leastKeptToRaise_38 (by decide +kernel) (fun h38 => ?_) (fun h38 => ?_)
      · refine ng_iinc_3 (w := 1) dX1_leastKeptToRaise_43 (by decide) rfl ?_
        refine ng_goto 13 dX1_leastKeptToRaise_46 (by decide +kernel) ?_
        rw [nI_1, ng_rs, if_neg (Int32.not_lt.mpr h38)]
        exact ih (k + 1) M2 (by omega) (h.tr hf.2.1)
      · refine ng_iload_3 dX1_leastKeptToRaise_41 ?_
        exact ng_ireturn dX1_leastKeptToRaise_42 ⟨_, rfl, by rw [ng_rs, if_pos (Int32.not_le.mp h38)], h.tr hf.2.1⟩
theorem s_X1_least {X : Nat × (Nat → Int32)} {M : ng_M} {a : ng_R} {n : Int32} {N : Nat} (hr : ng_rl M a) (hv : ng_sv M 15 a) (hok : ng_okY a) (hn : n = nI N) (h1 : 1 ≤ N) (h3 : N ≤ 3) : ng_EvI X 11 mi_X1_leastKeptToRaise [.ref 39, .ref 15, .int n] M (fun v M' => v = ng_rs a N 61 0 ∧ ng_off ng_JB M M') := by
  have e3 : M 15 3 = a 2 := hv.2.1
  refine ng_EvI.of (lv := [some (.ref 39), some (.ref 15), some (.int n), none]) (ty := .int) (by decide) (Nat.le_of_ble_eq_true rfl) rfl rfl (fun _ _ _ => rfl) ?_
  refine ng_aload_1 dX1_leastKeptToRaise_0 ?_
  refine ng_gI dX1_leastKeptToRaise_1 fl_X1_57 (by first | rfl | assumption) ?_
  refine ng_bipush (v := 9) dX1_leastKeptToRaise_4 (by decide) ?_
  rw [e3]
  refine ng_icmp_lt 11 dX1_leastKeptToRaise_6 (by decide +kernel) (fun h6 => ?_) (fun h6 => ?_)
  · refine ng_iconst_0 dX1_leastKeptToRaise_11 ?_
    refine ng_istore_3 dX1_leastKeptToRaise_12 (by first | rfl | assumption) ?_
    exact l_X1_least hr hv hok hn h1 h3 61 0 M (by omega) ng_off.rf
  · refine ng_iconst_m1 dX1_leastKeptToRaise_9 ?_
    exact ng_ireturn dX1_leastKeptToRaise_10 ⟨_, rfl, (ng_rs_9 (Int32.not_lt.mp h6) 61 0).symm, ng_off.rf⟩
def ng_raE (a : ng_R) (n : Int32) : Nat ⊕ Int32 := if ng_in n 1 2 = true then (if ng_rs a n.toNatClampNeg 61 0 < 0 then .inl 2 else .inr (ng_rs a n.toNatClampNeg 61 0)) else .inl 1
theorem ng_n2v {n : Int32} (h : ng_in n 1 2 = true) : n = nI n.toNatClampNeg ∧ 1 ≤ n.toNatClampNeg ∧ n.toNatClampNeg ≤ 3 := by
  refine ng_n3v ?_
  have q := ng_inT.mp h
  rw [ng_1, show (2 : Int32).toInt = 2 by decide] at q
  rw [ng_inT, ng_1, show (3 : Int32).toInt = 3 by decide]
  omega
theorem c_raise {X : Nat × (Nat → Int32)} {M : ng_M} {n : Int32} (h : ng_I1 M) : ng_EvI X 13 mi_X8_raise [.ref 0, .int n] M (ng_a8 M (ng_raE (M 74) n)) := by
  have hI := h.1.rl
  refine ng_EvI.of (lv := [some (.ref 0), some (.int n), none]) (ty := .int) (by decide) (Nat.le_of_ble_eq_true rfl) rfl rfl (fun _ _ _ => rfl) ?_
  unfold ng_raE
  refine ng_iload_1 dX8_raise_0 ?_
  refine ng_iconst_1 dX8_raise_1 ?_
  refine ng_iconst_2 dX8_raise_2 ?_
  refine ng_callS_3x (y2 := mi_X8_isWithin) dX8_raise_3 lk_X8_61 ms_X8_isWithin my_X8_isWithin (by first | decide | exact Nat.le_of_ble_eq_true rfl) (s_X8_isWithin) (by decide) ?_
  refine ng_ifb_ne 16 dX8_raise_6 (by decide +kernel) (fun h6 => ?_) (fun h6 => ?_)
  · obtain ⟨e, e1, e3⟩ := ng_n2v h6
    refine ng_aload_0 dX8_raise_16 ?_
    refine ng_gR dX8_raise_17 fl_X8_28 (by first | rfl | assumption) ?_
    refine ng_aload_0 dX8_raise_20 ?_
    refine ng_gR dX8_raise_21 fl_X8_12 (by first | rfl | assumption) ?_
    refine ng_gR dX8_raise_24 fl_X8_81 (by first | rfl | assumption) ?_
    refine ng_iload_1 dX8_raise_27 ?_
    refine ng_callV_2i (y2 := mi_X1_leastKeptToRaise) dX8_raise_28 lk_X8_231 ms_X1_leastKeptToRaise my_X1_leastKeptToRaise (by first | exact ⟨_, rfl⟩ | assumption | exact ng_fld_obj (f := 0) (by assumption)) mc_X1 (by first | decide | exact Nat.le_of_ble_eq_true rfl) (s_X1_least hI.1 hI.2.1 h.2.Y e e1 e3) (by decide) (fun v M2 hf => ?_)
    obtain ⟨hf1, hf2⟩ := hf
    refine ng_istore_2 dX8_raise_31 (by first | rfl | assumption) ?_
    refine ng_iload_2 dX8_raise_32 ?_
    refine ng_if_ge 45 dX8_raise_33 (by decide +kernel) (fun h33 => ?_) (fun h33 => ?_)
    · refine ng_iload_2 dX8_raise_45 ?_
      exact ng_ireturn dX8_raise_46 ⟨_, rfl, by
  rw [if_pos h6, ← hf1]
  first
  | (rw [if_neg (Int32.not_lt.mpr h33)]; exact ⟨M2, ng_out.of hf2 (by decide), rfl, rfl⟩)
  | (rw [if_pos (Int32.not_le.mp h33)]; exact ⟨M2, ng_out.of hf2 (by decide), by decide, rfl⟩)⟩
    · refine ng_aload_0 dX8_raise_36 ?_
      refine ng_ldc dX8_raise_37 kc_X8_130 ?_
      refine ng_callV_1x (y2 := mi_X8_fails) dX8_raise_39 lk_X8_66 ms_X8_fails my_X8_fails (by first | exact ⟨_, rfl⟩ | assumption | exact ng_fld_obj (f := 0) (by assumption)) mc_X8 (by first | decide | exact Nat.le_of_ble_eq_true rfl) (s_X8_fails (k := 2) (by decide) (by decide) (by decide)) (by decide) ?_
      refine ng_goto 46 dX8_raise_42 (by decide +kernel) ?_
      exact ng_ireturn dX8_raise_46 ⟨_, rfl, by
  rw [if_pos h6, ← hf1]
  first
  | (rw [if_neg (Int32.not_lt.mpr h33)]; exact ⟨M2, ng_out.of hf2 (by decide), rfl, rfl⟩)
  | (rw [if_pos (Int32.not_le.mp h33)]; exact ⟨M2, ng_out.of hf2 (by decide), by decide, rfl⟩)⟩
  · refine ng_aload_0 dX8_raise_9 ?_
    refine ng_ldc dX8_raise_10 kc_X8_65 ?_
    refine ng_callV_1x (y2 := mi_X8_fails) dX8_raise_12 lk_X8_66 ms_X8_fails my_X8_fails (by first | exact ⟨_, rfl⟩ | assumption | exact ng_fld_obj (f := 0) (by assumption)) mc_X8 (by first | decide | exact Nat.le_of_ble_eq_true rfl) (s_X8_fails (k := 1) (by decide) (by decide) (by decide)) (by decide) ?_
    exact ng_ireturn dX8_raise_15 ⟨_, rfl, by rw [if_neg (by rw [h6]; decide)]; exact ⟨M, fun _ _ => rfl, by decide, rfl⟩⟩
