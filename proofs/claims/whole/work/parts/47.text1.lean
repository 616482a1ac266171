/-! ===== texts: the class's reader ===== -/
def ng_RD (M : ng_M) (p : Nat) (cs : List Int32) : ng_M := ng_row (ng_row M 60 (upd (upd (M 60) 1 (nI cs.length)) 4 (nI p))) 61 (fun j => if j < cs.length then ng_un (cs.getD j 0) else M 61 j)
theorem ng_RD_4 {M : ng_M} {p : Nat} {cs : List Int32} : ng_RD M p cs 60 4 = nI p := by rw [ng_RD, ng_row_ne (by decide), ng_row_eq, ng_upd_eq]
theorem ng_RD_1 {M : ng_M} {p : Nat} {cs : List Int32} : ng_RD M p cs 60 1 = nI cs.length := by rw [ng_RD, ng_row_ne (by decide), ng_row_eq, ng_upd_ne (by decide), ng_upd_eq]
theorem ng_RD_3 {M : ng_M} {p : Nat} {cs : List Int32} : ng_RD M p cs 60 3 = M 60 3 := by rw [ng_RD, ng_row_ne (by decide), ng_row_eq, ng_upd_ne (by decide), ng_upd_ne (by decide)]
theorem ng_RD_5 {M : ng_M} {p : Nat} {cs : List Int32} : ng_RD M p cs 60 5 = M 60 5 := by rw [ng_RD, ng_row_ne (by decide), ng_row_eq, ng_upd_ne (by decide), ng_upd_ne (by decide)]
theorem ng_RD_o {M : ng_M} {p : Nat} {cs : List Int32} : ng_off [60, 61] M (ng_RD M p cs) := fun k hk => by
  simp at hk
  rw [ng_RD, ng_row_ne (by omega), ng_row_ne (by omega)]
theorem ng_RD_61 {M : ng_M} {p j : Nat} {cs : List Int32} (h : j < cs.length) : ng_RD M p cs 61 j = ng_un (cs.getD j 0) := by rw [ng_RD, ng_row_eq]; dsimp only; rw [if_pos h]
theorem ng_RD_pp {M : ng_M} {p : Nat} {cs : List Int32} : ng_row (ng_RD M p cs) 60 (upd (ng_RD M p cs 60) 4 (ng_RD M p cs 60 4 + 1)) = ng_RD M (p + 1) cs := by
  rw [ng_RD_4, nI_1]
  funext k
  by_cases q : k = 60
  · subst q
    rw [ng_row_eq]
    funext j
    by_cases qj : j = 4
    · subst qj; rw [ng_upd_eq, ng_RD_4]
    · rw [ng_upd_ne qj, ng_RD, ng_RD, ng_row_ne (by decide), ng_row_ne (by decide), ng_row_eq, ng_row_eq, ng_upd_ne qj, ng_upd_ne qj]
  · rw [ng_row_ne q]
    by_cases q1 : k = 61
    · subst q1; rw [ng_RD, ng_RD, ng_row_eq, ng_row_eq]
    · rw [ng_RD_o k (by simp; omega), ng_RD_o k (by simp; omega)]
theorem ng_RD_mk {M : ng_M} {p : Nat} {cs : List Int32} {c : Int32} {M1 : ng_M} (h : M1 = ng_row (ng_RD M p cs) 61 (upd (ng_RD M p cs 61) cs.length (ng_un c))) : ng_row M1 60 (upd (M1 60) 1 (M1 60 1 + 1)) = ng_RD M p (cs ++ [c]) := by
  have e60 : M1 60 = ng_RD M p cs 60 := by rw [h, ng_row_ne (by decide)]
  rw [e60, ng_RD_1, nI_1]
  funext k
  by_cases q : k = 60
  · subst q
    rw [ng_row_eq]
    funext j
    by_cases qj : j = 1
    · subst qj; rw [ng_upd_eq, ng_RD_1]; simp
    · rw [ng_upd_ne qj, ng_RD, ng_RD, ng_row_ne (by decide), ng_row_ne (by decide), ng_row_eq, ng_row_eq]
      by_cases q4 : j = 4
      · subst q4; rw [ng_upd_eq, ng_upd_eq]
      · rw [ng_upd_ne q4, ng_upd_ne q4, ng_upd_ne qj, ng_upd_ne qj]
  · rw [ng_row_ne q, h]
    by_cases q1 : k = 61
    · subst q1
      rw [ng_row_eq]
      funext j
      by_cases qj : j = cs.length
      · subst qj
        rw [ng_upd_eq, ng_RD_61 (by simp)]
        simp
      · rw [ng_upd_ne qj]
        by_cases ql : j < cs.length
        · rw [ng_RD_61 ql, ng_RD_61 (by simp; omega), List.getD_eq_getElem?_getD, List.getD_eq_getElem?_getD, List.getElem?_append_left ql]
        · rw [ng_RD, ng_RD, ng_row_eq, ng_row_eq]
          dsimp only
          rw [if_neg ql, if_neg (by simp; omega)]
    · rw [ng_row_ne q1, ng_RD_o k (by simp; omega), ng_RD_o k (by simp; omega)]
def ng_RC (M : ng_M) (H : Nat → Int32) (L : Nat) (u : Int32) : Prop := ng_hH H L ∧ M 60 3 = nI L ∧ M 60 5 = u ∧ (u = 0 ∨ u = 1) ∧ ∀ p, p < L → M 62 p = H p
theorem s_X2_ahead {X : Nat × (Nat → Int32)} {M : ng_M} {H : Nat → Int32} {L p : Nat} {u : Int32} {cs : List Int32} (hc : ng_RC M H L u) (hp : p ≤ L) : ng_EvX X 1 mi_X2_ahead [.ref 60] (ng_RD M p cs) (some (.int (H p))) (ng_RD M p cs) := by
  have hL := hc.1.1
  refine ng_EvX.ofI (lv := [some (.ref 60)]) (ty := .int) (by decide) (Nat.le_of_ble_eq_true rfl) rfl rfl rfl ?_
  refine ng_aload_0 dX2_ahead_0 ?_
  refine ng_gI dX2_ahead_1 fl_X2_41 (by first | rfl | assumption) ?_
  refine ng_aload_0 dX2_ahead_4 ?_
  refine ng_gI dX2_ahead_5 fl_X2_32 (by first | rfl | assumption) ?_
  rw [ng_RD_4, ng_RD_3, hc.2.1]
  refine ng_icmp_ge 23 dX2_ahead_8 (by decide +kernel) (fun h8 => ?_) (fun h8 => ?_)
  · have hge : L ≤ p := Nat.not_lt.mp (fun q => nI_ge q (by omega) h8)
    refine ng_iconst_m1 dX2_ahead_23 ?_
    exact ng_ireturn dX2_ahead_24 ⟨by first | rw [ng_RD_o 62 (by decide), hc.2.2.2.2 p hlt] | rw [hc.1.2.1 p hge], rfl⟩
  · have hlt : p < L := Nat.not_le.mp (fun q => h8 (nI_le q (by omega)))
    refine ng_aload_0 dX2_ahead_11 ?_
    refine ng_gR dX2_ahead_12 fl_X2_15 (by first | rfl | assumption) ?_
    refine ng_aload_0 dX2_ahead_15 ?_
    refine ng_gI dX2_ahead_16 fl_X2_41 (by first | rfl | assumption) ?_
    rw [ng_RD_4]
    refine ng_ialdL (j := p) dX2_ahead_19 (by first | rfl | assumption) (by exact vp_in_nI (by omega) (by omega)) (by exact nI_clamp (by omega)) ?_
    refine ng_goto 24 dX2_ahead_20 (by decide +kernel) ?_
    exact ng_ireturn dX2_ahead_24 ⟨by first | rw [ng_RD_o 62 (by decide), hc.2.2.2.2 p hlt] | rw [hc.1.2.1 p hge], rfl⟩
theorem s_X2_makes {X : Nat × (Nat → Int32)} {M : ng_M} {p : Nat} {cs : List Int32} {c v : Int32} (hv : v = ng_un c) (hl : cs.length < 50) : ng_EvX X 1 mi_X2_makes [.ref 60, .int v] (ng_RD M p cs) none (ng_RD M p (cs ++ [c])) := by
  subst hv
  refine ng_EvX.ofV (lv := [some (.ref 60), some (.int v)]) (by decide) (Nat.le_of_ble_eq_true rfl) rfl rfl ?_
  refine ng_aload_0 dX2_makes_0 ?_
  refine ng_gI dX2_makes_1 fl_X2_44 (by first | rfl | assumption) ?_
  refine ng_aload_0 dX2_makes_4 ?_
  refine ng_gR dX2_makes_5 fl_X2_9 (by first | rfl | assumption) ?_
  refine ng_alen dX2_makes_8 (by first | rfl | assumption) ?_
  rw [ng_RD_1]
  refine ng_icmp_ge 32 dX2_makes_9 (by decide +kernel) (fun h9 => ?_) (fun h9 => ?_)
  · exact absurd (show nI 50 ≤ nI cs.length from h9) (nI_ge (by omega) (by omega))
  · refine ng_aload_0 dX2_makes_12 ?_
    refine ng_gR dX2_makes_13 fl_X2_9 (by first | rfl | assumption) ?_
    refine ng_aload_0 dX2_makes_16 ?_
    refine ng_gI dX2_makes_17 fl_X2_44 (by first | rfl | assumption) ?_
    rw [ng_RD_1]
    refine ng_iload_1 dX2_makes_20 ?_
    refine ng_iastL (j := cs.length) dX2_makes_21 (by first | rfl | assumption) (by exact vp_in_nI (by omega) (by omega)) (by exact nI_clamp (by omega)) ?_
    refine ng_aload_0 dX2_makes_22 ?_
    refine ng_dup dX2_makes_23 rfl ?_
    refine ng_gI dX2_makes_24 fl_X2_44 (by first | rfl | assumption) ?_
    refine ng_iconst_1 dX2_makes_27 ?_
    refine ng_iadd dX2_makes_28 ?_
    refine ng_pI dX2_makes_29 fp_X2_44 (by first | rfl | assumption) rfl rfl ?_
    exact ng_return dX2_makes_32 ⟨rfl, ng_RD_mk rfl⟩
theorem sw_X2_ruleOf_1 {X : Nat × (Nat → Int32)} {d : Nat} {lv : ng_L} {st : List Value} {M : ng_M} {F : Option Value → ng_M → Prop} {x : Int32} (k0 : x = 37 → ng_Go X mi_X2_ruleOf d 100 lv st M F) (k1 : x = 38 → ng_Go X mi_X2_ruleOf d 94 lv st M F) (k2 : x = 42 → ng_Go X mi_X2_ruleOf d 100 lv st M F) (k3 : x = 43 → ng_Go X mi_X2_ruleOf d 98 lv st M F) (k4 : x = 45 → ng_Go X mi_X2_ruleOf d 98 lv st M F) (k5 : x = 47 → ng_Go X mi_X2_ruleOf d 100 lv st M F) (k6 : x = 60 → ng_Go X mi_X2_ruleOf d 96 lv st M F) (k7 : x = 61 → ng_Go X mi_X2_ruleOf d 96 lv st M F) (k8 : x = 62 → ng_Go X mi_X2_ruleOf d 96 lv st M F) (k9 : x = 124 → ng_Go X mi_X2_ruleOf d 92 lv st M F) (kd : ¬ x = 37 → ¬ x = 38 → ¬ x = 42 → ¬ x = 43 → ¬ x = 45 → ¬ x = 47 → ¬ x = 60 → ¬ x = 61 → ¬ x = 62 → ¬ x = 124 → ng_Go X mi_X2_ruleOf d 102 lv st M F) : ng_Go X mi_X2_ruleOf d 1 lv (.int x :: st) M F := by
  by_cases h0 : x = 37
  · subst h0
    intro l D cA ad A p e R s m args below meth c cells slots Q C fin H locs ls hP hS hl
    exact lv_lookup (tgt := 100) C.1.1 C.1.2.1 dX2_ruleOf_1 (by decide +kernel) rfl (by decide +kernel) (k0 rfl l D cA ad A p e R s m args below meth c cells slots Q C fin H locs ls hP hS hl)
  by_cases h1 : x = 38
  · subst h1
    intro l D cA ad A p e R s m args below meth c cells slots Q C fin H locs ls hP hS hl
    exact lv_lookup (tgt := 94) C.1.1 C.1.2.1 dX2_ruleOf_1 (by decide +kernel) rfl (by decide +kernel) (k1 rfl l D cA ad A p e R s m args below meth c cells slots Q C fin H locs ls hP hS hl)
  by_cases h2 : x = 42
  · subst h2
    intro l D cA ad A p e R s m args below meth c cells slots Q C fin H locs ls hP hS hl
    exact lv_lookup (tgt := 100) C.1.1 C.1.2.1 dX2_ruleOf_1 (by decide +kernel) rfl (by decide +kernel) (k2 rfl l D cA ad A p e R s m args below meth c cells slots Q C fin H locs ls hP hS hl)
  by_cases h3 : x = 43
  · subst h3
    intro l D cA ad A p e R s m args below meth c cells slots Q C fin H locs ls hP hS hl
    exact lv_lookup (tgt := 98) C.1.1 C.1.2.1 dX2_ruleOf_1 (by decide +kernel) rfl (by decide +kernel) (k3 rfl l D cA ad A p e R s m args below meth c cells slots Q C fin H locs ls hP hS hl)
  by_cases h4 : x = 45
  · subst h4
    intro l D cA ad A p e R s m args below meth c cells slots Q C fin H locs ls hP hS hl
    exact lv_lookup (tgt := 98) C.1.1 C.1.2.1 dX2_ruleOf_1 (by decide +kernel) rfl (by decide +kernel) (k4 rfl l D cA ad A p e R s m args below meth c cells slots Q C fin H locs ls hP hS hl)
  by_cases h5 : x = 47
  · subst h5
    intro l D cA ad A p e R s m args below meth c cells slots Q C fin H locs ls hP hS hl
    exact lv_lookup (tgt := 100) C.1.1 C.1.2.1 dX2_ruleOf_1 (by decide +kernel) rfl (by decide +kernel) (k5 rfl l D cA ad A p e R s m args below meth c cells slots Q C fin H locs ls hP hS hl)
  by_cases h6 : x = 60
  · subst h6
    intro l D cA ad A p e R s m args below meth c cells slots Q C fin H locs ls hP hS hl
    exact lv_lookup (tgt := 96) C.1.1 C.1.2.1 dX2_ruleOf_1 (by decide +kernel) rfl (by decide +kernel) (k6 rfl l D cA ad A p e R s m args below meth c cells slots Q C fin H locs ls hP hS hl)
  by_cases h7 : x = 61
  · subst h7
    intro l D cA ad A p e R s m args below meth c cells slots Q C fin H locs ls hP hS hl
    exact lv_lookup (tgt := 96) C.1.1 C.1.2.1 dX2_ruleOf_1 (by decide +kernel) rfl (by decide +kernel) (k7 rfl l D cA ad A p e R s m args below meth c cells slots Q C fin H locs ls hP hS hl)
  by_cases h8 : x = 62
  · subst h8
    intro l D cA ad A p e R s m args below meth c cells slots Q C fin H locs ls hP hS hl
    exact lv_lookup (tgt := 96) C.1.1 C.1.2.1 dX2_ruleOf_1 (by decide +kernel) rfl (by decide +kernel) (k8 rfl l D cA ad A p e R s m args below meth c cells slots Q C fin H locs ls hP hS hl)
  by_cases h9 : x = 124
  · subst h9
    intro l D cA ad A p e R s m args below meth c cells slots Q C fin H locs ls hP hS hl
    exact lv_lookup (tgt := 92) C.1.1 C.1.2.1 dX2_ruleOf_1 (by decide +kernel) rfl (by decide +kernel) (k9 rfl l D cA ad A p e R s m args below meth c cells slots Q C fin H locs ls hP hS hl)
  intro l D cA ad A p e R s m args below meth c cells slots Q C fin H locs ls hP hS hl
  have g0 := lv_neT h0 (show (37 : Int32).toInt = 37 from by decide)
  have g1 := lv_neT h1 (show (38 : Int32).toInt = 38 from by decide)
  have g2 := lv_neT h2 (show (42 : Int32).toInt = 42 from by decide)
  have g3 := lv_neT h3 (show (43 : Int32).toInt = 43 from by decide)
  have g4 := lv_neT h4 (show (45 : Int32).toInt = 45 from by decide)
  have g5 := lv_neT h5 (show (47 : Int32).toInt = 47 from by decide)
  have g6 := lv_neT h6 (show (60 : Int32).toInt = 60 from by decide)
  have g7 := lv_neT h7 (show (61 : Int32).toInt = 61 from by decide)
  have g8 := lv_neT h8 (show (62 : Int32).toInt = 62 from by decide)
  have g9 := lv_neT h9 (show (124 : Int32).toInt = 124 from by decide)
  refine lv_lookup (tgt := 102) (off := 101) C.1.1 C.1.2.1 dX2_ruleOf_1 (by decide +kernel) ?_ (by decide) (kd h0 h1 h2 h3 h4 h5 h6 h7 h8 h9 l D cA ad A p e R s m args below meth c cells slots Q C fin H locs ls hP hS hl)
  show Op.lookupswitch.offset [((37 : Int), (99 : Int)), ((38 : Int), (93 : Int)), ((42 : Int), (99 : Int)), ((43 : Int), (97 : Int)), ((45 : Int), (97 : Int)), ((47 : Int), (99 : Int)), ((60 : Int), (95 : Int)), ((61 : Int), (95 : Int)), ((62 : Int), (95 : Int)), ((124 : Int), (91 : Int))] _ _ = _
  rw [lv_osw h0 (show (37 : Int32).toInt = 37 from by decide), lv_osw h1 (show (38 : Int32).toInt = 38 from by decide), lv_osw h2 (show (42 : Int32).toInt = 42 from by decide), lv_osw h3 (show (43 : Int32).toInt = 43 from by decide), lv_osw h4 (show (45 : Int32).toInt = 45 from by decide), lv_osw h5 (show (47 : Int32).toInt = 47 from by decide), lv_osw h6 (show (60 : Int32).toInt = 60 from by decide), lv_osw h7 (show (61 : Int32).toInt = 61 from by decide), lv_osw h8 (show (62 : Int32).toInt = 62 from by decide), lv_osw h9 (show (124 : Int32).toInt = 124 from by decide)]
  rfl
theorem s_X2_ruleOf {X : Nat × (Nat → Int32)} {M : ng_M} {c : Int32} : ng_EvX X 1 mi_X2_ruleOf [.int c] (M) (some (.int (ng_ro c))) (M) := by
  refine ng_EvX.ofI (lv := [some (.int c)]) (ty := .int) (by decide) (Nat.le_of_ble_eq_true rfl) rfl rfl rfl ?_
  refine ng_iload_0 dX2_ruleOf_0 ?_
  refine sw_X2_ruleOf_1 (fun h1 => ?_) (fun h1 => ?_) (fun h1 => ?_) (fun h1 => ?_) (fun h1 => ?_) (fun h1 => ?_) (fun h1 => ?_) (fun h1 => ?_) (fun h1 => ?_) (fun h1 => ?_) (fun h1n0 h1n1 h1n2 h1n3 h1n4 h1n5 h1n6 h1n7 h1n8 h1n9 => ?_)
  · refine ng_iconst_4 dX2_ruleOf_100 ?_
    exact ng_ireturn dX2_ruleOf_101 ⟨by simp_all [ng_ro], rfl⟩
  · refine ng_iconst_1 dX2_ruleOf_94 ?_
    exact ng_ireturn dX2_ruleOf_95 ⟨by simp_all [ng_ro], rfl⟩
  · refine ng_iconst_4 dX2_ruleOf_100 ?_
    exact ng_ireturn dX2_ruleOf_101 ⟨by simp_all [ng_ro], rfl⟩
  · refine ng_iconst_3 dX2_ruleOf_98 ?_
    exact ng_ireturn dX2_ruleOf_99 ⟨by simp_all [ng_ro], rfl⟩
  · refine ng_iconst_3 dX2_ruleOf_98 ?_
    exact ng_ireturn dX2_ruleOf_99 ⟨by simp_all [ng_ro], rfl⟩
  · refine ng_iconst_4 dX2_ruleOf_100 ?_
    exact ng_ireturn dX2_ruleOf_101 ⟨by simp_all [ng_ro], rfl⟩
  · refine ng_iconst_2 dX2_ruleOf_96 ?_
    exact ng_ireturn dX2_ruleOf_97 ⟨by simp_all [ng_ro], rfl⟩
  · refine ng_iconst_2 dX2_ruleOf_96 ?_
    exact ng_ireturn dX2_ruleOf_97 ⟨by simp_all [ng_ro], rfl⟩
  · refine ng_iconst_2 dX2_ruleOf_96 ?_
    exact ng_ireturn dX2_ruleOf_97 ⟨by simp_all [ng_ro], rfl⟩
  · refine ng_iconst_0 dX2_ruleOf_92 ?_
    exact ng_ireturn dX2_ruleOf_93 ⟨by simp_all [ng_ro], rfl⟩
  · refine ng_iconst_m1 dX2_ruleOf_102 ?_
    exact ng_ireturn dX2_ruleOf_103 ⟨by simp_all [ng_ro], rfl⟩
theorem s_X2_isDigit {X : Nat × (Nat → Int32)} {M : ng_M} {c : Int32} : ng_EvX X 2 mi_X2_isDigit [.int c] (M) (some (.int (ng_bi (ng_dg c)))) (M) := by
  refine ng_EvX.ofI (lv := [some (.int c)]) (ty := .boolean) (by decide) (Nat.le_of_ble_eq_true rfl) rfl rfl (ng_bi_nar _) ?_
  refine ng_iload_0 dX2_isDigit_0 ?_
  refine ng_bipush (v := 48) dX2_isDigit_1 (by decide) ?_
  refine ng_bipush (v := 57) dX2_isDigit_3 (by decide) ?_
  refine ng_callSN_3x (y2 := mi_X8_isWithin) dX2_isDigit_5 (by decide : (RX2, 84, yX8_isWithin, "NinePots") ∈ ng_nm) ms_X8_isWithin my_X8_isWithin (by first | decide | exact Nat.le_of_ble_eq_true rfl) (s_X8_isWithin) (by decide) ?_
  exact ng_ireturn dX2_isDigit_8 ⟨rfl, rfl⟩
def ng_nms (u c : Int32) : Nat → Nat → Int32
  | 0, _ => -1
  | m + 1, i => if ([119, 110, 108, 104, 115, 107, 110, 117] : List Int32).getD (4 * u.toNatClampNeg + i) 0 = c then nI i else ng_nms u c m (i + 1)
theorem ng_nms_e {u c : Int32} (hu : u = 0 ∨ u = 1) : ng_nms u c 4 0 = ng_nmi u c := by
  rcases hu with rfl | rfl
  · show (if (119 : Int32) = c then nI 0 else if (110 : Int32) = c then nI 1 else if (108 : Int32) = c then nI 2 else if (104 : Int32) = c then nI 3 else -1) = _
    unfold ng_nmi
    simp only [eq_comm (b := c)]
    rfl
  · show (if (115 : Int32) = c then nI 0 else if (107 : Int32) = c then nI 1 else if (110 : Int32) = c then nI 2 else if (117 : Int32) = c then nI 3 else -1) = _
    unfold ng_nmi
    simp only [eq_comm (b := c)]
    rfl
theorem l_X2_nameOf {X : Nat × (Nat → Int32)} {M : ng_M} {u c : Int32} (hu : u = 0 ∨ u = 1) (h5 : M 60 5 = u) : ∀ (m i : Nat) (x3 : Option Value), i + m = 4 → ng_Go X mi_X2_nameOf 2 2 [some (.ref 60), some (.int c), some (.int (nI i)), x3] [] M (fun r' M' => r' = some (.int (ng_nms u c m i)) ∧ M' = M) := by
  intro m
  induction m with
  | zero =>
    intro i x3 hi
    have hi2 : i = 4 := by omega
    subst hi2
    refine ng_iload_2 dX2_nameOf_2 ?_
    refine ng_iconst_4 dX2_nameOf_3 ?_
    refine ng_icmp_ge 47 dX2_nameOf_4 (by decide +kernel) (fun h4 => ?_) (fun h4 => ?_)
    · refine ng_iconst_m1 dX2_nameOf_47 ?_
      exact ng_ireturn dX2_nameOf_48 ⟨rfl, rfl⟩
    · exact absurd (show (4 : Int32) ≤ nI 4 by decide) h4
  | succ m ih =>
    intro i x3 hi
    have hcu : 4 * u.toNatClampNeg + i < 8 := by
      rcases hu with rfl | rfl
      · show 4 * 0 + i < 8
        omega
      · show 4 * 1 + i < 8
        omega
    have hat : 4 * u + nI i = nI (4 * u.toNatClampNeg + i) := by
      rcases hu with rfl | rfl
      · rw [← nI_add]; rfl
      · rw [← nI_add]; rfl
    have hin : ng_in (nI (4 * u.toNatClampNeg + i)) 0 (Int32.ofNat 8 - 1) = true := by
      rw [ng_inT, ng_0, nI_toInt (by omega), show (Int32.ofNat 8 - 1).toInt = 7 by decide]
      omega
    refine ng_iload_2 dX2_nameOf_2 ?_
    refine ng_iconst_4 dX2_nameOf_3 ?_
    refine ng_icmp_ge 47 dX2_nameOf_4 (by decide +kernel) (fun h4 => ?_) (fun h4 => ?_)
    · exact absurd (show nI 4 ≤ nI i from h4) (nI_ge (by omega) (by omega))
    · refine ng_iconst_4 dX2_nameOf_7 ?_
      refine ng_aload_0 dX2_nameOf_8 ?_
      refine ng_gI dX2_nameOf_9 fl_X2_18 (by first | rfl | assumption) ?_
      refine ng_imul dX2_nameOf_12 ?_
      refine ng_iload_2 dX2_nameOf_13 ?_
      refine ng_iadd dX2_nameOf_14 ?_
      rw [h5, hat]
      refine ng_istore_3 dX2_nameOf_15 (by first | rfl | assumption) ?_
      refine ng_iload_3 dX2_nameOf_16 ?_
      refine ng_iconst_0 dX2_nameOf_17 ?_
      refine ng_gets (v := .ref 1003) dX2_nameOf_18 (by decide) fs_X2_88 ?_
      refine ng_klen (k := 3) dX2_nameOf_21 rfl ?_
      refine ng_iconst_1 dX2_nameOf_22 ?_
      refine ng_isub dX2_nameOf_23 ?_
      refine ng_callSN_3x (y2 := mi_X8_isWithin) dX2_nameOf_24 (by decide : (RX2, 84, yX8_isWithin, "NinePots") ∈ ng_nm) ms_X8_isWithin my_X8_isWithin (by first | decide | exact Nat.le_of_ble_eq_true rfl) (s_X8_isWithin) (by decide) ?_
      refine ng_ifb_eq 41 dX2_nameOf_27 (by decide +kernel) (fun h27 => ?_) (fun h27 => ?_)
      · exact absurd h27 (by rw [hin]; decide)
      · refine ng_gets (v := .ref 1003) dX2_nameOf_30 (by decide) fs_X2_88 ?_
        refine ng_iload_3 dX2_nameOf_33 ?_
        refine ng_kldc (k := 3) dX2_nameOf_34 rfl (by exact vp_in_nI hcu (by omega)) ?_
        rw [nI_clamp (by omega)]
        refine ng_iload_1 dX2_nameOf_35 ?_
        refine ng_icmp_ne 41 dX2_nameOf_36 (by decide +kernel) (fun h36 => ?_) (fun h36 => ?_)
        · refine ng_iinc_2 (w := 1) dX2_nameOf_41 (by decide) rfl ?_
          refine ng_goto 2 dX2_nameOf_44 (by decide +kernel) ?_
          rw [nI_1, ng_nms, if_neg h36]
          exact ih (i + 1) _ (by omega)
        · refine ng_iload_2 dX2_nameOf_39 ?_
          exact ng_ireturn dX2_nameOf_40 ⟨by rw [ng_nms, if_pos h36], rfl⟩
theorem s_X2_nameOf {X : Nat × (Nat → Int32)} {M : ng_M} {u c : Int32} (hu : u = 0 ∨ u = 1) (h5 : M 60 5 = u) : ng_EvX X 2 mi_X2_nameOf [.ref 60, .int c] (M) (some (.int (ng_nmi u c))) (M) := by
  refine ng_EvX.ofI (lv := [some (.ref 60), some (.int c), none, none]) (ty := .int) (by decide) (Nat.le_of_ble_eq_true rfl) rfl rfl rfl ?_
  refine ng_iconst_0 dX2_nameOf_0 ?_
  refine ng_istore_2 dX2_nameOf_1 (by first | rfl | assumption) ?_
  rw [← ng_nms_e hu]
  exact l_X2_nameOf hu h5 4 0 _ (by omega)
theorem l_X2_readsNumber {X : Nat × (Nat → Int32)} {M : ng_M} {H : Nat → Int32} {L : Nat} {u : Int32} {cs : List Int32} {F : Option Value → ng_M → Prop} (hc : ng_RC M H L u) : ∀ (n k p : Nat) (v : Int32), k + n = 4 → p ≤ L →
    (∀ x2 : Option Value, ng_Go X mi_X2_readsNumber 3 48 [some (.ref 60), some (.int (ng_nu H n p v).2), x2] [] (ng_RD M (ng_nu H n p v).1 cs) F) →
    ng_Go X mi_X2_readsNumber 3 4 [some (.ref 60), some (.int v), some (.int (nI k))] [] (ng_RD M p cs) F := by
  intro n
  induction n with
  | zero =>
    intro k p v hk hp kk
    have hk2 : k = 4 := by omega
    subst hk2
    refine ng_iload_2 dX2_readsNumber_4 ?_
    refine ng_iconst_4 dX2_readsNumber_5 ?_
    refine ng_icmp_ge 48 dX2_readsNumber_6 (by decide +kernel) (fun h6 => ?_) (fun h6 => ?_)
    · exact kk _
    · exact absurd (show (4 : Int32) ≤ nI 4 by decide) h6
  | succ n ih =>
    intro k p v hk hp kk
    refine ng_iload_2 dX2_readsNumber_4 ?_
    refine ng_iconst_4 dX2_readsNumber_5 ?_
    refine ng_icmp_ge 48 dX2_readsNumber_6 (by decide +kernel) (fun h6 => ?_) (fun h6 => ?_)
    · exact absurd (show nI 4 ≤ nI k from h6) (nI_ge (by omega) (by omega))
    · refine ng_aload_0 dX2_readsNumber_9 ?_
      refine ng_callV_0x (y2 := mi_X2_ahead) dX2_readsNumber_10 lk_X2_55 ms_X2_ahead my_X2_ahead (by first | exact ⟨_, rfl⟩ | assumption | exact ng_fld_obj (f := 0) (by assumption)) mc_X2 (by first | decide | exact Nat.le_of_ble_eq_true rfl) (s_X2_ahead hc hp) (by decide) ?_
      refine ng_callS_1x (y2 := mi_X2_isDigit) dX2_readsNumber_13 lk_X2_69 ms_X2_isDigit my_X2_isDigit (by first | decide | exact Nat.le_of_ble_eq_true rfl) (s_X2_isDigit) (by decide) ?_
      refine ng_ifb_eq 48 dX2_readsNumber_16 (by decide +kernel) (fun h16 => ?_) (fun h16 => ?_)
      · rw [ng_nu, if_neg (by rw [h16]; decide)] at kk
        exact kk _
      · refine ng_bipush (v := 10) dX2_readsNumber_19 (by decide) ?_
        refine ng_iload_1 dX2_readsNumber_21 ?_
        refine ng_imul dX2_readsNumber_22 ?_
        refine ng_aload_0 dX2_readsNumber_23 ?_
        refine ng_callV_0x (y2 := mi_X2_ahead) dX2_readsNumber_24 lk_X2_55 ms_X2_ahead my_X2_ahead (by first | exact ⟨_, rfl⟩ | assumption | exact ng_fld_obj (f := 0) (by assumption)) mc_X2 (by first | decide | exact Nat.le_of_ble_eq_true rfl) (s_X2_ahead hc hp) (by decide) ?_
        refine ng_iadd dX2_readsNumber_27 ?_
        refine ng_bipush (v := 48) dX2_readsNumber_28 (by decide) ?_
        refine ng_isub dX2_readsNumber_30 ?_
        refine ng_istore_1 dX2_readsNumber_31 (by first | rfl | assumption) ?_
        refine ng_aload_0 dX2_readsNumber_32 ?_
        refine ng_dup dX2_readsNumber_33 rfl ?_
        refine ng_gI dX2_readsNumber_34 fl_X2_41 (by first | rfl | assumption) ?_
        refine ng_iconst_1 dX2_readsNumber_37 ?_
        refine ng_iadd dX2_readsNumber_38 ?_
        refine ng_pI dX2_readsNumber_39 fp_X2_41 (by first | rfl | assumption) rfl rfl ?_
        rw [ng_RD_pp]
        refine ng_iinc_2 (w := 1) dX2_readsNumber_42 (by decide) rfl ?_
        refine ng_goto 4 dX2_readsNumber_45 (by decide +kernel) ?_
        rw [nI_1]
        rw [ng_nu, if_pos h16] at kk
        exact ih (k + 1) (p + 1) _ (by omega) (by have := (ng_dg_lt hc.1 h16).1; omega) kk
theorem ng_un_lo {v : Int32} (h1 : v.toInt ≤ 9999) : v = ng_un v := by
  have e1 : (10000 : Int32).toInt = 10000 := by decide
  rw [ng_un, if_pos (by rw [ng_lt, e1]; omega)]
theorem s_X2_readsNumber {X : Nat × (Nat → Int32)} {M : ng_M} {H : Nat → Int32} {L p : Nat} {u : Int32} {cs : List Int32} (hc : ng_RC M H L u) (hl : cs.length ≤ p) (hd : ng_dg (H p) = true) : ng_EvX X 3 mi_X2_readsNumber [.ref 60] (ng_RD M p cs) none (ng_RD M (ng_nu H 4 p 0).1 (cs ++ [(ng_nu H 4 p 0).2])) := by
  have hL := hc.1.1
  obtain ⟨n1, n2, n3, n4⟩ := ng_nu_1 hc.1 hd
  refine ng_EvX.ofV (lv := [some (.ref 60), none, none]) (by decide) (Nat.le_of_ble_eq_true rfl) rfl rfl ?_
  refine ng_iconst_0 dX2_readsNumber_0 ?_
  refine ng_istore_1 dX2_readsNumber_1 (by first | rfl | assumption) ?_
  refine ng_iconst_0 dX2_readsNumber_2 ?_
  refine ng_istore_2 dX2_readsNumber_3 (by first | rfl | assumption) ?_
  refine l_X2_readsNumber hc 4 0 p 0 (by omega) (by omega) (fun x2 => ?_)
  refine ng_aload_0 dX2_readsNumber_48 ?_
  refine ng_iload_1 dX2_readsNumber_49 ?_
  refine ng_callV_1v (y2 := mi_X2_makes) dX2_readsNumber_50 lk_X2_65 ms_X2_makes my_X2_makes (by first | exact ⟨_, rfl⟩ | assumption | exact ng_fld_obj (f := 0) (by assumption)) mc_X2 (by first | decide | exact Nat.le_of_ble_eq_true rfl) (s_X2_makes (c := (ng_nu H 4 p 0).2) (ng_un_lo n4) (by omega)) (by decide) ?_
  exact ng_return dX2_readsNumber_53 ⟨rfl, rfl⟩
def ng_CR (X : Nat × (Nat → Int32)) (M : ng_M) (L d : Nat) (r o : Int32) (f : Nat → ng_Rs) : Prop := ∀ (p : Nat) (cs : List Int32), p ≤ L → cs.length ≤ p → ng_EvX X d mi_X2_readsRule [.ref 60, .int r, .int o] (ng_RD M p cs) (some (.int (ng_bi (f p).1))) (ng_RD M (f p).2.1 (cs ++ (f p).2.2))
def ng_CQ (X : Nat × (Nat → Int32)) (M : ng_M) (L d : Nat) (o : Int32) (f : Nat → ng_Rs) : Prop := ∀ (p : Nat) (cs : List Int32), p ≤ L → cs.length ≤ p → ng_EvX X d mi_X2_readsQ [.ref 60, .int o] (ng_RD M p cs) (some (.int (ng_bi (f p).1))) (ng_RD M (f p).2.1 (cs ++ (f p).2.2))
theorem l_X2_rule {X : Nat × (Nat → Int32)} {M : ng_M} {H : Nat → Int32} {L d R : Nat} {u o : Int32} {f : Nat → ng_Rs} {cs0 : List Int32} (hc : ng_RC M H L u) (hg : ng_gd L f) (hd : 1 ≤ d) (hR : R < 5) (hs : ng_CR X M L d (nI (R + 1)) o f) : ∀ (n j q : Nat) (cs : List Int32) (x4 : Option Value), (¬ R = 2 ∧ j + n = 50 ∨ R = 2 ∧ j + n = 1) → q ≤ L → (cs0 ++ cs).length ≤ q →
    ng_Go X mi_X2_readsRule (d + 1) 26 [some (.ref 60), some (.int (nI R)), some (.int o), some (.int (nI j)), x4] [] (ng_RD M q (cs0 ++ cs)) (fun r' M' => r' = some (.int (ng_bi (ng_jl H (nI R) f n q cs).1)) ∧ M' = ng_RD M (ng_jl H (nI R) f n q cs).2.1 (cs0 ++ (ng_jl H (nI R) f n q cs).2.2)) := by
  have hL := hc.1.1
  intro n
  induction n with
  | zero =>
    intro j q cs x4 hj hq hl
    refine ng_iload_3 dX2_readsRule_26 ?_
    refine ng_bipush (v := 50) dX2_readsRule_27 (by decide) ?_
    refine ng_icmp_ge 98 dX2_readsRule_29 (by decide +kernel) (fun h29 => ?_) (fun h29 => ?_)
    · refine ng_iconst_1 dX2_readsRule_98 ?_
      exact ng_ireturn dX2_readsRule_99 ⟨rfl, rfl⟩
    · have hq2 : R = 2 ∧ j = 1 := by
        rcases hj with z | z
        · exact absurd (show nI 50 ≤ nI j by rw [show j = 50 by omega]; exact Int32.le_refl _) h29
        · exact ⟨z.1, by omega⟩
      refine ng_aload_0 dX2_readsRule_32 ?_
      refine ng_callV_0x (y2 := mi_X2_ahead) dX2_readsRule_33 lk_X2_55 ms_X2_ahead my_X2_ahead (by first | exact ⟨_, rfl⟩ | assumption | exact ng_fld_obj (f := 0) (by assumption)) mc_X2 (by first | decide | exact Nat.le_of_ble_eq_true rfl) (s_X2_ahead hc hq) hd ?_
      refine ng_istore_4 dX2_readsRule_36 (by first | rfl | assumption) ?_
      refine ng_iload_4 dX2_readsRule_38 ?_
      refine ng_callS_1x (y2 := mi_X2_ruleOf) dX2_readsRule_40 lk_X2_59 ms_X2_ruleOf my_X2_ruleOf (by first | decide | exact Nat.le_of_ble_eq_true rfl) (s_X2_ruleOf) hd ?_
      refine ng_iload_1 dX2_readsRule_43 ?_
      refine ng_icmp_ne 57 dX2_readsRule_44 (by decide +kernel) (fun h44 => ?_) (fun h44 => ?_)
      · refine ng_iconst_1 dX2_readsRule_57 ?_
        exact ng_ireturn dX2_readsRule_58 ⟨rfl, rfl⟩
      · refine ng_iload_1 dX2_readsRule_47 ?_
        refine ng_iconst_2 dX2_readsRule_48 ?_
        refine ng_icmp_ne 59 dX2_readsRule_49 (by decide +kernel) (fun h49 => ?_) (fun h49 => ?_)
        · exact absurd (by rw [hq2.1]; rfl) h49
        · refine ng_iload_3 dX2_readsRule_52 ?_
          refine ng_iconst_1 dX2_readsRule_53 ?_
          refine ng_icmp_ne 59 dX2_readsRule_54 (by decide +kernel) (fun h54 => ?_) (fun h54 => ?_)
          · exact absurd (by rw [hq2.2]; rfl) h54
          · refine ng_iconst_1 dX2_readsRule_57 ?_
            exact ng_ireturn dX2_readsRule_58 ⟨rfl, rfl⟩
  | succ n ih =>
    intro j q cs x4 hj hq hl
    have hR0 : (0 : Int32) ≤ nI R := nI_pos' (by omega)
    have hj50 : j < 50 := by omega
    refine ng_iload_3 dX2_readsRule_26 ?_
    refine ng_bipush (v := 50) dX2_readsRule_27 (by decide) ?_
    refine ng_icmp_ge 98 dX2_readsRule_29 (by decide +kernel) (fun h29 => ?_) (fun h29 => ?_)
    · exact absurd (show nI 50 ≤ nI j from h29) (nI_ge (by omega) (by omega))
    · refine ng_aload_0 dX2_readsRule_32 ?_
      refine ng_callV_0x (y2 := mi_X2_ahead) dX2_readsRule_33 lk_X2_55 ms_X2_ahead my_X2_ahead (by first | exact ⟨_, rfl⟩ | assumption | exact ng_fld_obj (f := 0) (by assumption)) mc_X2 (by first | decide | exact Nat.le_of_ble_eq_true rfl) (s_X2_ahead hc hq) hd ?_
      refine ng_istore_4 dX2_readsRule_36 (by first | rfl | assumption) ?_
      refine ng_iload_4 dX2_readsRule_38 ?_
      refine ng_callS_1x (y2 := mi_X2_ruleOf) dX2_readsRule_40 lk_X2_59 ms_X2_ruleOf my_X2_ruleOf (by first | decide | exact Nat.le_of_ble_eq_true rfl) (s_X2_ruleOf) hd ?_
      refine ng_iload_1 dX2_readsRule_43 ?_
      refine ng_icmp_ne 57 dX2_readsRule_44 (by decide +kernel) (fun h44 => ?_) (fun h44 => ?_)
      · refine ng_iconst_1 dX2_readsRule_57 ?_
        exact ng_ireturn dX2_readsRule_58 ⟨by rw [ng_jl_no h44]; rfl, by rw [ng_jl_no h44]⟩
      · refine ng_iload_1 dX2_readsRule_47 ?_
        refine ng_iconst_2 dX2_readsRule_48 ?_
        refine ng_icmp_ne 59 dX2_readsRule_49 (by decide +kernel) (fun h49 => ?_) (fun h49 => ?_)
        · obtain ⟨o1, o2, o3, o4, o5⟩ := ng_ro_oc (c := H q) (by rw [h44]; exact hR0)
          have hlt := hc.1.lt o5
          obtain ⟨g1, g2, g3, g4⟩ := hg (q + 1) (by omega)
          refine ng_aload_0 dX2_readsRule_59 ?_
          refine ng_dup dX2_readsRule_60 rfl ?_
          refine ng_gI dX2_readsRule_61 fl_X2_41 (by first | rfl | assumption) ?_
          refine ng_iconst_1 dX2_readsRule_64 ?_
          refine ng_iadd dX2_readsRule_65 ?_
          refine ng_pI dX2_readsRule_66 fp_X2_41 (by first | rfl | assumption) rfl rfl ?_
          rw [ng_RD_pp]
          refine ng_aload_0 dX2_readsRule_69 ?_
          refine ng_iload_1 dX2_readsRule_70 ?_
          refine ng_iconst_1 dX2_readsRule_71 ?_
          refine ng_iadd dX2_readsRule_72 ?_
          rw [nI_1]
          refine ng_iload_2 dX2_readsRule_73 ?_
          refine ng_callV_2x (y2 := mi_X2_readsRule) dX2_readsRule_74 lk_X2_47 ms_X2_readsRule my_X2_readsRule (by first | exact ⟨_, rfl⟩ | assumption | exact ng_fld_obj (f := 0) (by assumption)) mc_X2 (by first | decide | exact Nat.le_of_ble_eq_true rfl) (hs (q + 1) (cs0 ++ cs) (by omega) (by omega)) (by omega) ?_
          refine ng_ifb_ne 82 dX2_readsRule_77 (by decide +kernel) (fun h77 => ?_) (fun h77 => ?_)
          · refine ng_aload_0 dX2_readsRule_82 ?_
            refine ng_sipush (v := 10000) dX2_readsRule_83 (by decide) ?_
            refine ng_iload_4 dX2_readsRule_86 ?_
            refine ng_iadd dX2_readsRule_88 ?_
            refine ng_callV_1v (y2 := mi_X2_makes) dX2_readsRule_89 lk_X2_65 ms_X2_makes my_X2_makes (by first | exact ⟨_, rfl⟩ | assumption | exact ng_fld_obj (f := 0) (by assumption)) mc_X2 (by first | decide | exact Nat.le_of_ble_eq_true rfl) (s_X2_makes (c := ng_oc (H q)) o2.symm (by simp at hl ⊢; omega)) hd ?_
            refine ng_iinc_3 (w := 1) dX2_readsRule_92 (by decide) rfl ?_
            refine ng_goto 26 dX2_readsRule_95 (by decide +kernel) ?_
            rw [nI_1, ng_jl_ok h44 h77, List.append_assoc, List.append_assoc, ← List.append_assoc cs]
            exact ih (j + 1) _ _ _ (by omega) g2 (by simp at hl ⊢; omega)
          · refine ng_iconst_0 dX2_readsRule_80 ?_
            exact ng_ireturn dX2_readsRule_81 ⟨by rw [ng_jl_bad h44 h77]; rfl, by rw [ng_jl_bad h44 h77, List.append_assoc]⟩
        · refine ng_iload_3 dX2_readsRule_52 ?_
          refine ng_iconst_1 dX2_readsRule_53 ?_
          refine ng_icmp_ne 59 dX2_readsRule_54 (by decide +kernel) (fun h54 => ?_) (fun h54 => ?_)
          · obtain ⟨o1, o2, o3, o4, o5⟩ := ng_ro_oc (c := H q) (by rw [h44]; exact hR0)
            have hlt := hc.1.lt o5
            obtain ⟨g1, g2, g3, g4⟩ := hg (q + 1) (by omega)
            refine ng_aload_0 dX2_readsRule_59 ?_
            refine ng_dup dX2_readsRule_60 rfl ?_
            refine ng_gI dX2_readsRule_61 fl_X2_41 (by first | rfl | assumption) ?_
            refine ng_iconst_1 dX2_readsRule_64 ?_
            refine ng_iadd dX2_readsRule_65 ?_
            refine ng_pI dX2_readsRule_66 fp_X2_41 (by first | rfl | assumption) rfl rfl ?_
            rw [ng_RD_pp]
            refine ng_aload_0 dX2_readsRule_69 ?_
            refine ng_iload_1 dX2_readsRule_70 ?_
            refine ng_iconst_1 dX2_readsRule_71 ?_
            refine ng_iadd dX2_readsRule_72 ?_
            rw [nI_1]
            refine ng_iload_2 dX2_readsRule_73 ?_
            refine ng_callV_2x (y2 := mi_X2_readsRule) dX2_readsRule_74 lk_X2_47 ms_X2_readsRule my_X2_readsRule (by first | exact ⟨_, rfl⟩ | assumption | exact ng_fld_obj (f := 0) (by assumption)) mc_X2 (by first | decide | exact Nat.le_of_ble_eq_true rfl) (hs (q + 1) (cs0 ++ cs) (by omega) (by omega)) (by omega) ?_
            refine ng_ifb_ne 82 dX2_readsRule_77 (by decide +kernel) (fun h77 => ?_) (fun h77 => ?_)
            · refine ng_aload_0 dX2_readsRule_82 ?_
              refine ng_sipush (v := 10000) dX2_readsRule_83 (by decide) ?_
              refine ng_iload_4 dX2_readsRule_86 ?_
              refine ng_iadd dX2_readsRule_88 ?_
              refine ng_callV_1v (y2 := mi_X2_makes) dX2_readsRule_89 lk_X2_65 ms_X2_makes my_X2_makes (by first | exact ⟨_, rfl⟩ | assumption | exact ng_fld_obj (f := 0) (by assumption)) mc_X2 (by first | decide | exact Nat.le_of_ble_eq_true rfl) (s_X2_makes (c := ng_oc (H q)) o2.symm (by simp at hl ⊢; omega)) hd ?_
              refine ng_iinc_3 (w := 1) dX2_readsRule_92 (by decide) rfl ?_
              refine ng_goto 26 dX2_readsRule_95 (by decide +kernel) ?_
              rw [nI_1, ng_jl_ok h44 h77, List.append_assoc, List.append_assoc, ← List.append_assoc cs]
              exact ih (j + 1) _ _ _ (by omega) g2 (by simp at hl ⊢; omega)
            · refine ng_iconst_0 dX2_readsRule_80 ?_
              exact ng_ireturn dX2_readsRule_81 ⟨by rw [ng_jl_bad h44 h77]; rfl, by rw [ng_jl_bad h44 h77, List.append_assoc]⟩
          · have hR2 : R = 2 := (nI_eq (a := R) (b := 2) (by omega) (by omega)).mp h49
            have hj0 : j = 0 := by omega
            subst hj0
            exact absurd h54 (by decide)
theorem s_X2_rule {X : Nat × (Nat → Int32)} {M : ng_M} {H : Nat → Int32} {L d R lim : Nat} {u o : Int32} {f : Nat → ng_Rs} (hc : ng_RC M H L u) (hg : ng_gd L f) (hd : 1 ≤ d) (hR : R < 5) (hlim : ¬ R = 2 ∧ lim = 50 ∨ R = 2 ∧ lim = 1) (hs : ng_CR X M L d (nI (R + 1)) o f) : ng_CR X M L (d + 1) (nI R) o (ng_jn H (nI R) lim f) := by
  intro p cs hp hl
  obtain ⟨g1, g2, g3, g4⟩ := hg p hp
  refine ng_EvX.ofI (lv := [some (.ref 60), some (.int (nI R)), some (.int o), none, none]) (ty := .boolean) (by decide) (Nat.le_of_ble_eq_true rfl) rfl rfl (ng_bi_nar _) ?_
  refine ng_iload_1 dX2_readsRule_0 ?_
  refine ng_iconst_5 dX2_readsRule_1 ?_
  refine ng_icmp_lt 11 dX2_readsRule_2 (by decide +kernel) (fun h2 => ?_) (fun h2 => ?_)
  · refine ng_aload_0 dX2_readsRule_11 ?_
    refine ng_iload_1 dX2_readsRule_12 ?_
    refine ng_iconst_1 dX2_readsRule_13 ?_
    refine ng_iadd dX2_readsRule_14 ?_
    rw [nI_1]
    refine ng_iload_2 dX2_readsRule_15 ?_
    refine ng_callV_2x (y2 := mi_X2_readsRule) dX2_readsRule_16 lk_X2_47 ms_X2_readsRule my_X2_readsRule (by first | exact ⟨_, rfl⟩ | assumption | exact ng_fld_obj (f := 0) (by assumption)) mc_X2 (by first | decide | exact Nat.le_of_ble_eq_true rfl) (hs p cs hp hl) (by omega) ?_
    refine ng_ifb_ne 24 dX2_readsRule_19 (by decide +kernel) (fun h19 => ?_) (fun h19 => ?_)
    · refine ng_iconst_0 dX2_readsRule_24 ?_
      refine ng_istore_3 dX2_readsRule_25 (by first | rfl | assumption) ?_
      rw [ng_jn, if_pos h19]
      exact l_X2_rule hc hg hd hR hs lim 0 _ _ _ (by omega) g2 (by simp; omega)
    · refine ng_iconst_0 dX2_readsRule_22 ?_
      exact ng_ireturn dX2_readsRule_23 ⟨by rw [ng_jn, if_neg (by rw [h19]; decide), h19]; rfl, by rw [ng_jn, if_neg (by rw [h19]; decide)]⟩
  · exact absurd (show nI R < nI 5 from nI_lt hR (by omega)) h2
theorem s_X2_rule5 {X : Nat × (Nat → Int32)} {M : ng_M} {L d : Nat} {o : Int32} {f : Nat → ng_Rs} (hs : ng_CQ X M L d o f) : ng_CR X M L (d + 1) (nI 5) o f := by
  intro p cs hp hl
  refine ng_EvX.ofI (lv := [some (.ref 60), some (.int (nI 5)), some (.int o), none, none]) (ty := .boolean) (by decide) (Nat.le_of_ble_eq_true rfl) rfl rfl (ng_bi_nar _) ?_
  refine ng_iload_1 dX2_readsRule_0 ?_
  refine ng_iconst_5 dX2_readsRule_1 ?_
  refine ng_icmp_lt 11 dX2_readsRule_2 (by decide +kernel) (fun h2 => ?_) (fun h2 => ?_)
  · exact absurd h2 (by decide)
  · refine ng_aload_0 dX2_readsRule_5 ?_
    refine ng_iload_2 dX2_readsRule_6 ?_
    refine ng_callV_1x (y2 := mi_X2_readsQ) dX2_readsRule_7 lk_X2_51 ms_X2_readsQ my_X2_readsQ (by first | exact ⟨_, rfl⟩ | assumption | exact ng_fld_obj (f := 0) (by assumption)) mc_X2 (by first | decide | exact Nat.le_of_ble_eq_true rfl) (hs p cs hp hl) (by omega) ?_
    exact ng_ireturn dX2_readsRule_10 ⟨rfl, rfl⟩
theorem s_X2_tt {X : Nat × (Nat → Int32)} {M : ng_M} {H : Nat → Int32} {L d : Nat} {u o : Int32} {f : Nat → ng_Rs} (hc : ng_RC M H L u) (hg : ng_gd L f) (hs : ng_CQ X M L d o f) : ng_CR X M L (d + 6) 0 o (ng_tt H f) := by
  have c5 := s_X2_rule5 hs
  have g4 := ng_gd.jn (lim := 50) (r := nI 4) hc.1 (by decide) hg
  have c4 := s_X2_rule (R := 4) (lim := 50) hc hg (by omega) (by decide) (by decide) c5
  have g3 := ng_gd.jn (lim := 50) (r := nI 3) hc.1 (by decide) g4
  have c3 := s_X2_rule (R := 3) (lim := 50) hc g4 (by omega) (by decide) (by decide) c4
  have g2 := ng_gd.jn (lim := 1) (r := nI 2) hc.1 (by decide) g3
  have c2 := s_X2_rule (R := 2) (lim := 1) hc g3 (by omega) (by decide) (by decide) c3
  have g1 := ng_gd.jn (lim := 50) (r := nI 1) hc.1 (by decide) g2
  have c1 := s_X2_rule (R := 1) (lim := 50) hc g2 (by omega) (by decide) (by decide) c2
  exact s_X2_rule (R := 0) (lim := 50) hc g1 (by omega) (by decide) (by decide) c1
theorem s_X2_not {X : Nat × (Nat → Int32)} {M : ng_M} {H : Nat → Int32} {L d p : Nat} {u o : Int32} {f : Nat → ng_Rs} {cs : List Int32} (hc : ng_RC M H L u) (hg : ng_gd L f) (hd : 1 ≤ d) (hs : ng_CQ X M L d o f) (hp : p < L) (hl : cs.length ≤ p) : ng_EvX X (d + 1) mi_X2_readsNot [.ref 60, .int o] (ng_RD M p cs) (some (.int (ng_bi (ng_nt f (p + 1)).1))) (ng_RD M (ng_nt f (p + 1)).2.1 (cs ++ (ng_nt f (p + 1)).2.2)) := by
  have hL := hc.1.1
  obtain ⟨g1, g2, g3, g4⟩ := hg (p + 1) (by omega)
  refine ng_EvX.ofI (lv := [some (.ref 60), some (.int o)]) (ty := .boolean) (by decide) (Nat.le_of_ble_eq_true rfl) rfl rfl (ng_bi_nar _) ?_
  refine ng_aload_0 dX2_readsNot_0 ?_
  refine ng_dup dX2_readsNot_1 rfl ?_
  refine ng_gI dX2_readsNot_2 fl_X2_41 (by first | rfl | assumption) ?_
  refine ng_iconst_1 dX2_readsNot_5 ?_
  refine ng_iadd dX2_readsNot_6 ?_
  refine ng_pI dX2_readsNot_7 fp_X2_41 (by first | rfl | assumption) rfl rfl ?_
  rw [ng_RD_pp]
  refine ng_aload_0 dX2_readsNot_10 ?_
  refine ng_iload_1 dX2_readsNot_11 ?_
  refine ng_callV_1x (y2 := mi_X2_readsQ) dX2_readsNot_12 lk_X2_51 ms_X2_readsQ my_X2_readsQ (by first | exact ⟨_, rfl⟩ | assumption | exact ng_fld_obj (f := 0) (by assumption)) mc_X2 (by first | decide | exact Nat.le_of_ble_eq_true rfl) (hs (p + 1) cs (by omega) (by omega)) (by omega) ?_
  refine ng_ifb_ne 20 dX2_readsNot_15 (by decide +kernel) (fun h15 => ?_) (fun h15 => ?_)
  · refine ng_aload_0 dX2_readsNot_20 ?_
    refine ng_sipush (v := 10033) dX2_readsNot_21 (by decide) ?_
    refine ng_callV_1v (y2 := mi_X2_makes) dX2_readsNot_24 lk_X2_65 ms_X2_makes my_X2_makes (by first | exact ⟨_, rfl⟩ | assumption | exact ng_fld_obj (f := 0) (by assumption)) mc_X2 (by first | decide | exact Nat.le_of_ble_eq_true rfl) (s_X2_makes (c := 20010) (by decide) (by simp; omega)) hd ?_
    refine ng_iconst_1 dX2_readsNot_27 ?_
    exact ng_ireturn dX2_readsNot_28 ⟨by simp [ng_nt, h15]; rfl, by simp [ng_nt, h15]⟩
  · refine ng_iconst_0 dX2_readsNot_18 ?_
    exact ng_ireturn dX2_readsNot_19 ⟨by simp [ng_nt, h15]; rfl, by simp [ng_nt, h15]⟩
theorem s_X2_ins {X : Nat × (Nat → Int32)} {M : ng_M} {H : Nat → Int32} {L d p : Nat} {u o : Int32} {f : Nat → ng_Rs} {cs : List Int32} (hc : ng_RC M H L u) (hg : ng_gd L f) (hd : 1 ≤ d) (hs : ng_CR X M L d 0 o f) (hp : p < L) (hl : cs.length ≤ p) : ng_EvX X (d + 1) mi_X2_readsInside [.ref 60, .int o] (ng_RD M p cs) (some (.int (ng_bi (ng_is H f (p + 1)).1))) (ng_RD M (ng_is H f (p + 1)).2.1 (cs ++ (ng_is H f (p + 1)).2.2)) := by
  have hL := hc.1.1
  obtain ⟨g1, g2, g3, g4⟩ := hg (p + 1) (by omega)
  refine ng_EvX.ofI (lv := [some (.ref 60), some (.int o)]) (ty := .boolean) (by decide) (Nat.le_of_ble_eq_true rfl) rfl rfl (ng_bi_nar _) ?_
  refine ng_aload_0 dX2_readsInside_0 ?_
  refine ng_dup dX2_readsInside_1 rfl ?_
  refine ng_gI dX2_readsInside_2 fl_X2_41 (by first | rfl | assumption) ?_
  refine ng_iconst_1 dX2_readsInside_5 ?_
  refine ng_iadd dX2_readsInside_6 ?_
  refine ng_pI dX2_readsInside_7 fp_X2_41 (by first | rfl | assumption) rfl rfl ?_
  rw [ng_RD_pp]
  refine ng_aload_0 dX2_readsInside_10 ?_
  refine ng_iconst_0 dX2_readsInside_11 ?_
  refine ng_iload_1 dX2_readsInside_12 ?_
  refine ng_callV_2x (y2 := mi_X2_readsRule) dX2_readsInside_13 lk_X2_47 ms_X2_readsRule my_X2_readsRule (by first | exact ⟨_, rfl⟩ | assumption | exact ng_fld_obj (f := 0) (by assumption)) mc_X2 (by first | decide | exact Nat.le_of_ble_eq_true rfl) (hs (p + 1) cs (by omega) (by omega)) (by omega) ?_
  refine ng_ifb_eq 28 dX2_readsInside_16 (by decide +kernel) (fun h16 => ?_) (fun h16 => ?_)
  · refine ng_iconst_0 dX2_readsInside_28 ?_
    exact ng_ireturn dX2_readsInside_29 ⟨by first | (rw [ng_is, if_neg (by simp [h16])]; rfl) | (rw [ng_is, if_neg (by simp [h25])]; rfl), by first | rw [ng_is, if_neg (by simp [h16])] | rw [ng_is, if_neg (by simp [h25])]⟩
  · refine ng_aload_0 dX2_readsInside_19 ?_
    refine ng_callV_0x (y2 := mi_X2_ahead) dX2_readsInside_20 lk_X2_55 ms_X2_ahead my_X2_ahead (by first | exact ⟨_, rfl⟩ | assumption | exact ng_fld_obj (f := 0) (by assumption)) mc_X2 (by first | decide | exact Nat.le_of_ble_eq_true rfl) (s_X2_ahead hc g2) hd ?_
    refine ng_bipush (v := 41) dX2_readsInside_23 (by decide) ?_
    refine ng_icmp_eq 30 dX2_readsInside_25 (by decide +kernel) (fun h25 => ?_) (fun h25 => ?_)
    · refine ng_aload_0 dX2_readsInside_30 ?_
      refine ng_dup dX2_readsInside_31 rfl ?_
      refine ng_gI dX2_readsInside_32 fl_X2_41 (by first | rfl | assumption) ?_
      refine ng_iconst_1 dX2_readsInside_35 ?_
      refine ng_iadd dX2_readsInside_36 ?_
      refine ng_pI dX2_readsInside_37 fp_X2_41 (by first | rfl | assumption) rfl rfl ?_
      rw [ng_RD_pp]
      refine ng_iconst_1 dX2_readsInside_40 ?_
      exact ng_ireturn dX2_readsInside_41 ⟨by rw [ng_is, if_pos ⟨h16, h25⟩]; rfl, by rw [ng_is, if_pos ⟨h16, h25⟩]⟩
    · refine ng_iconst_0 dX2_readsInside_28 ?_
      exact ng_ireturn dX2_readsInside_29 ⟨by first | (rw [ng_is, if_neg (by simp [h16])]; rfl) | (rw [ng_is, if_neg (by simp [h25])]; rfl), by first | rw [ng_is, if_neg (by simp [h16])] | rw [ng_is, if_neg (by simp [h25])]⟩
theorem s_X2_Q0 {X : Nat × (Nat → Int32)} {M : ng_M} {H : Nat → Int32} {L : Nat} {u : Int32} (hc : ng_RC M H L u) : ng_CQ X M L 4 (nI 5) (ng_qq H u 0) := by
  intro p cs hp hl
  have hL := hc.1.1
  refine ng_EvX.ofI (lv := [some (.ref 60), some (.int (nI 5)), none, none]) (ty := .boolean) (by decide) (Nat.le_of_ble_eq_true rfl) rfl rfl (ng_bi_nar _) ?_
  refine ng_aload_0 dX2_readsQ_0 ?_
  refine ng_callV_0x (y2 := mi_X2_ahead) dX2_readsQ_1 lk_X2_55 ms_X2_ahead my_X2_ahead (by first | exact ⟨_, rfl⟩ | assumption | exact ng_fld_obj (f := 0) (by assumption)) mc_X2 (by first | decide | exact Nat.le_of_ble_eq_true rfl) (s_X2_ahead hc hp) (by omega) ?_
  refine ng_istore_2 dX2_readsQ_4 (by first | rfl | assumption) ?_
  refine ng_iload_2 dX2_readsQ_5 ?_
  refine ng_callS_1x (y2 := mi_X2_isDigit) dX2_readsQ_6 lk_X2_69 ms_X2_isDigit my_X2_isDigit (by first | decide | exact Nat.le_of_ble_eq_true rfl) (s_X2_isDigit) (by omega) ?_
  refine ng_ifb_eq 18 dX2_readsQ_9 (by decide +kernel) (fun h9 => ?_) (fun h9 => ?_)
  · refine ng_aload_0 dX2_readsQ_18 ?_
    refine ng_iload_2 dX2_readsQ_19 ?_
    refine ng_callV_1x (y2 := mi_X2_nameOf) dX2_readsQ_20 lk_X2_75 ms_X2_nameOf my_X2_nameOf (by first | exact ⟨_, rfl⟩ | assumption | exact ng_fld_obj (f := 0) (by assumption)) mc_X2 (by first | decide | exact Nat.le_of_ble_eq_true rfl) (s_X2_nameOf hc.2.2.2.1 (by rw [ng_RD_5]; exact hc.2.2.1)) (by omega) ?_
    refine ng_istore_3 dX2_readsQ_23 (by first | rfl | assumption) ?_
    refine ng_iload_3 dX2_readsQ_24 ?_
    refine ng_if_lt 47 dX2_readsQ_25 (by decide +kernel) (fun h25 => ?_) (fun h25 => ?_)
    · have h0 : ¬ 0 ≤ ng_nmi u (H p) := Int32.not_le.mpr h25
      refine ng_iload_1 dX2_readsQ_47 ?_
      refine ng_iconst_5 dX2_readsQ_48 ?_
      refine ng_icmp_lt 54 dX2_readsQ_49 (by decide +kernel) (fun h49 => ?_) (fun h49 => ?_)
      · exact absurd h49 (by decide)
      · refine ng_iconst_0 dX2_readsQ_52 ?_
        exact ng_ireturn dX2_readsQ_53 ⟨by rw [QX, ng_q0_o h9 h0]; rfl, by rw [QX, ng_q0_o h9 h0, List.append_nil]⟩
    · have h0 : 0 ≤ ng_nmi u (H p) := Int32.not_lt.mp h25
      obtain ⟨i, hi, ei, hne⟩ := ng_nmi_v h0
      have hpl := hc.1.lt hne
      refine ng_aload_0 dX2_readsQ_28 ?_
      refine ng_dup dX2_readsQ_29 rfl ?_
      refine ng_gI dX2_readsQ_30 fl_X2_41 (by first | rfl | assumption) ?_
      refine ng_iconst_1 dX2_readsQ_33 ?_
      refine ng_iadd dX2_readsQ_34 ?_
      refine ng_pI dX2_readsQ_35 fp_X2_41 (by first | rfl | assumption) rfl rfl ?_
      rw [ng_RD_pp]
      refine ng_aload_0 dX2_readsQ_38 ?_
      refine ng_iconst_m1 dX2_readsQ_39 ?_
      refine ng_iload_3 dX2_readsQ_40 ?_
      refine ng_isub dX2_readsQ_41 ?_
      refine ng_callV_1v (y2 := mi_X2_makes) dX2_readsQ_42 lk_X2_65 ms_X2_makes my_X2_makes (by first | exact ⟨_, rfl⟩ | assumption | exact ng_fld_obj (f := 0) (by assumption)) mc_X2 (by first | decide | exact Nat.le_of_ble_eq_true rfl) (s_X2_makes (c := 10000 + ng_nmi u (H p)) (by rw [ei]; have e : i = 0 ∨ i = 1 ∨ i = 2 ∨ i = 3 := by omega
                                                                        rcases e with rfl | rfl | rfl | rfl <;> decide) (by omega)) (by omega) ?_
      refine ng_iconst_1 dX2_readsQ_45 ?_
      exact ng_ireturn dX2_readsQ_46 ⟨by rw [ng_qq_0, ng_q0_n h9 h0]; rfl, by rw [ng_qq_0, ng_q0_n h9 h0]⟩
  · refine ng_aload_0 dX2_readsQ_12 ?_
    refine ng_callV_0v (y2 := mi_X2_readsNumber) dX2_readsQ_13 lk_X2_72 ms_X2_readsNumber my_X2_readsNumber (by first | exact ⟨_, rfl⟩ | assumption | exact ng_fld_obj (f := 0) (by assumption)) mc_X2 (by first | decide | exact Nat.le_of_ble_eq_true rfl) (s_X2_readsNumber hc hl h9) (by omega) ?_
    refine ng_iconst_1 dX2_readsQ_16 ?_
    exact ng_ireturn dX2_readsQ_17 ⟨by rw [ng_qq_0, ng_q0_d h9]; rfl, by rw [ng_qq_0, ng_q0_d h9]⟩
theorem s_X2_Qs {X : Nat × (Nat → Int32)} {M : ng_M} {H : Nat → Int32} {L d O w : Nat} {u : Int32} (hc : ng_RC M H L u) (hd : 4 ≤ d) (hO : O < 5) (hs : ng_CQ X M L d (nI (O + 1)) (ng_qq H u w)) : ng_CQ X M L (d + 8) (nI O) (ng_qq H u (w + 1)) := by
  intro p cs hp hl
  have hL := hc.1.1
  have hgq := ng_gd.qq (u := u) hc.1 w
  have hgt := ng_gd.tt hc.1 hgq
  have ht := s_X2_tt hc hgq hs
  refine ng_EvX.ofI (lv := [some (.ref 60), some (.int (nI O)), none, none]) (ty := .boolean) (by decide) (Nat.le_of_ble_eq_true rfl) rfl rfl (ng_bi_nar _) ?_
  refine ng_aload_0 dX2_readsQ_0 ?_
  refine ng_callV_0x (y2 := mi_X2_ahead) dX2_readsQ_1 lk_X2_55 ms_X2_ahead my_X2_ahead (by first | exact ⟨_, rfl⟩ | assumption | exact ng_fld_obj (f := 0) (by assumption)) mc_X2 (by first | decide | exact Nat.le_of_ble_eq_true rfl) (s_X2_ahead hc hp) (by omega) ?_
  refine ng_istore_2 dX2_readsQ_4 (by first | rfl | assumption) ?_
  refine ng_iload_2 dX2_readsQ_5 ?_
  refine ng_callS_1x (y2 := mi_X2_isDigit) dX2_readsQ_6 lk_X2_69 ms_X2_isDigit my_X2_isDigit (by first | decide | exact Nat.le_of_ble_eq_true rfl) (s_X2_isDigit) (by omega) ?_
  refine ng_ifb_eq 18 dX2_readsQ_9 (by decide +kernel) (fun h9 => ?_) (fun h9 => ?_)
  · refine ng_aload_0 dX2_readsQ_18 ?_
    refine ng_iload_2 dX2_readsQ_19 ?_
    refine ng_callV_1x (y2 := mi_X2_nameOf) dX2_readsQ_20 lk_X2_75 ms_X2_nameOf my_X2_nameOf (by first | exact ⟨_, rfl⟩ | assumption | exact ng_fld_obj (f := 0) (by assumption)) mc_X2 (by first | decide | exact Nat.le_of_ble_eq_true rfl) (s_X2_nameOf hc.2.2.2.1 (by rw [ng_RD_5]; exact hc.2.2.1)) (by omega) ?_
    refine ng_istore_3 dX2_readsQ_23 (by first | rfl | assumption) ?_
    refine ng_iload_3 dX2_readsQ_24 ?_
    refine ng_if_lt 47 dX2_readsQ_25 (by decide +kernel) (fun h25 => ?_) (fun h25 => ?_)
    · have h0 : ¬ 0 ≤ ng_nmi u (H p) := Int32.not_le.mpr h25
      refine ng_iload_1 dX2_readsQ_47 ?_
      refine ng_iconst_5 dX2_readsQ_48 ?_
      refine ng_icmp_lt 54 dX2_readsQ_49 (by decide +kernel) (fun h49 => ?_) (fun h49 => ?_)
      · refine ng_iload_2 dX2_readsQ_54 ?_
        refine ng_bipush (v := 33) dX2_readsQ_55 (by decide) ?_
        refine ng_icmp_ne 70 dX2_readsQ_57 (by decide +kernel) (fun h57 => ?_) (fun h57 => ?_)
        · refine ng_iload_2 dX2_readsQ_70 ?_
          refine ng_bipush (v := 40) dX2_readsQ_71 (by decide) ?_
          refine ng_icmp_ne 90 dX2_readsQ_73 (by decide +kernel) (fun h73 => ?_) (fun h73 => ?_)
          · refine ng_iconst_0 dX2_readsQ_90 ?_
            exact ng_ireturn dX2_readsQ_91 ⟨by first | (rw [ng_qq_s, ng_q0_o h9 h0, if_pos h57]; done) | (rw [ng_qq_s, ng_q0_o h9 h0, if_pos h57]; rfl) | (rw [ng_qq_s, ng_q0_o h9 h0, if_neg h57, if_pos h73, h83]; rfl) | (rw [ng_qq_s, ng_q0_o h9 h0, if_neg h57, if_neg h73]; rfl), by first | (rw [ng_qq_s, ng_q0_o h9 h0, if_pos h57]; done) | (rw [ng_qq_s, ng_q0_o h9 h0, if_neg h57, if_pos h73]; done) | (rw [ng_qq_s, ng_q0_o h9 h0, if_neg h57, if_neg h73, List.append_nil]; done)⟩
          · have hpl := hc.1.lt (p := p) (by rw [h73]; decide)
            refine ng_aload_0 dX2_readsQ_76 ?_
            refine ng_iload_1 dX2_readsQ_77 ?_
            refine ng_iconst_1 dX2_readsQ_78 ?_
            refine ng_iadd dX2_readsQ_79 ?_
            rw [nI_1]
            refine ng_callV_1x (y2 := mi_X2_readsInside) dX2_readsQ_80 lk_X2_81 ms_X2_readsInside my_X2_readsInside (by first | exact ⟨_, rfl⟩ | assumption | exact ng_fld_obj (f := 0) (by assumption)) mc_X2 (by first | decide | exact Nat.le_of_ble_eq_true rfl) (s_X2_ins hc hgt (by omega) ht hpl hl) (by omega) ?_
            refine ng_ifb_eq 90 dX2_readsQ_83 (by decide +kernel) (fun h83 => ?_) (fun h83 => ?_)
            · refine ng_iconst_0 dX2_readsQ_90 ?_
              exact ng_ireturn dX2_readsQ_91 ⟨by first | (rw [ng_qq_s, ng_q0_o h9 h0, if_pos h57]; done) | (rw [ng_qq_s, ng_q0_o h9 h0, if_pos h57]; rfl) | (rw [ng_qq_s, ng_q0_o h9 h0, if_neg h57, if_pos h73, h83]; rfl) | (rw [ng_qq_s, ng_q0_o h9 h0, if_neg h57, if_neg h73]; rfl), by first | (rw [ng_qq_s, ng_q0_o h9 h0, if_pos h57]; done) | (rw [ng_qq_s, ng_q0_o h9 h0, if_neg h57, if_pos h73]; done) | (rw [ng_qq_s, ng_q0_o h9 h0, if_neg h57, if_neg h73, List.append_nil]; done)⟩
            · refine ng_iconst_1 dX2_readsQ_86 ?_
              refine ng_goto 91 dX2_readsQ_87 (by decide +kernel) ?_
              exact ng_ireturn dX2_readsQ_91 ⟨by first | (rw [ng_qq_s, ng_q0_o h9 h0, if_pos h57]; done) | (rw [ng_qq_s, ng_q0_o h9 h0, if_pos h57]; rfl) | (rw [ng_qq_s, ng_q0_o h9 h0, if_neg h57, if_pos h73, h83]; rfl) | (rw [ng_qq_s, ng_q0_o h9 h0, if_neg h57, if_neg h73]; rfl), by first | (rw [ng_qq_s, ng_q0_o h9 h0, if_pos h57]; done) | (rw [ng_qq_s, ng_q0_o h9 h0, if_neg h57, if_pos h73]; done) | (rw [ng_qq_s, ng_q0_o h9 h0, if_neg h57, if_neg h73, List.append_nil]; done)⟩
        · have hpl := hc.1.lt (p := p) (by rw [h57]; decide)
          refine ng_aload_0 dX2_readsQ_60 ?_
          refine ng_iload_1 dX2_readsQ_61 ?_
          refine ng_iconst_1 dX2_readsQ_62 ?_
          refine ng_iadd dX2_readsQ_63 ?_
          rw [nI_1]
          refine ng_callV_1x (y2 := mi_X2_readsNot) dX2_readsQ_64 lk_X2_78 ms_X2_readsNot my_X2_readsNot (by first | exact ⟨_, rfl⟩ | assumption | exact ng_fld_obj (f := 0) (by assumption)) mc_X2 (by first | decide | exact Nat.le_of_ble_eq_true rfl) (s_X2_not hc hgq (by omega) hs hpl hl) (by omega) ?_
          refine ng_goto 91 dX2_readsQ_67 (by decide +kernel) ?_
          exact ng_ireturn dX2_readsQ_91 ⟨by first | (rw [ng_qq_s, ng_q0_o h9 h0, if_pos h57]; done) | (rw [ng_qq_s, ng_q0_o h9 h0, if_pos h57]; rfl) | (rw [ng_qq_s, ng_q0_o h9 h0, if_neg h57, if_pos h73, h83]; rfl) | (rw [ng_qq_s, ng_q0_o h9 h0, if_neg h57, if_neg h73]; rfl), by first | (rw [ng_qq_s, ng_q0_o h9 h0, if_pos h57]; done) | (rw [ng_qq_s, ng_q0_o h9 h0, if_neg h57, if_pos h73]; done) | (rw [ng_qq_s, ng_q0_o h9 h0, if_neg h57, if_neg h73, List.append_nil]; done)⟩
      · exact absurd (show nI O < nI 5 from nI_lt hO (by omega)) h49
    · have h0 : 0 ≤ ng_nmi u (H p) := Int32.not_lt.mp h25
      obtain ⟨i, hi, ei, hne⟩ := ng_nmi_v h0
      have hpl := hc.1.lt hne
      refine ng_aload_0 dX2_readsQ_28 ?_
      refine ng_dup dX2_readsQ_29 rfl ?_
      refine ng_gI dX2_readsQ_30 fl_X2_41 (by first | rfl | assumption) ?_
      refine ng_iconst_1 dX2_readsQ_33 ?_
      refine ng_iadd dX2_readsQ_34 ?_
      refine ng_pI dX2_readsQ_35 fp_X2_41 (by first | rfl | assumption) rfl rfl ?_
      rw [ng_RD_pp]
      refine ng_aload_0 dX2_readsQ_38 ?_
      refine ng_iconst_m1 dX2_readsQ_39 ?_
      refine ng_iload_3 dX2_readsQ_40 ?_
      refine ng_isub dX2_readsQ_41 ?_
      refine ng_callV_1v (y2 := mi_X2_makes) dX2_readsQ_42 lk_X2_65 ms_X2_makes my_X2_makes (by first | exact ⟨_, rfl⟩ | assumption | exact ng_fld_obj (f := 0) (by assumption)) mc_X2 (by first | decide | exact Nat.le_of_ble_eq_true rfl) (s_X2_makes (c := 10000 + ng_nmi u (H p)) (by rw [ei]; have e : i = 0 ∨ i = 1 ∨ i = 2 ∨ i = 3 := by omega
                                                                        rcases e with rfl | rfl | rfl | rfl <;> decide) (by omega)) (by omega) ?_
      refine ng_iconst_1 dX2_readsQ_45 ?_
      exact ng_ireturn dX2_readsQ_46 ⟨by rw [ng_qq_s, ng_q0_n h9 h0]; rfl, by rw [ng_qq_s, ng_q0_n h9 h0]⟩
  · refine ng_aload_0 dX2_readsQ_12 ?_
    refine ng_callV_0v (y2 := mi_X2_readsNumber) dX2_readsQ_13 lk_X2_72 ms_X2_readsNumber my_X2_readsNumber (by first | exact ⟨_, rfl⟩ | assumption | exact ng_fld_obj (f := 0) (by assumption)) mc_X2 (by first | decide | exact Nat.le_of_ble_eq_true rfl) (s_X2_readsNumber hc hl h9) (by omega) ?_
    refine ng_iconst_1 dX2_readsQ_16 ?_
    exact ng_ireturn dX2_readsQ_17 ⟨by rw [ng_qq_s, ng_q0_d h9]; rfl, by rw [ng_qq_s, ng_q0_d h9]⟩
theorem s_X2_text {X : Nat × (Nat → Int32)} {M : ng_M} {H : Nat → Int32} {L : Nat} {u : Int32} (hc : ng_RC M H L u) : ng_CR X M L 50 0 0 (ng_tt H (ng_qq H u 5)) := by
  have c0 := s_X2_Q0 (X := X) hc
  have c1 := s_X2_Qs (O := 4) hc (by decide) (by decide) c0
  have c2 := s_X2_Qs (O := 3) hc (by decide) (by decide) c1
  have c3 := s_X2_Qs (O := 2) hc (by decide) (by decide) c2
  have c4 := s_X2_Qs (O := 1) hc (by decide) (by decide) c3
  have c5 := s_X2_Qs (O := 0) hc (by decide) (by decide) c4
  exact s_X2_tt hc (ng_gd.qq hc.1 5) c5
