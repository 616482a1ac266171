/-! ===== texts: the class's reader ===== -/
def ng_fdr (g : Nat → Int32) (p n : Nat) : Nat → Int32 := fun j => if j = 4 then nI p else if j = 1 then nI n else g j
theorem ng_fdr4 {g : Nat → Int32} {p p' n : Nat} : upd (ng_fdr g p n) 4 (nI p') = ng_fdr g p' n := by
  funext j
  by_cases q : j = 4
  · subst q; rw [ng_upd_eq]; rfl
  · rw [ng_upd_ne q]; simp [ng_fdr, q]
theorem ng_fdr1 {g : Nat → Int32} {p n n' : Nat} : upd (ng_fdr g p n) 1 (nI n') = ng_fdr g p n' := by
  funext j
  by_cases q : j = 1
  · subst q; rw [ng_upd_eq]; rfl
  · rw [ng_upd_ne q]; simp [ng_fdr, q]
def ng_cu (g : Nat → Int32) (cs : List Int32) : Nat → Int32 := fun j => if j < cs.length then ng_un (cs.getD j 0) else g j
theorem ng_cu_app {g : Nat → Int32} {cs : List Int32} {c : Int32} : upd (ng_cu g cs) cs.length (ng_un c) = ng_cu g (cs ++ [c]) := by
  funext j
  by_cases qj : j = cs.length
  · subst qj
    rw [ng_upd_eq]
    simp [ng_cu]
  · rw [ng_upd_ne qj]
    unfold ng_cu
    by_cases ql : j < cs.length
    · rw [if_pos ql, if_pos (by simp; omega), List.getD_eq_getElem?_getD, List.getD_eq_getElem?_getD, List.getElem?_append_left ql]
    · rw [if_neg ql, if_neg (by simp; omega)]
def ng_RD (M : ng_M) (p : Nat) (cs : List Int32) : ng_M := ng_row (ng_row M 60 (ng_fdr (M 60) p cs.length)) 61 (ng_cu (M 61) cs)
theorem ng_RD_60 {M : ng_M} {p : Nat} {cs : List Int32} : ng_RD M p cs 60 = ng_fdr (M 60) p cs.length := by rw [ng_RD, ng_row_ne (by decide), ng_row_eq]
theorem ng_RD_c {M : ng_M} {p : Nat} {cs : List Int32} : ng_RD M p cs 61 = ng_cu (M 61) cs := by rw [ng_RD, ng_row_eq]
theorem ng_RD_4 {M : ng_M} {p : Nat} {cs : List Int32} : ng_RD M p cs 60 4 = nI p := by rw [ng_RD_60]; rfl
theorem ng_RD_1 {M : ng_M} {p : Nat} {cs : List Int32} : ng_RD M p cs 60 1 = nI cs.length := by rw [ng_RD_60]; rfl
theorem ng_RD_3 {M : ng_M} {p : Nat} {cs : List Int32} : ng_RD M p cs 60 3 = M 60 3 := by rw [ng_RD_60]; rfl
theorem ng_RD_5 {M : ng_M} {p : Nat} {cs : List Int32} : ng_RD M p cs 60 5 = M 60 5 := by rw [ng_RD_60]; rfl
theorem ng_RD_o {M : ng_M} {p : Nat} {cs : List Int32} : ng_off [60, 61] M (ng_RD M p cs) := fun k hk => by
  simp at hk
  rw [ng_RD, ng_row_ne (by omega), ng_row_ne (by omega)]
theorem ng_RD_61 {M : ng_M} {p j : Nat} {cs : List Int32} (h : j < cs.length) : ng_RD M p cs 61 j = ng_un (cs.getD j 0) := by rw [ng_RD_c, ng_cu, if_pos h]
theorem ng_RD_row {M : ng_M} {p : Nat} {cs : List Int32} {g : Nat → Int32} : ng_row (ng_RD M p cs) 60 g = ng_row (ng_row M 60 g) 61 (ng_cu (M 61) cs) := by
  funext k
  by_cases q : k = 60
  · subst q; rw [ng_row_eq, ng_row_ne (by decide), ng_row_eq]
  · rw [ng_row_ne q, ng_RD]
    by_cases q2 : k = 61
    · subst q2; rw [ng_row_eq, ng_row_eq]
    · rw [ng_row_ne q2, ng_row_ne q2, ng_row_ne q, ng_row_ne q]
theorem ng_RD_pp {M : ng_M} {p : Nat} {cs : List Int32} : ng_row (ng_RD M p cs) 60 (upd (ng_RD M p cs 60) 4 (ng_RD M p cs 60 4 + 1)) = ng_RD M (p + 1) cs := by
  rw [ng_RD_4, nI_1, ng_RD_row, ng_RD_60, ng_fdr4]; rfl
theorem ng_RD_mk {M : ng_M} {p : Nat} {cs : List Int32} {c : Int32} {M1 : ng_M} (h : M1 = ng_row (ng_RD M p cs) 61 (upd (ng_RD M p cs 61) cs.length (ng_un c))) : ng_row M1 60 (upd (M1 60) 1 (M1 60 1 + 1)) = ng_RD M p (cs ++ [c]) := by
  have e60 : M1 60 = ng_fdr (M 60) p cs.length := by rw [h, ng_row_ne (by decide), ng_RD_60]
  have e1 : M1 60 1 = nI cs.length := by rw [e60]; rfl
  rw [e1, nI_1, e60, ng_fdr1]
  funext k
  by_cases q : k = 60
  · subst q; rw [ng_row_eq, ng_RD_60]; simp
  · rw [ng_row_ne q, h]
    by_cases q2 : k = 61
    · subst q2; rw [ng_row_eq, ng_RD_c, ng_RD_c, ng_cu_app]
    · rw [ng_row_ne q2, ng_RD_o k (by simp; omega), ng_RD_o k (by simp; omega)]
def ng_RC (M : ng_M) (H : Nat → Int32) (L : Nat) (u : Int32) : Prop := ng_hH H L ∧ M 60 3 = nI L ∧ M 60 5 = u ∧ (u = 0 ∨ u = 1) ∧ ∀ p, p < L → M 62 p = H p
theorem s_X2_ahead {X : Nat × (Nat → Int32)} {M : ng_M} {H : Nat → Int32} {L p : Nat} {u : Int32} {cs : List Int32} (hc : ng_RC M H L u) (hp : p ≤ L) : ng_EvX X 1 mi_X2_ahead [.ref 60] (ng_RD M p cs) (some (.int (H p))) (ng_RD M p cs) := by
  have hL := hc.1.1
  refine ng_EvX.ofI (lv := [some (.ref 60)]) (ty := .int) (by decide) (Nat.le_of_ble_eq_true rfl) rfl rfl rfl ?_
  refine ng_aload_0 dX2_ahead_0 ?_
  refine ng_gI dX2_ahead_1 fl_X2_41 (by first | rfl | assumption) ?_
  refine ng_aload_0 dX2_ahead_4 ?_
  refine ng_gI dX2_ahead_5 fl_X2_32 (by first | rfl | assumption) ?_
  rw [ng_RD_4, ng_RD_3, hc.2.1]
  refine ng_icmp_ge 23 dX2_ahead_8 (by decide +kernel) (fun h8 => ?_) (fun h8 => ?_)
  · have hge : L ≤ p := Nat.not_lt.mp (fun q => nI_ge q (by omega) h8)
    refine ng_iconst_m1 dX2_ahead_23 ?_
    exact ng_ireturn dX2_ahead_24 ⟨by first | rw [ng_RD_o 62 (by decide), hc.2.2.2.2 p hlt] | rw [hc.1.2.1 p hge], rfl⟩
  · have hlt : p < L := Nat.not_le.mp (fun q => h8 (nI_le q (by omega)))
    refine ng_aload_0 dX2_ahead_11 ?_
    refine ng_gR dX2_ahead_12 fl_X2_15 (by first | rfl | assumption) ?_
    refine ng_aload_0 dX2_ahead_15 ?_
    refine ng_gI dX2_ahead_16 fl_X2_41 (by first | rfl | assumption) ?_
    rw [ng_RD_4]
    refine ng_ialdL (j := p) dX2_ahead_19 (by first | rfl | assumption) (by exact vp_in_nI (by omega) (by omega)) (by exact nI_clamp (by omega)) ?_
    refine ng_goto 24 dX2_ahead_20 (by decide +kernel) ?_
    exact ng_ireturn dX2_ahead_24 ⟨by first | rw [ng_RD_o 62 (by decide), hc.2.2.2.2 p hlt] | rw [hc.1.2.1 p hge], rfl⟩
theorem s_X2_makes {X : Nat × (Nat → Int32)} {M : ng_M} {p : Nat} {cs : List Int32} {c v : Int32} (hv : v = ng_un c) (hl : cs.length < 50) : ng_EvX X 1 mi_X2_makes [.ref 60, .int v] (ng_RD M p cs) none (ng_RD M p (cs ++ [c])) := by
  refine ng_EvX.ofV (lv := [some (.ref 60), some (.int v)]) (by decide) (Nat.le_of_ble_eq_true rfl) rfl rfl ?_
  refine ng_aload_0 dX2_makes_0 ?_
  refine ng_gI dX2_makes_1 fl_X2_44 (by first | rfl | assumption) ?_
  refine ng_aload_0 dX2_makes_4 ?_
  refine ng_gR dX2_makes_5 fl_X2_9 (by first | rfl | assumption) ?_
  refine ng_alen dX2_makes_8 (by first | rfl | assumption) ?_
  rw [ng_RD_1]
  refine ng_icmp_ge 32 dX2_makes_9 (by decide +kernel) (fun h9 => ?_) (fun h9 => ?_)
  · exact absurd (show nI 50 ≤ nI cs.length from h9) (nI_ge (by omega) (by omega))
  · refine ng_aload_0 dX2_makes_12 ?_
    refine ng_gR dX2_makes_13 fl_X2_9 (by first | rfl | assumption) ?_
    refine ng_aload_0 dX2_makes_16 ?_
    refine ng_gI dX2_makes_17 fl_X2_44 (by first | rfl | assumption) ?_
    rw [ng_RD_1]
    refine ng_iload_1 dX2_makes_20 ?_
    refine ng_iastL (j := cs.length) dX2_makes_21 (by first | rfl | assumption) (by exact vp_in_nI (by omega) (by omega)) (by exact nI_clamp (by omega)) ?_
    refine ng_aload_0 dX2_makes_22 ?_
    refine ng_dup dX2_makes_23 rfl ?_
    refine ng_gI dX2_makes_24 fl_X2_44 (by first | rfl | assumption) ?_
    refine ng_iconst_1 dX2_makes_27 ?_
    refine ng_iadd dX2_makes_28 ?_
    refine ng_pI dX2_makes_29 fp_X2_44 (by first | rfl | assumption) rfl rfl ?_
    exact ng_return dX2_makes_32 ⟨rfl, by rw [hv]; exact ng_RD_mk rfl⟩
theorem sw_X2_ruleOf_1 {X : Nat × (Nat → Int32)} {d : Nat} {lv : ng_L} {st : List Value} {M : ng_M} {F : Option Value → ng_M → Prop} {x : Int32} (k0 : x = 37 → ng_Go X mi_X2_ruleOf d 100 lv st M F) (k1 : x = 38 → ng_Go X mi_X2_ruleOf d 94 lv st M F) (k2 : x = 42 → ng_Go X mi_X2_ruleOf d 100 lv st M F) (k3 : x = 43 → ng_Go X mi_X2_ruleOf d 98 lv st M F) (k4 : x = 45 → ng_Go X mi_X2_ruleOf d 98 lv st M F) (k5 : x = 47 → ng_Go X mi_X2_ruleOf d 100 lv st M F) (k6 : x = 60 → ng_Go X mi_X2_ruleOf d 96 lv st M F) (k7 : x = 61 → ng_Go X mi_X2_ruleOf d 96 lv st M F) (k8 : x = 62 → ng_Go X mi_X2_ruleOf d 96 lv st M F) (k9 : x = 124 → ng_Go X mi_X2_ruleOf d 92 lv st M F) (kd : ¬ x = 37 → ¬ x = 38 → ¬ x = 42 → ¬ x = 43 → ¬ x = 45 → ¬ x = 47 → ¬ x = 60 → ¬ x = 61 → ¬ x = 62 → ¬ x = 124 → ng_Go X mi_X2_ruleOf d 102 lv st M F) : ng_Go X mi_X2_ruleOf d 1 lv (.int x :: st) M F := by
  by_cases h0 : x = 37
  · subst h0
    intro l D cA ad A p e R s m args below meth c cells slots Q C fin H locs ls hP hS hl
    exact lv_lookup (tgt := 100) C.1.1 C.1.2.1 dX2_ruleOf_1 (by decide +kernel) rfl (by decide +kernel) (k0 rfl l D cA ad A p e R s m args below meth c cells slots Q C fin H locs ls hP hS hl)
  by_cases h1 : x = 38
  · subst h1
    intro l D cA ad A p e R s m args below meth c cells slots Q C fin H locs ls hP hS hl
    exact lv_lookup (tgt := 94) C.1.1 C.1.2.1 dX2_ruleOf_1 (by decide +kernel) rfl (by decide +kernel) (k1 rfl l D cA ad A p e R s m args below meth c cells slots Q C fin H locs ls hP hS hl)
  by_cases h2 : x = 42
  · subst h2
    intro l D cA ad A p e R s m args below meth c cells slots Q C fin H locs ls hP hS hl
    exact lv_lookup (tgt := 100) C.1.1 C.1.2.1 dX2_ruleOf_1 (by decide +kernel) rfl (by decide +kernel) (k2 rfl l D cA ad A p e R s m args below meth c cells slots Q C fin H locs ls hP hS hl)
  by_cases h3 : x = 43
  · subst h3
    intro l D cA ad A p e R s m args below meth c cells slots Q C fin H locs ls hP hS hl
    exact lv_lookup (tgt := 98) C.1.1 C.1.2.1 dX2_ruleOf_1 (by decide +kernel) rfl (by decide +kernel) (k3 rfl l D cA ad A p e R s m args below meth c cells slots Q C fin H locs ls hP hS hl)
  by_cases h4 : x = 45
  · subst h4
    intro l D cA ad A p e R s m args below meth c cells slots Q C fin H locs ls hP hS hl
    exact lv_lookup (tgt := 98) C.1.1 C.1.2.1 dX2_ruleOf_1 (by decide +kernel) rfl (by decide +kernel) (k4 rfl l D cA ad A p e R s m args below meth c cells slots Q C fin H locs ls hP hS hl)
  by_cases h5 : x = 47
  · subst h5
    intro l D cA ad A p e R s m args below meth c cells slots Q C fin H locs ls hP hS hl
    exact lv_lookup (tgt := 100) C.1.1 C.1.2.1 dX2_ruleOf_1 (by decide +kernel) rfl (by decide +kernel) (k5 rfl l D cA ad A p e R s m args below meth c cells slots Q C fin H locs ls hP hS hl)
  by_cases h6 : x = 60
  · subst h6
    intro l D cA ad A p e R s m args below meth c cells slots Q C fin H locs ls hP hS hl
    exact lv_lookup (tgt := 96) C.1.1 C.1.2.1 dX2_ruleOf_1 (by decide +kernel) rfl (by decide +kernel) (k6 rfl l D cA ad A p e R s m args below meth c cells slots Q C fin H locs ls hP hS hl)
  by_cases h7 : x = 61
  · subst h7
    intro l D cA ad A p e R s m args below meth c cells slots Q C fin H locs ls hP hS hl
    exact lv_lookup (tgt := 96) C.1.1 C.1.2.1 dX2_ruleOf_1 (by decide +kernel) rfl (by decide +kernel) (k7 rfl l D cA ad A p e R s m args below meth c cells slots Q C fin H locs ls hP hS hl)
  by_cases h8 : x = 62
  · subst h8
    intro l D cA ad A p e R s m args below meth c cells slots Q C fin H locs ls hP hS hl
    exact lv_lookup (tgt := 96) C.1.1 C.1.2.1 dX2_ruleOf_1 (by decide +kernel) rfl (by decide +kernel) (k8 rfl l D cA ad A p e R s m args below meth c cells slots Q C fin H locs ls hP hS hl)
  by_cases h9 : x = 124
  · subst h9
    intro l D cA ad A p e R s m args below meth c cells slots Q C fin H locs ls hP hS hl
    exact lv_lookup (tgt := 92) C.1.1 C.1.2.1 dX2_ruleOf_1 (by decide +kernel) rfl (by decide +kernel) (k9 rfl l D cA ad A p e R s m args below meth c cells slots Q C fin H locs ls hP hS hl)
  intro l D cA ad A p e R s m args below meth c cells slots Q C fin H locs ls hP hS hl
  have g0 := lv_neT h0 (show (37 : Int32).toInt = 37 from by decide)
  have g1 := lv_neT h1 (show (38 : Int32).toInt = 38 from by decide)
  have g2 := lv_neT h2 (show (42 : Int32).toInt = 42 from by decide)
  have g3 := lv_neT h3 (show (43 : Int32).toInt = 43 from by decide)
  have g4 := lv_neT h4 (show (45 : Int32).toInt = 45 from by decide)
  have g5 := lv_neT h5 (show (47 : Int32).toInt = 47 from by decide)
  have g6 := lv_neT h6 (show (60 : Int32).toInt = 60 from by decide)
  have g7 := lv_neT h7 (show (61 : Int32).toInt = 61 from by decide)
  have g8 := lv_neT h8 (show (62 : Int32).toInt = 62 from by decide)
  have g9 := lv_neT h9 (show (124 : Int32).toInt = 124 from by decide)
  refine lv_lookup (tgt := 102) (off := 101) C.1.1 C.1.2.1 dX2_ruleOf_1 (by decide +kernel) ?_ (by decide) (kd h0 h1 h2 h3 h4 h5 h6 h7 h8 h9 l D cA ad A p e R s m args below meth c cells slots Q C fin H locs ls hP hS hl)
  show Op.lookupswitch.offset [((37 : Int), (99 : Int)), ((38 : Int), (93 : Int)), ((42 : Int), (99 : Int)), ((43 : Int), (97 : Int)), ((45 : Int), (97 : Int)), ((47 : Int), (99 : Int)), ((60 : Int), (95 : Int)), ((61 : Int), (95 : Int)), ((62 : Int), (95 : Int)), ((124 : Int), (91 : Int))] _ _ = _
  rw [lv_osw h0 (show (37 : Int32).toInt = 37 from by decide), lv_osw h1 (show (38 : Int32).toInt = 38 from by decide), lv_osw h2 (show (42 : Int32).toInt = 42 from by decide), lv_osw h3 (show (43 : Int32).toInt = 43 from by decide), lv_osw h4 (show (45 : Int32).toInt = 45 from by decide), lv_osw h5 (show (47 : Int32).toInt = 47 from by decide), lv_osw h6 (show (60 : Int32).toInt = 60 from by decide), lv_osw h7 (show (61 : Int32).toInt = 61 from by decide), lv_osw h8 (show (62 : Int32).toInt = 62 from by decide), lv_osw h9 (show (124 : Int32).toInt = 124 from by decide)]
  rfl
theorem s_X2_ruleOf {X : Nat × (Nat → Int32)} {M : ng_M} {c : Int32} : ng_EvX X 1 mi_X2_ruleOf [.int c] (M) (some (.int (ng_ro c))) (M) := by
  refine ng_EvX.ofI (lv := [some (.int c)]) (ty := .int) (by decide) (Nat.le_of_ble_eq_true rfl) rfl rfl rfl ?_
  refine ng_iload_0 dX2_ruleOf_0 ?_
  refine sw_X2_ruleOf_1 (fun h1 => ?_) (fun h1 => ?_) (fun h1 => ?_) (fun h1 => ?_) (fun h1 => ?_) (fun h1 => ?_) (fun h1 => ?_) (fun h1 => ?_) (fun h1 => ?_) (fun h1 => ?_) (fun h1n0 h1n1 h1n2 h1n3 h1n4 h1n5 h1n6 h1n7 h1n8 h1n9 => ?_)
  · refine ng_iconst_4 dX2_ruleOf_100 ?_
    exact ng_ireturn dX2_ruleOf_101 ⟨congrArg (fun x => some (Value.int x)) (by first | (rw [h1]; decide) | (unfold ng_ro; rw [if_neg h1n0, if_neg h1n1, if_neg h1n2, if_neg h1n3, if_neg h1n4, if_neg h1n5, if_neg h1n6, if_neg h1n7, if_neg h1n8, if_neg h1n9])), rfl⟩
  · refine ng_iconst_1 dX2_ruleOf_94 ?_
    exact ng_ireturn dX2_ruleOf_95 ⟨congrArg (fun x => some (Value.int x)) (by first | (rw [h1]; decide) | (unfold ng_ro; rw [if_neg h1n0, if_neg h1n1, if_neg h1n2, if_neg h1n3, if_neg h1n4, if_neg h1n5, if_neg h1n6, if_neg h1n7, if_neg h1n8, if_neg h1n9])), rfl⟩
  · refine ng_iconst_4 dX2_ruleOf_100 ?_
    exact ng_ireturn dX2_ruleOf_101 ⟨congrArg (fun x => some (Value.int x)) (by first | (rw [h1]; decide) | (unfold ng_ro; rw [if_neg h1n0, if_neg h1n1, if_neg h1n2, if_neg h1n3, if_neg h1n4, if_neg h1n5, if_neg h1n6, if_neg h1n7, if_neg h1n8, if_neg h1n9])), rfl⟩
  · refine ng_iconst_3 dX2_ruleOf_98 ?_
    exact ng_ireturn dX2_ruleOf_99 ⟨congrArg (fun x => some (Value.int x)) (by first | (rw [h1]; decide) | (unfold ng_ro; rw [if_neg h1n0, if_neg h1n1, if_neg h1n2, if_neg h1n3, if_neg h1n4, if_neg h1n5, if_neg h1n6, if_neg h1n7, if_neg h1n8, if_neg h1n9])), rfl⟩
  · refine ng_iconst_3 dX2_ruleOf_98 ?_
    exact ng_ireturn dX2_ruleOf_99 ⟨congrArg (fun x => some (Value.int x)) (by first | (rw [h1]; decide) | (unfold ng_ro; rw [if_neg h1n0, if_neg h1n1, if_neg h1n2, if_neg h1n3, if_neg h1n4, if_neg h1n5, if_neg h1n6, if_neg h1n7, if_neg h1n8, if_neg h1n9])), rfl⟩
  · refine ng_iconst_4 dX2_ruleOf_100 ?_
    exact ng_ireturn dX2_ruleOf_101 ⟨congrArg (fun x => some (Value.int x)) (by first | (rw [h1]; decide) | (unfold ng_ro; rw [if_neg h1n0, if_neg h1n1, if_neg h1n2, if_neg h1n3, if_neg h1n4, if_neg h1n5, if_neg h1n6, if_neg h1n7, if_neg h1n8, if_neg h1n9])), rfl⟩
  · refine ng_iconst_2 dX2_ruleOf_96 ?_
    exact ng_ireturn dX2_ruleOf_97 ⟨congrArg (fun x => some (Value.int x)) (by first | (rw [h1]; decide) | (unfold ng_ro; rw [if_neg h1n0, if_neg h1n1, if_neg h1n2, if_neg h1n3, if_neg h1n4, if_neg h1n5, if_neg h1n6, if_neg h1n7, if_neg h1n8, if_neg h1n9])), rfl⟩
  · refine ng_iconst_2 dX2_ruleOf_96 ?_
    exact ng_ireturn dX2_ruleOf_97 ⟨congrArg (fun x => some (Value.int x)) (by first | (rw [h1]; decide) | (unfold ng_ro; rw [if_neg h1n0, if_neg h1n1, if_neg h1n2, if_neg h1n3, if_neg h1n4, if_neg h1n5, if_neg h1n6, if_neg h1n7, if_neg h1n8, if_neg h1n9])), rfl⟩
  · refine ng_iconst_2 dX2_ruleOf_96 ?_
    exact ng_ireturn dX2_ruleOf_97 ⟨congrArg (fun x => some (Value.int x)) (by first | (rw [h1]; decide) | (unfold ng_ro; rw [if_neg h1n0, if_neg h1n1, if_neg h1n2, if_neg h1n3, if_neg h1n4, if_neg h1n5, if_neg h1n6, if_neg h1n7, if_neg h1n8, if_neg h1n9])), rfl⟩
  · refine ng_iconst_0 dX2_ruleOf_92 ?_
    exact ng_ireturn dX2_ruleOf_93 ⟨congrArg (fun x => some (Value.int x)) (by first | (rw [h1]; decide) | (unfold ng_ro; rw [if_neg h1n0, if_neg h1n1, if_neg h1n2, if_neg h1n3, if_neg h1n4, if_neg h1n5, if_neg h1n6, if_neg h1n7, if_neg h1n8, if_neg h1n9])), rfl⟩
  · refine ng_iconst_m1 dX2_ruleOf_102 ?_
    exact ng_ireturn dX2_ruleOf_103 ⟨congrArg (fun x => some (Value.int x)) (by first | (rw [h1]; decide) | (unfold ng_ro; rw [if_neg h1n0, if_neg h1n1, if_neg h1n2, if_neg h1n3, if_neg h1n4, if_neg h1n5, if_neg h1n6, if_neg h1n7, if_neg h1n8, if_neg h1n9])), rfl⟩
theorem s_X2_isDigit {X : Nat × (Nat → Int32)} {M : ng_M} {c : Int32} : ng_EvX X 2 mi_X2_isDigit [.int c] (M) (some (.int (ng_bi (ng_dg c)))) (M) := by
  refine ng_EvX.ofI (lv := [some (.int c)]) (ty := .boolean) (by decide) (Nat.le_of_ble_eq_true rfl) rfl rfl (ng_bi_nar _) ?_
  refine ng_iload_0 dX2_isDigit_0 ?_
  refine ng_bipush (v := 48) dX2_isDigit_1 (by decide) ?_
  refine ng_bipush (v := 57) dX2_isDigit_3 (by decide) ?_
  refine ng_callSN_3x (y2 := mi_X8_isWithin) dX2_isDigit_5 (by decide : (RX2, 84, yX8_isWithin, "NinePots") ∈ ng_nm) ms_X8_isWithin my_X8_isWithin (by first | decide | exact Nat.le_of_ble_eq_true rfl) (s_X8_isWithin) (by decide) ?_
  exact ng_ireturn dX2_isDigit_8 ⟨rfl, rfl⟩
def ng_nms (u c : Int32) : Nat → Nat → Int32
  | 0, _ => -1
  | m + 1, i => if ([119, 110, 108, 104, 115, 107, 110, 117] : List Int32).getD (4 * u.toNatClampNeg + i) 0 = c then nI i else ng_nms u c m (i + 1)
theorem ng_nms_e {u c : Int32} (hu : u = 0 ∨ u = 1) : ng_nms u c 4 0 = ng_nmi u c := by
  rcases hu with rfl | rfl
  · show (if (119 : Int32) = c then nI 0 else if (110 : Int32) = c then nI 1 else if (108 : Int32) = c then nI 2 else if (104 : Int32) = c then nI 3 else -1) = _
    unfold ng_nmi
    simp only [eq_comm (b := c)]
    rfl
  · show (if (115 : Int32) = c then nI 0 else if (107 : Int32) = c then nI 1 else if (110 : Int32) = c then nI 2 else if (117 : Int32) = c then nI 3 else -1) = _
    unfold ng_nmi
    simp only [eq_comm (b := c)]
    rfl
theorem l_X2_nameOf {X : Nat × (Nat → Int32)} {M : ng_M} {u c : Int32} (hu : u = 0 ∨ u = 1) (h5 : M 60 5 = u) : ∀ (m i : Nat) (x3 : Option Value), i + m = 4 → ng_Go X mi_X2_nameOf 2 2 [some (.ref 60), some (.int c), some (.int (nI i)), x3] [] M (fun r' M' => r' = some (.int (ng_nms u c m i)) ∧ M' = M) := by
  intro m
  induction m with
  | zero =>
    intro i x3 hi
    have hi2 : i = 4 := by omega
    subst hi2
    refine ng_iload_2 dX2_nameOf_2 ?_
    refine ng_iconst_4 dX2_nameOf_3 ?_
    refine ng_icmp_ge 47 dX2_nameOf_4 (by decide +kernel) (fun h4 => ?_) (fun h4 => ?_)
    · refine ng_iconst_m1 dX2_nameOf_47 ?_
      exact ng_ireturn dX2_nameOf_48 ⟨rfl, rfl⟩
    · exact absurd (show (4 : Int32) ≤ nI 4 by decide) h4
  | succ m ih =>
    intro i x3 hi
    have hcu : 4 * u.toNatClampNeg + i < 8 := by
      rcases hu with rfl | rfl
      · show 4 * 0 + i < 8
        omega
      · show 4 * 1 + i < 8
        omega
    have hat : 4 * u + nI i = nI (4 * u.toNatClampNeg + i) := by
      rcases hu with rfl | rfl
      · rw [← nI_add]; rfl
      · rw [← nI_add]; rfl
    have hin : ng_in (nI (4 * u.toNatClampNeg + i)) 0 (Int32.ofNat 8 - 1) = true := by
      rw [ng_inT, ng_0, nI_toInt (by omega), show (Int32.ofNat 8 - 1).toInt = 7 by decide]
      omega
    refine ng_iload_2 dX2_nameOf_2 ?_
    refine ng_iconst_4 dX2_nameOf_3 ?_
    refine ng_icmp_ge 47 dX2_nameOf_4 (by decide +kernel) (fun h4 => ?_) (fun h4 => ?_)
    · exact absurd (show nI 4 ≤ nI i from h4) (nI_ge (by omega) (by omega))
    · refine ng_iconst_4 dX2_nameOf_7 ?_
      refine ng_aload_0 dX2_nameOf_8 ?_
      refine ng_gI dX2_nameOf_9 fl_X2_18 (by first | rfl | assumption) ?_
      refine ng_imul dX2_nameOf_12 ?_
      refine ng_iload_2 dX2_nameOf_13 ?_
      refine ng_iadd dX2_nameOf_14 ?_
      rw [h5, hat]
      refine ng_istore_3 dX2_nameOf_15 (by first | rfl | assumption) ?_
      refine ng_iload_3 dX2_nameOf_16 ?_
      refine ng_iconst_0 dX2_nameOf_17 ?_
      refine ng_gets (v := .ref 1003) dX2_nameOf_18 (by decide) fs_X2_88 ?_
      refine ng_klen (k := 3) dX2_nameOf_21 rfl ?_
      refine ng_iconst_1 dX2_nameOf_22 ?_
      refine ng_isub dX2_nameOf_23 ?_
      refine ng_callSN_3x (y2 := mi_X8_isWithin) dX2_nameOf_24 (by decide : (RX2, 84, yX8_isWithin, "NinePots") ∈ ng_nm) ms_X8_isWithin my_X8_isWithin (by first | decide | exact Nat.le_of_ble_eq_true rfl) (s_X8_isWithin) (by decide) ?_
      refine ng_ifb_eq 41 dX2_nameOf_27 (by decide +kernel) (fun h27 => ?_) (fun h27 => ?_)
      · exact absurd h27 (by rw [hin]; decide)
      · refine ng_gets (v := .ref 1003) dX2_nameOf_30 (by decide) fs_X2_88 ?_
        refine ng_iload_3 dX2_nameOf_33 ?_
        refine ng_kldc (k := 3) dX2_nameOf_34 rfl (by exact vp_in_nI hcu (by omega)) ?_
        rw [nI_clamp (by omega)]
        refine ng_iload_1 dX2_nameOf_35 ?_
        refine ng_icmp_ne 41 dX2_nameOf_36 (by decide +kernel) (fun h36 => ?_) (fun h36 => ?_)
        · refine ng_iinc_2 (w := 1) dX2_nameOf_41 (by decide) rfl ?_
          refine ng_goto 2 dX2_nameOf_44 (by decide +kernel) ?_
          rw [nI_1, ng_nms, if_neg h36]
          exact ih (i + 1) _ (by omega)
        · refine ng_iload_2 dX2_nameOf_39 ?_
          exact ng_ireturn dX2_nameOf_40 ⟨by rw [ng_nms, if_pos h36], rfl⟩
theorem s_X2_nameOf {X : Nat × (Nat → Int32)} {M : ng_M} {u c : Int32} (hu : u = 0 ∨ u = 1) (h5 : M 60 5 = u) : ng_EvX X 2 mi_X2_nameOf [.ref 60, .int c] (M) (some (.int (ng_nmi u c))) (M) := by
  refine ng_EvX.ofI (lv := [some (.ref 60), some (.int c), none, none]) (ty := .int) (by decide) (Nat.le_of_ble_eq_true rfl) rfl rfl rfl ?_
  refine ng_iconst_0 dX2_nameOf_0 ?_
  refine ng_istore_2 dX2_nameOf_1 (by first | rfl | assumption) ?_
  rw [← ng_nms_e hu]
  exact l_X2_nameOf hu h5 4 0 _ (by omega)
theorem l_X2_readsNumber {X : Nat × (Nat → Int32)} {M : ng_M} {H : Nat → Int32} {L : Nat} {u : Int32} {cs : List Int32} {F : Option Value → ng_M → Prop} (hc : ng_RC M H L u) : ∀ (n k p : Nat) (v : Int32), k + n = 4 → p ≤ L →
    (∀ x2 : Option Value, ng_Go X mi_X2_readsNumber 3 48 [some (.ref 60), some (.int (ng_nu H n p v).2), x2] [] (ng_RD M (ng_nu H n p v).1 cs) F) →
    ng_Go X mi_X2_readsNumber 3 4 [some (.ref 60), some (.int v), some (.int (nI k))] [] (ng_RD M p cs) F := by
  intro n
  induction n with
  | zero =>
    intro k p v hk hp kk
    have hk2 : k = 4 := by omega
    subst hk2
    refine ng_iload_2 dX2_readsNumber_4 ?_
    refine ng_iconst_4 dX2_readsNumber_5 ?_
    refine ng_icmp_ge 48 dX2_readsNumber_6 (by decide +kernel) (fun h6 => ?_) (fun h6 => ?_)
    · exact kk _
    · exact absurd (show (4 : Int32) ≤ nI 4 by decide) h6
  | succ n ih =>
    intro k p v hk hp kk
    refine ng_iload_2 dX2_readsNumber_4 ?_
    refine ng_iconst_4 dX2_readsNumber_5 ?_
    refine ng_icmp_ge 48 dX2_readsNumber_6 (by decide +kernel) (fun h6 => ?_) (fun h6 => ?_)
    · exact absurd (show nI 4 ≤ nI k from h6) (nI_ge (by omega) (by omega))
    · refine ng_aload_0 dX2_readsNumber_9 ?_
      refine ng_callV_0x (y2 := mi_X2_ahead) dX2_readsNumber_10 lk_X2_55 ms_X2_ahead my_X2_ahead (by first | exact ⟨_, rfl⟩ | assumption | exact ng_fld_obj (f := 0) (by assumption)) mc_X2 (by first | decide | exact Nat.le_of_ble_eq_true rfl) (s_X2_ahead hc hp) (by decide) ?_
      refine ng_callS_1x (y2 := mi_X2_isDigit) dX2_readsNumber_13 lk_X2_69 ms_X2_isDigit my_X2_isDigit (by first | decide | exact Nat.le_of_ble_eq_true rfl) (s_X2_isDigit) (by decide) ?_
      refine ng_ifb_eq 48 dX2_readsNumber_16 (by decide +kernel) (fun h16 => ?_) (fun h16 => ?_)
      · rw [ng_nu, if_neg (by rw [h16]; decide)] at kk
        exact kk _
      · refine ng_bipush (v := 10) dX2_readsNumber_19 (by decide) ?_
        refine ng_iload_1 dX2_readsNumber_21 ?_
        refine ng_imul dX2_readsNumber_22 ?_
        refine ng_aload_0 dX2_readsNumber_23 ?_
        refine ng_callV_0x (y2 := mi_X2_ahead) dX2_readsNumber_24 lk_X2_55 ms_X2_ahead my_X2_ahead (by first | exact ⟨_, rfl⟩ | assumption | exact ng_fld_obj (f := 0) (by assumption)) mc_X2 (by first | decide | exact Nat.le_of_ble_eq_true rfl) (s_X2_ahead hc hp) (by decide) ?_
        refine ng_iadd dX2_readsNumber_27 ?_
        refine ng_bipush (v := 48) dX2_readsNumber_28 (by decide) ?_
        refine ng_isub dX2_readsNumber_30 ?_
        refine ng_istore_1 dX2_readsNumber_31 (by first | rfl | assumption) ?_
        refine ng_aload_0 dX2_readsNumber_32 ?_
        refine ng_dup dX2_readsNumber_33 rfl ?_
        refine ng_gI dX2_readsNumber_34 fl_X2_41 (by first | rfl | assumption) ?_
        refine ng_iconst_1 dX2_readsNumber_37 ?_
        refine ng_iadd dX2_readsNumber_38 ?_
        refine ng_pI dX2_readsNumber_39 fp_X2_41 (by first | rfl | assumption) rfl rfl ?_
        rw [ng_RD_pp]
        refine ng_iinc_2 (w := 1) dX2_readsNumber_42 (by decide) rfl ?_
        refine ng_goto 4 dX2_readsNumber_45 (by decide +kernel) ?_
        rw [nI_1]
        rw [ng_nu, if_pos h16] at kk
        exact ih (k + 1) (p + 1) _ (by omega) (by have := (ng_dg_lt hc.1 h16).1; omega) kk
theorem ng_un_lo {v : Int32} (h1 : v.toInt ≤ 9999) : v = ng_un v := by
  have e1 : (10000 : Int32).toInt = 10000 := by decide
  rw [ng_un, if_pos (by rw [ng_lt, e1]; omega)]
theorem s_X2_readsNumber {X : Nat × (Nat → Int32)} {M : ng_M} {H : Nat → Int32} {L p : Nat} {u : Int32} {cs : List Int32} (hc : ng_RC M H L u) (hl : cs.length ≤ p) (hd : ng_dg (H p) = true) : ng_EvX X 3 mi_X2_readsNumber [.ref 60] (ng_RD M p cs) none (ng_RD M (ng_nu H 4 p 0).1 (cs ++ [(ng_nu H 4 p 0).2])) := by
  have hL := hc.1.1
  obtain ⟨n1, n2, n3, n4⟩ := ng_nu_1 hc.1 hd
  refine ng_EvX.ofV (lv := [some (.ref 60), none, none]) (by decide) (Nat.le_of_ble_eq_true rfl) rfl rfl ?_
  refine ng_iconst_0 dX2_readsNumber_0 ?_
  refine ng_istore_1 dX2_readsNumber_1 (by first | rfl | assumption) ?_
  refine ng_iconst_0 dX2_readsNumber_2 ?_
  refine ng_istore_2 dX2_readsNumber_3 (by first | rfl | assumption) ?_
  refine l_X2_readsNumber hc 4 0 p 0 (by omega) (by omega) (fun x2 => ?_)
  refine ng_aload_0 dX2_readsNumber_48 ?_
  refine ng_iload_1 dX2_readsNumber_49 ?_
  refine ng_callV_1v (y2 := mi_X2_makes) dX2_readsNumber_50 lk_X2_65 ms_X2_makes my_X2_makes (by first | exact ⟨_, rfl⟩ | assumption | exact ng_fld_obj (f := 0) (by assumption)) mc_X2 (by first | decide | exact Nat.le_of_ble_eq_true rfl) (s_X2_makes (c := (ng_nu H 4 p 0).2) (ng_un_lo n4) (by omega)) (by decide) ?_
  exact ng_return dX2_readsNumber_53 ⟨rfl, rfl⟩
