/-! ===== pairs: count, give, at ===== -/
theorem sw_X8_count_1 {X : Nat × (Nat → Int32)} {d : Nat} {lv : ng_L} {st : List Value} {M : ng_M} {F : Option Value → ng_M → Prop} {x : Int32} (k0 : x = 0 → ng_Go X mi_X8_count d 60 lv st M F) (k1 : x = 1 → ng_Go X mi_X8_count d 68 lv st M F) (k2 : x = 2 → ng_Go X mi_X8_count d 79 lv st M F) (k3 : x = 3 → ng_Go X mi_X8_count d 79 lv st M F) (k4 : x = 4 → ng_Go X mi_X8_count d 79 lv st M F) (k5 : x = 5 → ng_Go X mi_X8_count d 79 lv st M F) (k6 : x = 6 → ng_Go X mi_X8_count d 79 lv st M F) (k7 : x = 7 → ng_Go X mi_X8_count d 93 lv st M F) (k8 : x = 8 → ng_Go X mi_X8_count d 101 lv st M F) (k9 : x = 9 → ng_Go X mi_X8_count d 109 lv st M F) (k10 : x = 10 → ng_Go X mi_X8_count d 117 lv st M F) (kd : ¬ x = 0 → ¬ x = 1 → ¬ x = 2 → ¬ x = 3 → ¬ x = 4 → ¬ x = 5 → ¬ x = 6 → ¬ x = 7 → ¬ x = 8 → ¬ x = 9 → ¬ x = 10 → ng_Go X mi_X8_count d 125 lv st M F) : ng_Go X mi_X8_count d 1 lv (.int x :: st) M F := by
  by_cases h0 : x = 0
  · subst h0
    intro l D cA ad A p e R s m args below meth c cells slots Q C fin H locs ls hP hS hl
    exact lv_tableIn (tgt := 60) (off := 59) C.1.1 C.1.2.1 dX8_count_1 (by decide) (by decide) (by decide +kernel) (by decide) (k0 rfl l D cA ad A p e R s m args below meth c cells slots Q C fin H locs ls hP hS hl)
  by_cases h1 : x = 1
  · subst h1
    intro l D cA ad A p e R s m args below meth c cells slots Q C fin H locs ls hP hS hl
    exact lv_tableIn (tgt := 68) (off := 67) C.1.1 C.1.2.1 dX8_count_1 (by decide) (by decide) (by decide +kernel) (by decide) (k1 rfl l D cA ad A p e R s m args below meth c cells slots Q C fin H locs ls hP hS hl)
  by_cases h2 : x = 2
  · subst h2
    intro l D cA ad A p e R s m args below meth c cells slots Q C fin H locs ls hP hS hl
    exact lv_tableIn (tgt := 79) (off := 78) C.1.1 C.1.2.1 dX8_count_1 (by decide) (by decide) (by decide +kernel) (by decide) (k2 rfl l D cA ad A p e R s m args below meth c cells slots Q C fin H locs ls hP hS hl)
  by_cases h3 : x = 3
  · subst h3
    intro l D cA ad A p e R s m args below meth c cells slots Q C fin H locs ls hP hS hl
    exact lv_tableIn (tgt := 79) (off := 78) C.1.1 C.1.2.1 dX8_count_1 (by decide) (by decide) (by decide +kernel) (by decide) (k3 rfl l D cA ad A p e R s m args below meth c cells slots Q C fin H locs ls hP hS hl)
  by_cases h4 : x = 4
  · subst h4
    intro l D cA ad A p e R s m args below meth c cells slots Q C fin H locs ls hP hS hl
    exact lv_tableIn (tgt := 79) (off := 78) C.1.1 C.1.2.1 dX8_count_1 (by decide) (by decide) (by decide +kernel) (by decide) (k4 rfl l D cA ad A p e R s m args below meth c cells slots Q C fin H locs ls hP hS hl)
  by_cases h5 : x = 5
  · subst h5
    intro l D cA ad A p e R s m args below meth c cells slots Q C fin H locs ls hP hS hl
    exact lv_tableIn (tgt := 79) (off := 78) C.1.1 C.1.2.1 dX8_count_1 (by decide) (by decide) (by decide +kernel) (by decide) (k5 rfl l D cA ad A p e R s m args below meth c cells slots Q C fin H locs ls hP hS hl)
  by_cases h6 : x = 6
  · subst h6
    intro l D cA ad A p e R s m args below meth c cells slots Q C fin H locs ls hP hS hl
    exact lv_tableIn (tgt := 79) (off := 78) C.1.1 C.1.2.1 dX8_count_1 (by decide) (by decide) (by decide +kernel) (by decide) (k6 rfl l D cA ad A p e R s m args below meth c cells slots Q C fin H locs ls hP hS hl)
  by_cases h7 : x = 7
  · subst h7
    intro l D cA ad A p e R s m args below meth c cells slots Q C fin H locs ls hP hS hl
    exact lv_tableIn (tgt := 93) (off := 92) C.1.1 C.1.2.1 dX8_count_1 (by decide) (by decide) (by decide +kernel) (by decide) (k7 rfl l D cA ad A p e R s m args below meth c cells slots Q C fin H locs ls hP hS hl)
  by_cases h8 : x = 8
  · subst h8
    intro l D cA ad A p e R s m args below meth c cells slots Q C fin H locs ls hP hS hl
    exact lv_tableIn (tgt := 101) (off := 100) C.1.1 C.1.2.1 dX8_count_1 (by decide) (by decide) (by decide +kernel) (by decide) (k8 rfl l D cA ad A p e R s m args below meth c cells slots Q C fin H locs ls hP hS hl)
  by_cases h9 : x = 9
  · subst h9
    intro l D cA ad A p e R s m args below meth c cells slots Q C fin H locs ls hP hS hl
    exact lv_tableIn (tgt := 109) (off := 108) C.1.1 C.1.2.1 dX8_count_1 (by decide) (by decide) (by decide +kernel) (by decide) (k9 rfl l D cA ad A p e R s m args below meth c cells slots Q C fin H locs ls hP hS hl)
  by_cases h10 : x = 10
  · subst h10
    intro l D cA ad A p e R s m args below meth c cells slots Q C fin H locs ls hP hS hl
    exact lv_tableIn (tgt := 117) (off := 116) C.1.1 C.1.2.1 dX8_count_1 (by decide) (by decide) (by decide +kernel) (by decide) (k10 rfl l D cA ad A p e R s m args below meth c cells slots Q C fin H locs ls hP hS hl)
  intro l D cA ad A p e R s m args below meth c cells slots Q C fin H locs ls hP hS hl
  have g0 := lv_neT h0 (show (0 : Int32).toInt = 0 from by decide)
  have g1 := lv_neT h1 (show (1 : Int32).toInt = 1 from by decide)
  have g2 := lv_neT h2 (show (2 : Int32).toInt = 2 from by decide)
  have g3 := lv_neT h3 (show (3 : Int32).toInt = 3 from by decide)
  have g4 := lv_neT h4 (show (4 : Int32).toInt = 4 from by decide)
  have g5 := lv_neT h5 (show (5 : Int32).toInt = 5 from by decide)
  have g6 := lv_neT h6 (show (6 : Int32).toInt = 6 from by decide)
  have g7 := lv_neT h7 (show (7 : Int32).toInt = 7 from by decide)
  have g8 := lv_neT h8 (show (8 : Int32).toInt = 8 from by decide)
  have g9 := lv_neT h9 (show (9 : Int32).toInt = 9 from by decide)
  have g10 := lv_neT h10 (show (10 : Int32).toInt = 10 from by decide)
  exact lv_tableOut (tgt := 125) C.1.1 C.1.2.1 dX8_count_1 (by omega) (by decide) (kd h0 h1 h2 h3 h4 h5 h6 h7 h8 h9 h10 l D cA ad A p e R s m args below meth c cells slots Q C fin H locs ls hP hS hl)
def ng_cix (k : Int32) : Nat := if k = 0 then 0 else if k = 1 then 1 else if k = 2 then 2 else if k = 3 then 3 else if k = 4 then 4 else if k = 5 then 5 else if k = 6 then 6 else if k = 7 then 8 else if k = 8 then 9 else 10
theorem ng_out10 {k : Int32} (h0 : ¬ k = 0) (h1 : ¬ k = 1) (h2 : ¬ k = 2) (h3 : ¬ k = 3) (h4 : ¬ k = 4) (h5 : ¬ k = 5) (h6 : ¬ k = 6) (h7 : ¬ k = 7) (h8 : ¬ k = 8) (h9 : ¬ k = 9) (h10 : ¬ k = 10) : ¬ ng_in k 0 10 = true := by
  have g0 := ng_neI h0 ng_0
  have g1 := ng_neI h1 ng_1
  have g2 := ng_neI h2 ng_2
  have g3 := ng_neI h3 ng_3
  have g4 := ng_neI h4 (show (4 : Int32).toInt = 4 by decide)
  have g5 := ng_neI h5 ng_5
  have g6 := ng_neI h6 ng_6
  have g7 := ng_neI h7 (show (7 : Int32).toInt = 7 by decide)
  have g8 := ng_neI h8 (show (8 : Int32).toInt = 8 by decide)
  have g9 := ng_neI h9 (show (9 : Int32).toInt = 9 by decide)
  have g10 := ng_neI h10 (show (10 : Int32).toInt = 10 by decide)
  rw [ng_inT, ng_0, show (10 : Int32).toInt = 10 by decide]
  omega
theorem ng_s6 : ∀ w, w < 6 → (nI (w + 2) - 2).toNatClampNeg = w := by decide +kernel
theorem c_count {X : Nat × (Nat → Int32)} {M : ng_M} {k : Int32} : ng_EvI X 3 mi_X8_count [.ref 0, .int k] M (fun r M1 => if ng_in k 0 10 then (r = (if k = 9 then M 58 1 else ng_cvr M 1 (ng_cix k)) ∧ M1 = M) else (r = -1000000001 ∧ M1 = ng_cfl M 1)) := by
  refine ng_EvI.of (lv := [some (.ref 0), some (.int k)]) (ty := .int) (by decide) (Nat.le_of_ble_eq_true rfl) rfl rfl (fun _ _ _ => rfl) ?_
  refine ng_iload_1 dX8_count_0 ?_
  refine sw_X8_count_1 (fun h1 => ?_) (fun h1 => ?_) (fun h1 => ?_) (fun h1 => ?_) (fun h1 => ?_) (fun h1 => ?_) (fun h1 => ?_) (fun h1 => ?_) (fun h1 => ?_) (fun h1 => ?_) (fun h1 => ?_) (fun h1n0 h1n1 h1n2 h1n3 h1n4 h1n5 h1n6 h1n7 h1n8 h1n9 h1n10 => ?_)
  · refine ng_aload_0 dX8_count_60 ?_
    refine ng_gR dX8_count_61 fl_X8_12 (by first | rfl | assumption) ?_
    refine ng_gI dX8_count_64 fl_X8_188 (by first | rfl | assumption) ?_
    exact ng_ireturn dX8_count_67 ⟨_, rfl, by rw [h1, if_pos (by decide), if_neg (by decide)]; exact ⟨rfl, rfl⟩⟩
  · refine ng_aload_0 dX8_count_68 ?_
    refine ng_gR dX8_count_69 fl_X8_12 (by first | rfl | assumption) ?_
    refine ng_gR dX8_count_72 fl_X8_21 (by first | rfl | assumption) ?_
    refine ng_gI dX8_count_75 fl_X8_239 (by first | rfl | assumption) ?_
    exact ng_ireturn dX8_count_78 ⟨_, rfl, by rw [h1, if_pos (by decide), if_neg (by decide)]; exact ⟨rfl, rfl⟩⟩
  · refine ng_aload_0 dX8_count_79 ?_
    refine ng_gR dX8_count_80 fl_X8_12 (by first | rfl | assumption) ?_
    refine ng_gR dX8_count_83 fl_X8_81 (by first | rfl | assumption) ?_
    refine ng_iload_1 dX8_count_86 ?_
    refine ng_iconst_2 dX8_count_87 ?_
    refine ng_isub dX8_count_88 ?_
    refine ng_callV_1x (y2 := mi_X5_setting) dX8_count_89 lk_X8_85 ms_X5_setting my_X5_setting (by first | exact ⟨_, rfl⟩ | assumption | exact ng_fld_obj (f := 0) (by assumption)) mc_X5 (by first | decide | exact Nat.le_of_ble_eq_true rfl) (s_X5_setting (by rw [h1]; unfold vp_in; decide)) (by decide) ?_
    exact ng_ireturn dX8_count_92 ⟨_, rfl, by rw [h1, if_pos (by decide), if_neg (by decide)]; exact ⟨rfl, rfl⟩⟩
  · refine ng_aload_0 dX8_count_79 ?_
    refine ng_gR dX8_count_80 fl_X8_12 (by first | rfl | assumption) ?_
    refine ng_gR dX8_count_83 fl_X8_81 (by first | rfl | assumption) ?_
    refine ng_iload_1 dX8_count_86 ?_
    refine ng_iconst_2 dX8_count_87 ?_
    refine ng_isub dX8_count_88 ?_
    refine ng_callV_1x (y2 := mi_X5_setting) dX8_count_89 lk_X8_85 ms_X5_setting my_X5_setting (by first | exact ⟨_, rfl⟩ | assumption | exact ng_fld_obj (f := 0) (by assumption)) mc_X5 (by first | decide | exact Nat.le_of_ble_eq_true rfl) (s_X5_setting (by rw [h1]; unfold vp_in; decide)) (by decide) ?_
    exact ng_ireturn dX8_count_92 ⟨_, rfl, by rw [h1, if_pos (by decide), if_neg (by decide)]; exact ⟨rfl, rfl⟩⟩
  · refine ng_aload_0 dX8_count_79 ?_
    refine ng_gR dX8_count_80 fl_X8_12 (by first | rfl | assumption) ?_
    refine ng_gR dX8_count_83 fl_X8_81 (by first | rfl | assumption) ?_
    refine ng_iload_1 dX8_count_86 ?_
    refine ng_iconst_2 dX8_count_87 ?_
    refine ng_isub dX8_count_88 ?_
    refine ng_callV_1x (y2 := mi_X5_setting) dX8_count_89 lk_X8_85 ms_X5_setting my_X5_setting (by first | exact ⟨_, rfl⟩ | assumption | exact ng_fld_obj (f := 0) (by assumption)) mc_X5 (by first | decide | exact Nat.le_of_ble_eq_true rfl) (s_X5_setting (by rw [h1]; unfold vp_in; decide)) (by decide) ?_
    exact ng_ireturn dX8_count_92 ⟨_, rfl, by rw [h1, if_pos (by decide), if_neg (by decide)]; exact ⟨rfl, rfl⟩⟩
  · refine ng_aload_0 dX8_count_79 ?_
    refine ng_gR dX8_count_80 fl_X8_12 (by first | rfl | assumption) ?_
    refine ng_gR dX8_count_83 fl_X8_81 (by first | rfl | assumption) ?_
    refine ng_iload_1 dX8_count_86 ?_
    refine ng_iconst_2 dX8_count_87 ?_
    refine ng_isub dX8_count_88 ?_
    refine ng_callV_1x (y2 := mi_X5_setting) dX8_count_89 lk_X8_85 ms_X5_setting my_X5_setting (by first | exact ⟨_, rfl⟩ | assumption | exact ng_fld_obj (f := 0) (by assumption)) mc_X5 (by first | decide | exact Nat.le_of_ble_eq_true rfl) (s_X5_setting (by rw [h1]; unfold vp_in; decide)) (by decide) ?_
    exact ng_ireturn dX8_count_92 ⟨_, rfl, by rw [h1, if_pos (by decide), if_neg (by decide)]; exact ⟨rfl, rfl⟩⟩
  · refine ng_aload_0 dX8_count_79 ?_
    refine ng_gR dX8_count_80 fl_X8_12 (by first | rfl | assumption) ?_
    refine ng_gR dX8_count_83 fl_X8_81 (by first | rfl | assumption) ?_
    refine ng_iload_1 dX8_count_86 ?_
    refine ng_iconst_2 dX8_count_87 ?_
    refine ng_isub dX8_count_88 ?_
    refine ng_callV_1x (y2 := mi_X5_setting) dX8_count_89 lk_X8_85 ms_X5_setting my_X5_setting (by first | exact ⟨_, rfl⟩ | assumption | exact ng_fld_obj (f := 0) (by assumption)) mc_X5 (by first | decide | exact Nat.le_of_ble_eq_true rfl) (s_X5_setting (by rw [h1]; unfold vp_in; decide)) (by decide) ?_
    exact ng_ireturn dX8_count_92 ⟨_, rfl, by rw [h1, if_pos (by decide), if_neg (by decide)]; exact ⟨rfl, rfl⟩⟩
  · refine ng_aload_0 dX8_count_93 ?_
    refine ng_gR dX8_count_94 fl_X8_12 (by first | rfl | assumption) ?_
    refine ng_gI dX8_count_97 fl_X8_155 (by first | rfl | assumption) ?_
    exact ng_ireturn dX8_count_100 ⟨_, rfl, by rw [h1, if_pos (by decide), if_neg (by decide)]; exact ⟨rfl, rfl⟩⟩
  · refine ng_aload_0 dX8_count_101 ?_
    refine ng_gR dX8_count_102 fl_X8_12 (by first | rfl | assumption) ?_
    refine ng_gI dX8_count_105 fl_X8_294 (by first | rfl | assumption) ?_
    exact ng_ireturn dX8_count_108 ⟨_, rfl, by rw [h1, if_pos (by decide), if_neg (by decide)]; exact ⟨rfl, rfl⟩⟩
  · refine ng_aload_0 dX8_count_109 ?_
    refine ng_gR dX8_count_110 fl_X8_35 (by first | rfl | assumption) ?_
    refine ng_gI dX8_count_113 fl_X8_263 (by first | rfl | assumption) ?_
    exact ng_ireturn dX8_count_116 ⟨_, rfl, by rw [h1, if_pos (by decide), if_pos rfl]; exact ⟨rfl, rfl⟩⟩
  · refine ng_aload_0 dX8_count_117 ?_
    refine ng_gR dX8_count_118 fl_X8_12 (by first | rfl | assumption) ?_
    refine ng_gI dX8_count_121 fl_X8_256 (by first | rfl | assumption) ?_
    exact ng_ireturn dX8_count_124 ⟨_, rfl, by rw [h1, if_pos (by decide), if_neg (by decide)]; exact ⟨rfl, rfl⟩⟩
  · refine ng_aload_0 dX8_count_125 ?_
    refine ng_ldc dX8_count_126 kc_X8_65 ?_
    refine ng_callV_1x (y2 := mi_X8_fails) dX8_count_128 lk_X8_66 ms_X8_fails my_X8_fails (by first | exact ⟨_, rfl⟩ | assumption | exact ng_fld_obj (f := 0) (by assumption)) mc_X8 (by first | decide | exact Nat.le_of_ble_eq_true rfl) (s_X8_fails (k := 1) (by decide) (by decide) (by decide)) (by decide) ?_
    exact ng_ireturn dX8_count_131 ⟨_, rfl, by rw [if_neg (ng_out10 h1n0 h1n1 h1n2 h1n3 h1n4 h1n5 h1n6 h1n7 h1n8 h1n9 h1n10)]; exact ⟨rfl, rfl⟩⟩
theorem r_count {X : Nat × (Nat → Int32)} {M : ng_M} {k : Int32} : ng_EvI X 2 mi_X9_count [.ref 73, .int k] M (fun r M1 => if ng_in k 0 10 then (r = (if k = 9 then M 73 19 else M 74 (ng_cix k)) ∧ M1 = M) else (r = -1000000001 ∧ M1 = ng_rfl M 1)) := by
  refine ng_EvI.of (lv := [some (.ref 73), some (.int k)]) (ty := .int) (by decide) (Nat.le_of_ble_eq_true rfl) rfl rfl (fun _ _ _ => rfl) ?_
  by_cases hin : ng_in k 0 10 = true
  · have hq := ng_vin hin (n := 11) (by decide)
    have e := ng_nat hq.1
    have hlt := hq.2
    generalize k.toNatClampNeg = q at e hlt
    subst e
    have c : ∀ q, q < 11 → ((nI q < 7) ↔ q < 7) ∧ ((nI q < 9) ↔ q < 9) ∧ ((nI q = 9) ↔ q = 9) ∧ (nI q).toNatClampNeg = q ∧ (nI q + 1).toNatClampNeg = q + 1 ∧ ng_cix (nI q) = (if q < 7 then q else if q < 9 then q + 1 else 10) := by decide +kernel
    obtain ⟨c1, c2, c3, c4, c5, c6⟩ := c q hlt
    refine ng_iload_1 dX9_count_0 ?_
    refine ng_iconst_0 dX9_count_1 ?_
    refine ng_bipush (v := 10) dX9_count_2 (by decide) ?_
    refine ng_callS_3x (y2 := mi_X9_within) dX9_count_4 lk_X9_80 ms_X9_within my_X9_within (by first | decide | exact Nat.le_of_ble_eq_true rfl) (s_X9_within) (by decide) ?_
    refine ng_ifb_ne 17 dX9_count_7 (by decide +kernel) (fun h7 => ?_) (fun h7 => ?_)
    · refine ng_iload_1 dX9_count_17 ?_
      refine ng_bipush (v := 7) dX9_count_18 (by decide) ?_
      refine ng_icmp_ge 32 dX9_count_20 (by decide +kernel) (fun h20 => ?_) (fun h20 => ?_)
      · refine ng_iload_1 dX9_count_32 ?_
        refine ng_bipush (v := 9) dX9_count_33 (by decide) ?_
        refine ng_icmp_ge 49 dX9_count_35 (by decide +kernel) (fun h35 => ?_) (fun h35 => ?_)
        · refine ng_iload_1 dX9_count_49 ?_
          refine ng_bipush (v := 9) dX9_count_50 (by decide) ?_
          refine ng_icmp_ne 62 dX9_count_52 (by decide +kernel) (fun h52 => ?_) (fun h52 => ?_)
          · refine ng_aload_0 dX9_count_62 ?_
            refine ng_gR dX9_count_63 fl_X9_9 (by first | rfl | assumption) ?_
            refine ng_bipush (v := 10) dX9_count_66 (by decide) ?_
            refine ng_ialdL (j := 10) dX9_count_68 (by first | rfl | assumption) (by first | assumption | (unfold vp_in; decide)) (by decide) ?_
            exact ng_ireturn dX9_count_69 ⟨_, rfl, by
  rw [if_pos hin]
  rw [c6]
  first
  | (have : q < 7 := c1.mp (Int32.not_le.mp h20)
     rw [if_neg (fun z => by have := c3.mp z; omega), if_pos this]; exact ⟨rfl, rfl⟩)
  | (have a1 : ¬ q < 7 := fun z => Int32.not_le.mpr (c1.mpr z) h20
     have a2 : q < 9 := c2.mp (Int32.not_le.mp h35)
     rw [if_neg (fun z => by have := c3.mp z; omega), if_neg a1, if_pos a2]; exact ⟨rfl, rfl⟩)
  | (rw [if_pos h52]; exact ⟨rfl, rfl⟩)
  | (have a1 : ¬ q < 7 := fun z => Int32.not_le.mpr (c1.mpr z) h20
     have a2 : ¬ q < 9 := fun z => Int32.not_le.mpr (c2.mpr z) h35
     rw [if_neg h52, if_neg a1, if_neg a2]; exact ⟨rfl, rfl⟩)⟩
          · refine ng_aload_0 dX9_count_55 ?_
            refine ng_gI dX9_count_56 fl_X9_253 (by first | rfl | assumption) ?_
            refine ng_goto 69 dX9_count_59 (by decide +kernel) ?_
            exact ng_ireturn dX9_count_69 ⟨_, rfl, by
  rw [if_pos hin]
  rw [c6]
  first
  | (have : q < 7 := c1.mp (Int32.not_le.mp h20)
     rw [if_neg (fun z => by have := c3.mp z; omega), if_pos this]; exact ⟨rfl, rfl⟩)
  | (have a1 : ¬ q < 7 := fun z => Int32.not_le.mpr (c1.mpr z) h20
     have a2 : q < 9 := c2.mp (Int32.not_le.mp h35)
     rw [if_neg (fun z => by have := c3.mp z; omega), if_neg a1, if_pos a2]; exact ⟨rfl, rfl⟩)
  | (rw [if_pos h52]; exact ⟨rfl, rfl⟩)
  | (have a1 : ¬ q < 7 := fun z => Int32.not_le.mpr (c1.mpr z) h20
     have a2 : ¬ q < 9 := fun z => Int32.not_le.mpr (c2.mpr z) h35
     rw [if_neg h52, if_neg a1, if_neg a2]; exact ⟨rfl, rfl⟩)⟩
        · refine ng_aload_0 dX9_count_38 ?_
          refine ng_gR dX9_count_39 fl_X9_9 (by first | rfl | assumption) ?_
          refine ng_iload_1 dX9_count_42 ?_
          refine ng_iconst_1 dX9_count_43 ?_
          refine ng_iadd dX9_count_44 ?_
          refine ng_ialdL (j := (q + 1)) dX9_count_45 (by first | rfl | assumption) (by rw [nI_1]; exact vp_in_nI (by omega) (by omega)) (by exact c5) ?_
          refine ng_goto 69 dX9_count_46 (by decide +kernel) ?_
          exact ng_ireturn dX9_count_69 ⟨_, rfl, by
  rw [if_pos hin]
  rw [c6]
  first
  | (have : q < 7 := c1.mp (Int32.not_le.mp h20)
     rw [if_neg (fun z => by have := c3.mp z; omega), if_pos this]; exact ⟨rfl, rfl⟩)
  | (have a1 : ¬ q < 7 := fun z => Int32.not_le.mpr (c1.mpr z) h20
     have a2 : q < 9 := c2.mp (Int32.not_le.mp h35)
     rw [if_neg (fun z => by have := c3.mp z; omega), if_neg a1, if_pos a2]; exact ⟨rfl, rfl⟩)
  | (rw [if_pos h52]; exact ⟨rfl, rfl⟩)
  | (have a1 : ¬ q < 7 := fun z => Int32.not_le.mpr (c1.mpr z) h20
     have a2 : ¬ q < 9 := fun z => Int32.not_le.mpr (c2.mpr z) h35
     rw [if_neg h52, if_neg a1, if_neg a2]; exact ⟨rfl, rfl⟩)⟩
      · refine ng_aload_0 dX9_count_23 ?_
        refine ng_gR dX9_count_24 fl_X9_9 (by first | rfl | assumption) ?_
        refine ng_iload_1 dX9_count_27 ?_
        refine ng_ialdL (j := q) dX9_count_28 (by first | rfl | assumption) (by exact ng_vp (by rw [nI_toInt (by omega)]; omega) (by rw [nI_toInt (by omega)]; omega)) (by exact c4) ?_
        refine ng_goto 69 dX9_count_29 (by decide +kernel) ?_
        exact ng_ireturn dX9_count_69 ⟨_, rfl, by
  rw [if_pos hin]
  rw [c6]
  first
  | (have : q < 7 := c1.mp (Int32.not_le.mp h20)
     rw [if_neg (fun z => by have := c3.mp z; omega), if_pos this]; exact ⟨rfl, rfl⟩)
  | (have a1 : ¬ q < 7 := fun z => Int32.not_le.mpr (c1.mpr z) h20
     have a2 : q < 9 := c2.mp (Int32.not_le.mp h35)
     rw [if_neg (fun z => by have := c3.mp z; omega), if_neg a1, if_pos a2]; exact ⟨rfl, rfl⟩)
  | (rw [if_pos h52]; exact ⟨rfl, rfl⟩)
  | (have a1 : ¬ q < 7 := fun z => Int32.not_le.mpr (c1.mpr z) h20
     have a2 : ¬ q < 9 := fun z => Int32.not_le.mpr (c2.mpr z) h35
     rw [if_neg h52, if_neg a1, if_neg a2]; exact ⟨rfl, rfl⟩)⟩
    · rw [hin] at h7; exact absurd h7 (by decide)
  · have hf := (Bool.not_eq_true _).mp hin
    refine ng_iload_1 dX9_count_0 ?_
    refine ng_iconst_0 dX9_count_1 ?_
    refine ng_bipush (v := 10) dX9_count_2 (by decide) ?_
    refine ng_callS_3x (y2 := mi_X9_within) dX9_count_4 lk_X9_80 ms_X9_within my_X9_within (by first | decide | exact Nat.le_of_ble_eq_true rfl) (s_X9_within) (by decide) ?_
    refine ng_ifb_ne 17 dX9_count_7 (by decide +kernel) (fun h7 => ?_) (fun h7 => ?_)
    · exact absurd h7 hin
    · refine ng_aload_0 dX9_count_10 ?_
      refine ng_ldc dX9_count_11 kc_X9_91 ?_
      refine ng_callV_1x (y2 := mi_X9_finding) dX9_count_13 lk_X9_92 ms_X9_finding my_X9_finding (by first | exact ⟨_, rfl⟩ | assumption | exact ng_fld_obj (f := 0) (by assumption)) mc_X9 (by first | decide | exact Nat.le_of_ble_eq_true rfl) (s_X9_finding (k := 1) (by decide) (by decide) (by decide)) (by decide) ?_
      exact ng_ireturn dX9_count_16 ⟨_, rfl, by rw [if_neg hin]; exact ⟨rfl, rfl⟩⟩
theorem pr_count {X : Nat × (Nat → Int32)} {M : ng_M} {k : Int32} (h : ng_inv M) : ng_pair X mi_X8_count mi_X9_count [.int k] M := by
  refine ng_pair.of (d8 := 3) (d9 := 2) c_count (by decide) (by decide) (fun _ M1 _ => r_count) (fun r1 M1 h1 r2 M2 h2 => ?_)
  by_cases hok : ng_in k 0 10 = true
  · rw [if_pos hok] at h1 h2
    obtain ⟨e1, e2⟩ := h1
    subst M1
    obtain ⟨e3, e4⟩ := h2
    subst M2
    refine ⟨?_, h⟩
    rw [e1, e3, h.2.2.2.1.1]
    by_cases q : k = 9
    · rw [if_pos q, if_pos q]
    · rw [if_neg q, if_neg q]
      exact (h.1.1.1 _ (by unfold ng_cix; repeat' split
                           all_goals omega)).symm
  · rw [if_neg hok] at h1 h2
    obtain ⟨e1, e2⟩ := h1
    subst r1
    subst M1
    obtain ⟨e1, e2⟩ := h2
    subst r2
    subst M2
    exact ⟨rfl, ng_inv_err h⟩
def ng_kp (k : Int32) : Bool := decide (k = 3) || decide (k = 4)
theorem ng_kp_of {k : Int32} (h0 : 0 ≤ k.toInt) (h6 : k.toInt ≤ 6) : ng_ofN 7 k 3 = ng_kp k := by
  rcases ng_k7 h0 h6 with rfl | rfl | rfl | rfl | rfl | rfl | rfl <;> decide
/-- one pot is given -/
def ng_gv (a : ng_R) (i : Nat) : ng_R := upd (upd (upd a (24 + 4 * i) (ng_min 9999 (a (24 + 4 * i) + 1))) 5 (a 5 - 1)) 3 (if ng_kp (a (21 + 4 * i)) then ng_min 12 (a 3 + 1) else a 3)
theorem s_X5_gives {X : Nat × (Nat → Int32)} {M : ng_M} {s i : Nat} {a : ng_R} {b : Int32} (hs : ng_isS s) (hr : ng_rl M a) (hv : ng_sv M s a) (hb : ng_bd a) (hbi : b = nI i) (hi : i < 8) : ng_EvV X 4 mi_X5_gives [.ref s, .int b] M (fun M' => ng_off [s, s + 1] M M' ∧ ng_sv M' s (ng_gv a i) ∧ M' (s + 1) i = ng_min 9999 (a (24 + 4 * i) + 1)) := by
  obtain ⟨⟨hs0, hs1, hs2, hs3, hs4, hs5, hs6, hs7, hs8, hs9, hs10, hs11⟩, hsh, hsp, hso, hsl⟩ := ng_S hs
  obtain ⟨v1, v2, v3, v4, v5, v6, v7⟩ := hv
  have hvi : vp_in b 8 := by rw [hbi]; exact vp_in_nI (by omega) (by omega)
  have hci : b.toNatClampNeg = i := by rw [hbi, nI_clamp (by omega)]
  have hk := (hb.2.1 i hi).1
  have e1 : ng_row M s (upd (M s) 6 (M s 6 - 1)) (s + 1) = M (s + 1) := ng_row_ne (by omega)
  refine ng_EvV.of (lv := [some (.ref s), some (.int b)]) (by decide) (Nat.le_of_ble_eq_true rfl) rfl rfl ?_
  have fin : ∀ (M3 : ng_M), ng_off [s, s + 1] M M3 → M3 (s + 1) = upd (M (s + 1)) i (ng_min 9999 (M (s + 1) i + 1)) → M3 s 3 = M s 3 → M3 s 4 = (if ng_kp (a (21 + 4 * i)) then ng_min 12 (a 3 + 1) else a 3) → M3 s 5 = M s 5 → M3 s 6 = M s 6 - 1 → M3 s 7 = M s 7 → M3 s 8 = M s 8 → (ng_off [s, s + 1] M M3 ∧ ng_sv M3 s (ng_gv a i) ∧ M3 (s + 1) i = ng_min 9999 (a (24 + 4 * i) + 1)) := by
    intro M3 o g1 g3 g4 g5 g6 g7 g8
    refine ⟨o, ⟨fun j hj => ?_, ?_, ?_, ?_, ?_, ?_, ?_⟩, ?_⟩
    · rw [g1]
      have f1 : ng_gv a i (24 + 4 * j) = upd a (24 + 4 * i) (ng_min 9999 (a (24 + 4 * i) + 1)) (24 + 4 * j) := by
        unfold ng_gv
        rw [ng_upd_ne (show 24 + 4 * j ≠ 3 by omega), ng_upd_ne (show 24 + 4 * j ≠ 5 by omega)]
      rw [f1]
      by_cases q : j = i
      · subst q; rw [ng_upd_eq, ng_upd_eq, v1 j hj]
      · rw [ng_upd_ne q, ng_upd_ne (show 24 + 4 * j ≠ 24 + 4 * i by omega)]; exact v1 j hj
    · rw [g3, v2, ng_gv, ng_upd_ne (by omega), ng_upd_ne (by omega), ng_upd_ne (by omega)]
    · rw [g4, ng_gv, ng_upd_eq]
    · rw [g5, v4, ng_gv, ng_upd_ne (by omega), ng_upd_ne (by omega), ng_upd_ne (by omega)]
    · rw [g6, v5, ng_gv, ng_upd_ne (by omega), ng_upd_eq]
    · rw [g7, v6, ng_gv, ng_upd_ne (by omega), ng_upd_ne (by omega), ng_upd_ne (by omega)]
    · rw [g8, v7, ng_gv, ng_upd_ne (by omega), ng_upd_ne (by omega), ng_upd_ne (by omega)]
    · rw [g1, ng_upd_eq, v1 i hi]
  refine ng_aload_0 dX5_gives_0 ?_
  refine ng_dup dX5_gives_1 rfl ?_
  refine ng_gI dX5_gives_2 fl_X5_38 (by first | rfl | assumption) ?_
  refine ng_iconst_1 dX5_gives_5 ?_
  refine ng_isub dX5_gives_6 ?_
  refine ng_pI dX5_gives_7 fp_X5_38 (by first | rfl | assumption) rfl rfl ?_
  refine ng_aload_0 dX5_gives_10 ?_
  refine ng_gR dX5_gives_11 fl_X5_9 (by first | rfl | assumption) ?_
  refine ng_iload_1 dX5_gives_14 ?_
  refine ng_sipush (v := 9999) dX5_gives_15 (by decide) ?_
  refine ng_aload_0 dX5_gives_18 ?_
  refine ng_gR dX5_gives_19 fl_X5_9 (by first | rfl | assumption) ?_
  refine ng_iload_1 dX5_gives_22 ?_
  refine ng_ialdL (j := i) dX5_gives_23 (by first | rfl | assumption) (by first | assumption | (unfold vp_in; decide)) (by exact hci) ?_
  refine ng_iconst_1 dX5_gives_24 ?_
  refine ng_iadd dX5_gives_25 ?_
  refine ng_mmin dX5_gives_26 lk_X5_82 mms_min li_J9 mmc_min (by first | decide | exact Nat.le_of_ble_eq_true rfl) ?_
  refine ng_iastL (j := i) dX5_gives_29 (by first | rfl | assumption) (by first | assumption | (unfold vp_in; decide)) (by exact hci) ?_
  refine ng_aload_0 dX5_gives_30 ?_
  refine ng_gR dX5_gives_31 fl_X5_25 (by first | rfl | assumption) ?_
  refine ng_gR dX5_gives_34 fl_X5_69 (by first | rfl | assumption) ?_
  refine ng_iload_1 dX5_gives_37 ?_
  refine ng_ialdL (j := i) dX5_gives_38 (by first | rfl | assumption) (by first | assumption | (unfold vp_in; decide)) (by exact hci) ?_
  refine ng_iconst_3 dX5_gives_39 ?_
  refine ng_callSN_2x (y2 := mi_X8_isOf) dX5_gives_40 (by decide : (RX5, 129, yX8_isOf, "NinePots") ∈ ng_nm) ms_X8_isOf my_X8_isOf (by first | decide | exact Nat.le_of_ble_eq_true rfl) (s_X8_isOf) (by decide) ?_
  refine ng_ifb_eq 61 dX5_gives_43 (by decide +kernel) (fun h43 => ?_) (fun h43 => ?_)
  · exact ng_return dX5_gives_61 ⟨rfl, by
  have hkk : ng_ofN 7 (a (21 + 4 * i)) 3 = ng_kp (a (21 + 4 * i)) := ng_kp_of hk.1 hk.2
  have e4 : M 4 i = a (21 + 4 * i) := (hr.2.1 i hi).1
  have h43' := h43
  simp only [ng_row_ne (show 4 ≠ s + 1 by omega), ng_row_ne (show 4 ≠ s by omega), e4, hkk] at h43'
  refine fin _ (fun k hk => ?_) ?_ ?_ ?_ ?_ ?_ ?_ ?_
  · simp at hk; simp [ng_row, hk]
  · simp [ng_row, ng_min]
  · simp [ng_row, upd]
  · simp [ng_row, upd, h43', v3, ng_min]
  · simp [ng_row, upd]
  · simp [ng_row, upd]
  · simp [ng_row, upd]
  · simp [ng_row, upd]⟩
  · refine ng_aload_0 dX5_gives_46 ?_
    refine ng_bipush (v := 12) dX5_gives_47 (by decide) ?_
    refine ng_aload_0 dX5_gives_49 ?_
    refine ng_gI dX5_gives_50 fl_X5_18 (by first | rfl | assumption) ?_
    refine ng_iconst_1 dX5_gives_53 ?_
    refine ng_iadd dX5_gives_54 ?_
    refine ng_mmin dX5_gives_55 lk_X5_82 mms_min li_J9 mmc_min (by first | decide | exact Nat.le_of_ble_eq_true rfl) ?_
    refine ng_pI dX5_gives_58 fp_X5_18 (by first | rfl | assumption) rfl rfl ?_
    exact ng_return dX5_gives_61 ⟨rfl, by
  have hkk : ng_ofN 7 (a (21 + 4 * i)) 3 = ng_kp (a (21 + 4 * i)) := ng_kp_of hk.1 hk.2
  have e4 : M 4 i = a (21 + 4 * i) := (hr.2.1 i hi).1
  have h43' := h43
  simp only [ng_row_ne (show 4 ≠ s + 1 by omega), ng_row_ne (show 4 ≠ s by omega), e4, hkk] at h43'
  refine fin _ (fun k hk => ?_) ?_ ?_ ?_ ?_ ?_ ?_ ?_
  · simp at hk; simp [ng_row, hk]
  · simp [ng_row, ng_min]
  · simp [ng_row, upd]
  · simp [ng_row, upd, h43', v3, ng_min]
  · simp [ng_row, upd]
  · simp [ng_row, upd]
  · simp [ng_row, upd]
  · simp [ng_row, upd]⟩
theorem s_X9_gives {X : Nat × (Nat → Int32)} {M : ng_M} {i : Nat} {b : Int32} (hb : ng_bd (M 74)) (hbi : b = nI i) (hi : i < 8) : ng_EvX X 3 mi_X9_gives [.ref 73, .int b] M (some (.int (ng_min 9999 (M 74 (24 + 4 * i) + 1)))) (ng_row M 74 (ng_gv (M 74) i)) := by
  refine ng_EvX.ofI (lv := [some (.ref 73), some (.int b), none]) (ty := .int) (by decide) (Nat.le_of_ble_eq_true rfl) rfl rfl rfl ?_
  have hix : 21 + 4 * b + 3 = nI (24 + 4 * i) := (ng_ix_of (f := 3) (j := 3) hbi rfl).trans (by congr 1; omega)
  have hvx : vp_in (21 + 4 * b + 3) 227 := by rw [hix]; exact vp_in_nI (by omega) (by omega)
  have hcx : (21 + 4 * b + 3).toNatClampNeg = 24 + 4 * i := by rw [hix, nI_clamp (by omega)]
  obtain ⟨-, -, -, g3, -⟩ := id hb
  have hh : ∀ z : Int32, (z = 0 ∨ z = 1) → ng_held (M 74 3 + z) 0 12 = (if z = 1 then ng_min 12 (M 74 3 + 1) else M 74 3) := by
    intro z hz
    rcases hz with rfl | rfl
    · apply ng_i_eq; rw [if_neg (by decide), ng_heldI, ng_0, ng_12, Int32.add_zero]; omega
    · apply ng_i_eq; rw [if_pos rfl, ng_heldI, ng_minI, ng_0, ng_12, ng_addI (by rw [ng_1]; omega) (by rw [ng_1]; omega), ng_1]; omega
  refine ng_bipush (v := 21) dX9_gives_0 (by decide) ?_
  refine ng_iconst_4 dX9_gives_2 ?_
  refine ng_iload_1 dX9_gives_3 ?_
  refine ng_imul dX9_gives_4 ?_
  refine ng_iadd dX9_gives_5 ?_
  refine ng_iconst_3 dX9_gives_6 ?_
  refine ng_iadd dX9_gives_7 ?_
  refine ng_istore_2 dX9_gives_8 (by first | rfl | assumption) ?_
  refine ng_aload_0 dX9_gives_9 ?_
  refine ng_gR dX9_gives_10 fl_X9_9 (by first | rfl | assumption) ?_
  refine ng_iload_2 dX9_gives_13 ?_
  refine ng_sipush (v := 9999) dX9_gives_14 (by decide) ?_
  refine ng_aload_0 dX9_gives_17 ?_
  refine ng_gR dX9_gives_18 fl_X9_9 (by first | rfl | assumption) ?_
  refine ng_iload_2 dX9_gives_21 ?_
  refine ng_ialdL (j := (24 + 4 * i)) dX9_gives_22 (by first | rfl | assumption) (by exact hvx) (by exact hcx) ?_
  refine ng_iconst_1 dX9_gives_23 ?_
  refine ng_iadd dX9_gives_24 ?_
  refine ng_mmin dX9_gives_25 lk_X9_67 mms_min li_J9 mmc_min (by first | decide | exact Nat.le_of_ble_eq_true rfl) ?_
  refine ng_iastL (j := (24 + 4 * i)) dX9_gives_28 (by first | rfl | assumption) (by exact hvx) (by exact hcx) ?_
  refine ng_aload_0 dX9_gives_29 ?_
  refine ng_gR dX9_gives_30 fl_X9_9 (by first | rfl | assumption) ?_
  refine ng_iconst_5 dX9_gives_33 ?_
  refine ng_dup2 dX9_gives_34 rfl rfl ?_
  refine ng_ialdL (j := 5) dX9_gives_35 (by first | rfl | assumption) (by first | assumption | (unfold vp_in; decide)) (by decide) ?_
  refine ng_iconst_1 dX9_gives_36 ?_
  refine ng_isub dX9_gives_37 ?_
  refine ng_iastL (j := 5) dX9_gives_38 (by first | rfl | assumption) (by first | assumption | (unfold vp_in; decide)) (by decide) ?_
  refine ng_aload_0 dX9_gives_39 ?_
  refine ng_gR dX9_gives_40 fl_X9_9 (by first | rfl | assumption) ?_
  refine ng_iconst_3 dX9_gives_43 ?_
  refine ng_aload_0 dX9_gives_44 ?_
  refine ng_gR dX9_gives_45 fl_X9_9 (by first | rfl | assumption) ?_
  refine ng_iconst_3 dX9_gives_48 ?_
  refine ng_ialdL (j := 3) dX9_gives_49 (by first | rfl | assumption) (by first | assumption | (unfold vp_in; decide)) (by decide) ?_
  refine ng_aload_0 dX9_gives_50 ?_
  refine ng_iload_1 dX9_gives_51 ?_
  refine ng_callV_1x (y2 := mi_X9_isKeeper) dX9_gives_52 lk_X9_132 ms_X9_isKeeper my_X9_isKeeper (by first | exact ⟨_, rfl⟩ | assumption | exact ng_fld_obj (f := 0) (by assumption)) mc_X9 (by first | decide | exact Nat.le_of_ble_eq_true rfl) (s_X9_isKeeper hbi hi) (by decide) ?_
  refine ng_ifb_eq 62 dX9_gives_55 (by decide +kernel) (fun h55 => ?_) (fun h55 => ?_)
  · refine ng_iconst_0 dX9_gives_62 ?_
    refine ng_iadd dX9_gives_63 ?_
    refine ng_iconst_0 dX9_gives_64 ?_
    refine ng_bipush (v := 12) dX9_gives_65 (by decide) ?_
    refine ng_callS_3x (y2 := mi_X9_held) dX9_gives_67 lk_X9_203 ms_X9_held my_X9_held (by first | decide | exact Nat.le_of_ble_eq_true rfl) (s_X9_held) (by decide) ?_
    refine ng_iastL (j := 3) dX9_gives_70 (by first | rfl | assumption) (by first | assumption | (unfold vp_in; decide)) (by decide) ?_
    refine ng_aload_0 dX9_gives_71 ?_
    refine ng_gR dX9_gives_72 fl_X9_9 (by first | rfl | assumption) ?_
    refine ng_iload_2 dX9_gives_75 ?_
    refine ng_ialdL (j := (24 + 4 * i)) dX9_gives_76 (by first | rfl | assumption) (by exact hvx) (by exact hcx) ?_
    exact ng_ireturn dX9_gives_77 ⟨by
  simp only [ng_row_eq]
  rw [ng_upd_ne (by omega), ng_upd_ne (by omega), ng_upd_eq]
  rfl, by
  simp only [ng_row_eq, ng_row_row] at h55 ⊢
  have k1 : upd (upd (M 74) (24 + 4 * i) (ng_min 9999 (M 74 (24 + 4 * i) + 1))) 5 (M 74 5 - 1) (21 + 4 * i) = M 74 (21 + 4 * i) := by rw [ng_upd_ne (by omega), ng_upd_ne (by omega)]
  have k3 : upd (upd (M 74) (24 + 4 * i) (ng_min 9999 (M 74 (24 + 4 * i) + 1))) 5 (M 74 5 - 1) 3 = M 74 3 := by rw [ng_upd_ne (by omega), ng_upd_ne (by omega)]
  have k5 : upd (M 74) (24 + 4 * i) (ng_min 9999 (M 74 (24 + 4 * i) + 1)) 5 = M 74 5 := by rw [ng_upd_ne (by omega)]
  have km : (if M 74 (24 + 4 * i) + 1 < 9999 then M 74 (24 + 4 * i) + 1 else 9999) = ng_min 9999 (M 74 (24 + 4 * i) + 1) := rfl
  rw [km, k5, k1] at h55
  have hkp : ng_kp (M 74 (21 + 4 * i)) = _ := h55
  rw [km, k5, k3]
  first | rw [hh 1 (Or.inr rfl), if_pos rfl] | rw [hh 0 (Or.inl rfl), if_neg (by decide)]
  rw [ng_gv, hkp]
  rfl⟩
  · refine ng_iconst_1 dX9_gives_58 ?_
    refine ng_goto 63 dX9_gives_59 (by decide +kernel) ?_
    refine ng_iadd dX9_gives_63 ?_
    refine ng_iconst_0 dX9_gives_64 ?_
    refine ng_bipush (v := 12) dX9_gives_65 (by decide) ?_
    refine ng_callS_3x (y2 := mi_X9_held) dX9_gives_67 lk_X9_203 ms_X9_held my_X9_held (by first | decide | exact Nat.le_of_ble_eq_true rfl) (s_X9_held) (by decide) ?_
    refine ng_iastL (j := 3) dX9_gives_70 (by first | rfl | assumption) (by first | assumption | (unfold vp_in; decide)) (by decide) ?_
    refine ng_aload_0 dX9_gives_71 ?_
    refine ng_gR dX9_gives_72 fl_X9_9 (by first | rfl | assumption) ?_
    refine ng_iload_2 dX9_gives_75 ?_
    refine ng_ialdL (j := (24 + 4 * i)) dX9_gives_76 (by first | rfl | assumption) (by exact hvx) (by exact hcx) ?_
    exact ng_ireturn dX9_gives_77 ⟨by
  simp only [ng_row_eq]
  rw [ng_upd_ne (by omega), ng_upd_ne (by omega), ng_upd_eq]
  rfl, by
  simp only [ng_row_eq, ng_row_row] at h55 ⊢
  have k1 : upd (upd (M 74) (24 + 4 * i) (ng_min 9999 (M 74 (24 + 4 * i) + 1))) 5 (M 74 5 - 1) (21 + 4 * i) = M 74 (21 + 4 * i) := by rw [ng_upd_ne (by omega), ng_upd_ne (by omega)]
  have k3 : upd (upd (M 74) (24 + 4 * i) (ng_min 9999 (M 74 (24 + 4 * i) + 1))) 5 (M 74 5 - 1) 3 = M 74 3 := by rw [ng_upd_ne (by omega), ng_upd_ne (by omega)]
  have k5 : upd (M 74) (24 + 4 * i) (ng_min 9999 (M 74 (24 + 4 * i) + 1)) 5 = M 74 5 := by rw [ng_upd_ne (by omega)]
  have km : (if M 74 (24 + 4 * i) + 1 < 9999 then M 74 (24 + 4 * i) + 1 else 9999) = ng_min 9999 (M 74 (24 + 4 * i) + 1) := rfl
  rw [km, k5, k1] at h55
  have hkp : ng_kp (M 74 (21 + 4 * i)) = _ := h55
  rw [km, k5, k3]
  first | rw [hh 1 (Or.inr rfl), if_pos rfl] | rw [hh 0 (Or.inl rfl), if_neg (by decide)]
  rw [ng_gv, hkp]
  rfl⟩
theorem c_give {X : Nat × (Nat → Int32)} {M : ng_M} {b : Int32} {n : Nat} (h : ng_I1 M) (hn : M 2 6 = nI n) (hn8 : n ≤ 8) : ng_EvI X 5 mi_X8_give [.ref 0, .int b] M (fun r M1 => if ng_in b 0 (M 2 6 - 1) then (if M 15 6 = 0 then (r = -1000000003 ∧ M1 = ng_cfl M 3) else (r = ng_min 9999 (M 74 (24 + 4 * b.toNatClampNeg) + 1) ∧ ng_off [15, 16] M M1 ∧ ng_sv M1 15 (ng_gv (M 74) b.toNatClampNeg))) else (r = -1000000001 ∧ M1 = ng_cfl M 1)) := by
  refine ng_EvI.of (lv := [some (.ref 0), some (.int b)]) (ty := .int) (by decide) (Nat.le_of_ble_eq_true rfl) rfl rfl (fun _ _ _ => rfl) ?_
  refine ng_aload_0 dX8_give_0 ?_
  refine ng_gR dX8_give_1 fl_X8_12 (by first | rfl | assumption) ?_
  refine ng_gR dX8_give_4 fl_X8_21 (by first | rfl | assumption) ?_
  refine ng_iload_1 dX8_give_7 ?_
  refine ng_callV_1x (y2 := mi_X3_isBuyer) dX8_give_8 lk_X8_102 ms_X3_isBuyer my_X3_isBuyer (by first | exact ⟨_, rfl⟩ | assumption | exact ng_fld_obj (f := 0) (by assumption)) mc_X3 (by first | decide | exact Nat.le_of_ble_eq_true rfl) (s_X3_isBuyer) (by decide) ?_
  refine ng_ifb_ne 21 dX8_give_11 (by decide +kernel) (fun h11 => ?_) (fun h11 => ?_)
  · refine ng_aload_0 dX8_give_21 ?_
    refine ng_gR dX8_give_22 fl_X8_12 (by first | rfl | assumption) ?_
    refine ng_gR dX8_give_25 fl_X8_81 (by first | rfl | assumption) ?_
    refine ng_gI dX8_give_28 fl_X8_199 (by first | rfl | assumption) ?_
    refine ng_if_ne 41 dX8_give_31 (by decide +kernel) (fun h31 => ?_) (fun h31 => ?_)
    · have hI := h.1.rl
      obtain ⟨q1, q2, q3⟩ := ng_vp_n h11 hn hn8
      refine ng_aload_0 dX8_give_41 ?_
      refine ng_gR dX8_give_42 fl_X8_12 (by first | rfl | assumption) ?_
      refine ng_gR dX8_give_45 fl_X8_81 (by first | rfl | assumption) ?_
      refine ng_iload_1 dX8_give_48 ?_
      refine ng_callV_1w (y2 := mi_X5_gives) dX8_give_49 lk_X8_202 ms_X5_gives my_X5_gives (by first | exact ⟨_, rfl⟩ | assumption | exact ng_fld_obj (f := 0) (by assumption)) mc_X5 (by first | decide | exact Nat.le_of_ble_eq_true rfl) (s_X5_gives (s := 15) (a := M 74) (Or.inl rfl) hI.1 hI.2.1 h.2.wfr.2 q3 (by omega)) (by decide) (fun M2 hg => ?_)
      refine ng_aload_0 dX8_give_52 ?_
      refine ng_gR dX8_give_53 fl_X8_12 (by first | rfl | assumption) ?_
      refine ng_gR dX8_give_56 fl_X8_81 (by first | rfl | assumption) ?_
      refine ng_gR dX8_give_59 fl_X8_114 (by first | rfl | assumption) ?_
      refine ng_iload_1 dX8_give_62 ?_
      refine ng_iald dX8_give_63 (by first | rfl | assumption) (by exact q1) ?_
      exact ng_ireturn dX8_give_64 ⟨_, rfl, by rw [if_pos h11, if_neg h31]; exact ⟨hg.2.2, hg.1, hg.2.1⟩⟩
    · refine ng_aload_0 dX8_give_34 ?_
      refine ng_ldc dX8_give_35 kc_X8_191 ?_
      refine ng_callV_1x (y2 := mi_X8_fails) dX8_give_37 lk_X8_66 ms_X8_fails my_X8_fails (by first | exact ⟨_, rfl⟩ | assumption | exact ng_fld_obj (f := 0) (by assumption)) mc_X8 (by first | decide | exact Nat.le_of_ble_eq_true rfl) (s_X8_fails (k := 3) (by decide) (by decide) (by decide)) (by decide) ?_
      exact ng_ireturn dX8_give_40 ⟨_, rfl, by rw [if_pos h11, if_pos h31]; exact ⟨rfl, rfl⟩⟩
  · refine ng_aload_0 dX8_give_14 ?_
    refine ng_ldc dX8_give_15 kc_X8_65 ?_
    refine ng_callV_1x (y2 := mi_X8_fails) dX8_give_17 lk_X8_66 ms_X8_fails my_X8_fails (by first | exact ⟨_, rfl⟩ | assumption | exact ng_fld_obj (f := 0) (by assumption)) mc_X8 (by first | decide | exact Nat.le_of_ble_eq_true rfl) (s_X8_fails (k := 1) (by decide) (by decide) (by decide)) (by decide) ?_
    exact ng_ireturn dX8_give_20 ⟨_, rfl, by rw [if_neg (by rw [h11]; decide)]; exact ⟨rfl, rfl⟩⟩
theorem r_give {X : Nat × (Nat → Int32)} {M : ng_M} {b : Int32} {n : Nat} (h : ng_ok (M 74)) (hn : M 74 1 = nI n) (hn8 : n ≤ 8) : ng_EvI X 4 mi_X9_give [.ref 73, .int b] M (fun r M1 => if ng_in b 0 (M 74 1 - 1) then (if M 74 5 = 0 then (r = -1000000003 ∧ M1 = ng_rfl M 3) else (r = ng_min 9999 (M 74 (24 + 4 * b.toNatClampNeg) + 1) ∧ M1 = ng_row M 74 (ng_gv (M 74) b.toNatClampNeg))) else (r = -1000000001 ∧ M1 = ng_rfl M 1)) := by
  refine ng_EvI.of (lv := [some (.ref 73), some (.int b)]) (ty := .int) (by decide) (Nat.le_of_ble_eq_true rfl) rfl rfl (fun _ _ _ => rfl) ?_
  refine ng_aload_0 dX9_give_0 ?_
  refine ng_iload_1 dX9_give_1 ?_
  refine ng_callV_1x (y2 := mi_X9_is) dX9_give_2 lk_X9_105 ms_X9_is my_X9_is (by first | exact ⟨_, rfl⟩ | assumption | exact ng_fld_obj (f := 0) (by assumption)) mc_X9 (by first | decide | exact Nat.le_of_ble_eq_true rfl) (s_X9_is) (by decide) ?_
  refine ng_ifb_ne 15 dX9_give_5 (by decide +kernel) (fun h5 => ?_) (fun h5 => ?_)
  · refine ng_aload_0 dX9_give_15 ?_
    refine ng_gR dX9_give_16 fl_X9_9 (by first | rfl | assumption) ?_
    refine ng_iconst_5 dX9_give_19 ?_
    refine ng_ialdL (j := 5) dX9_give_20 (by first | rfl | assumption) (by first | assumption | (unfold vp_in; decide)) (by decide) ?_
    refine ng_if_ne 33 dX9_give_21 (by decide +kernel) (fun h21 => ?_) (fun h21 => ?_)
    · obtain ⟨q1, q2, q3⟩ := ng_vp_n h5 hn hn8
      refine ng_aload_0 dX9_give_33 ?_
      refine ng_iload_1 dX9_give_34 ?_
      refine ng_callV_1x (y2 := mi_X9_gives) dX9_give_35 lk_X9_223 ms_X9_gives my_X9_gives (by first | exact ⟨_, rfl⟩ | assumption | exact ng_fld_obj (f := 0) (by assumption)) mc_X9 (by first | decide | exact Nat.le_of_ble_eq_true rfl) (s_X9_gives h.wfr.2 q3 (by omega)) (by decide) ?_
      exact ng_ireturn dX9_give_38 ⟨_, rfl, by first | (rw [if_pos h5, if_pos h21]; exact ⟨rfl, rfl⟩) | (rw [if_pos h5, if_neg h21]; exact ⟨rfl, rfl⟩)⟩
    · refine ng_aload_0 dX9_give_24 ?_
      refine ng_ldc dX9_give_25 kc_X9_218 ?_
      refine ng_callV_1x (y2 := mi_X9_finding) dX9_give_27 lk_X9_92 ms_X9_finding my_X9_finding (by first | exact ⟨_, rfl⟩ | assumption | exact ng_fld_obj (f := 0) (by assumption)) mc_X9 (by first | decide | exact Nat.le_of_ble_eq_true rfl) (s_X9_finding (k := 3) (by decide) (by decide) (by decide)) (by decide) ?_
      refine ng_goto 38 dX9_give_30 (by decide +kernel) ?_
      exact ng_ireturn dX9_give_38 ⟨_, rfl, by first | (rw [if_pos h5, if_pos h21]; exact ⟨rfl, rfl⟩) | (rw [if_pos h5, if_neg h21]; exact ⟨rfl, rfl⟩)⟩
  · refine ng_aload_0 dX9_give_8 ?_
    refine ng_ldc dX9_give_9 kc_X9_91 ?_
    refine ng_callV_1x (y2 := mi_X9_finding) dX9_give_11 lk_X9_92 ms_X9_finding my_X9_finding (by first | exact ⟨_, rfl⟩ | assumption | exact ng_fld_obj (f := 0) (by assumption)) mc_X9 (by first | decide | exact Nat.le_of_ble_eq_true rfl) (s_X9_finding (k := 1) (by decide) (by decide) (by decide)) (by decide) ?_
    exact ng_ireturn dX9_give_14 ⟨_, rfl, by rw [if_neg (by rw [h5]; decide)]; exact ⟨rfl, rfl⟩⟩
theorem ng_ok_gv {a : ng_R} {i : Nat} (h : ng_ok a) (hi : i < 8) (h5 : ¬ a 5 = 0) : ng_ok (ng_gv a i) := by
  have b5 := h.wfr.2.2.2.2.2.2.1
  have b3 := h.wfr.2.2.2.2.1
  have bh := (h.wfr.2.2.1 i hi).2.2.2
  have n5 := ng_neI h5 ng_0
  have e := ng_b_ha i hi
  unfold ng_gv
  refine ((h.upd (by omega) ?_ ?_).upd (by decide) ?_ ?_).upd (by decide) ?_ ?_
  · rw [e.1, ng_minI, ng_9999, ng_addI (by rw [ng_1]; omega) (by rw [ng_1]; omega), ng_1]; omega
  · rw [e.2, ng_minI, ng_9999]; omega
  · rw [ng_subI (by rw [ng_1]; omega) (by rw [ng_1]; omega), ng_1]; show (0 : Int) ≤ _; omega
  · rw [ng_subI (by rw [ng_1]; omega) (by rw [ng_1]; omega), ng_1]; show _ ≤ (60 : Int); omega
  · show (0 : Int) ≤ _
    split
    · rw [ng_minI, ng_12, ng_addI (by rw [ng_1]; omega) (by rw [ng_1]; omega), ng_1]; omega
    · exact b3.1
  · show _ ≤ (12 : Int)
    split
    · rw [ng_minI, ng_12]; omega
    · exact b3.2
theorem ng_gv_hi {a : ng_R} {i k : Nat} (h : k ≠ 3) (h5 : k ≠ 5) (hk : k ≠ 24 + 4 * i) : ng_gv a i k = a k := by
  unfold ng_gv
  rw [ng_upd_ne h, ng_upd_ne h5, ng_upd_ne hk]
theorem pr_give {X : Nat × (Nat → Int32)} {M : ng_M} {b : Int32} (h : ng_inv M) : ng_pair X mi_X8_give mi_X9_give [.int b] M := by
  have hI := h.1.1.rl
  obtain ⟨n, hn, hn8⟩ := h.1.2.wfr.1.1.1
  refine ((c_give h.1 (hI.1.2.2.1.trans hn) hn8).up (by decide)).imp (fun r1 M1 h1 => ?_)
  have e5 : M 15 6 = M 74 5 := hI.2.1.2.2.2.2.1
  rw [hI.1.2.2.1, e5] at h1
  by_cases hin : ng_in b 0 (M 74 1 - 1) = true
  · rw [if_pos hin] at h1
    by_cases h5 : M 74 5 = 0
    · rw [if_pos h5] at h1
      obtain ⟨e1, e2⟩ := h1
      subst r1
      subst M1
      refine ((r_give (M := ng_cfl M 3) h.1.2 hn hn8).up (by decide)).imp (fun r2 M2 h2 => ?_)
      rw [if_pos (by exact hin), if_pos (by exact h5)] at h2
      rw [h2.1, h2.2]
      exact ⟨rfl, ng_inv_err h⟩
    · rw [if_neg h5] at h1
      obtain ⟨e1, e2, e3⟩ := h1
      have e74 : M1 74 = M 74 := e2 74 (by decide)
      refine ((r_give (M := M1) (by rw [e74]; exact h.1.2) (by rw [e74]; exact hn) hn8).up (by decide)).imp (fun r2 M2 h2 => ?_)
      rw [e74, if_pos hin, if_neg h5] at h2
      rw [h2.1, h2.2, e1]
      have hi : b.toNatClampNeg < 8 := by have := (ng_vp_n hin hn hn8).2.1; omega
      refine ⟨rfl, ng_inv_new h (ng_rep.mk (hI.1.kept (fun k hk => e2 k (by simp at hk ⊢; omega)) (fun k hk => ng_gv_hi (by omega) (by omega) (by omega))) e3 ?_ ?_ ?_ ?_ (fun j hj => ?_) (fun j hj => ?_)) (ng_ok_gv h.1.2 hi h5) (fun k hk => e2 k (by simp; omega))⟩
      · rw [e2 1 (by decide), ng_gv_hi (by omega) (by omega) (by omega)]; exact hI.2.2.1
      · rw [e2 1 (by decide), ng_gv_hi (by omega) (by omega) (by omega)]; exact hI.2.2.2.1
      · rw [e2 1 (by decide), ng_gv_hi (by omega) (by omega) (by omega)]; exact hI.2.2.2.2.1
      · rw [e2 1 (by decide), ng_gv_hi (by omega) (by omega) (by omega)]; exact hI.2.2.2.2.2.1
      · rw [e2 18 (by decide), ng_gv_hi (by omega) (by omega) (by omega)]; exact hI.2.2.2.2.2.2.1 j hj
      · rw [e2 19 (by decide), ng_gv_hi (by omega) (by omega) (by omega)]; exact hI.2.2.2.2.2.2.2 j hj
  · rw [if_neg hin] at h1
    obtain ⟨e1, e2⟩ := h1
    subst r1
    subst M1
    refine ((r_give (M := ng_cfl M 1) h.1.2 hn hn8).up (by decide)).imp (fun r2 M2 h2 => ?_)
    rw [if_neg (by exact hin)] at h2
    rw [h2.1, h2.2]
    exact ⟨rfl, ng_inv_err h⟩
