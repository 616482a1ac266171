theorem sw_X9_body_16 {X : Nat × (Nat → Int32)} {d : Nat} {lv : ng_L} {st : List Value} {M : ng_M} {F : Option Value → ng_M → Prop} {x : Int32} (k0 : x = 0 → ng_Go X mi_X9_body d 140 lv st M F) (k1 : x = 1 → ng_Go X mi_X9_body d 153 lv st M F) (k2 : x = 2 → ng_Go X mi_X9_body d 168 lv st M F) (k3 : x = 3 → ng_Go X mi_X9_body d 179 lv st M F) (k4 : x = 4 → ng_Go X mi_X9_body d 336 lv st M F) (k5 : x = 5 → ng_Go X mi_X9_body d 203 lv st M F) (k6 : x = 6 → ng_Go X mi_X9_body d 336 lv st M F) (k7 : x = 7 → ng_Go X mi_X9_body d 336 lv st M F) (k8 : x = 8 → ng_Go X mi_X9_body d 228 lv st M F) (k9 : x = 9 → ng_Go X mi_X9_body d 336 lv st M F) (k10 : x = 10 → ng_Go X mi_X9_body d 336 lv st M F) (k11 : x = 11 → ng_Go X mi_X9_body d 336 lv st M F) (k12 : x = 12 → ng_Go X mi_X9_body d 336 lv st M F) (k13 : x = 13 → ng_Go X mi_X9_body d 336 lv st M F) (k14 : x = 14 → ng_Go X mi_X9_body d 244 lv st M F) (k15 : x = 15 → ng_Go X mi_X9_body d 336 lv st M F) (k16 : x = 16 → ng_Go X mi_X9_body d 259 lv st M F) (k17 : x = 17 → ng_Go X mi_X9_body d 336 lv st M F) (k18 : x = 18 → ng_Go X mi_X9_body d 336 lv st M F) (k19 : x = 19 → ng_Go X mi_X9_body d 275 lv st M F) (k20 : x = 20 → ng_Go X mi_X9_body d 336 lv st M F) (k21 : x = 21 → ng_Go X mi_X9_body d 300 lv st M F) (k22 : x = 22 → ng_Go X mi_X9_body d 336 lv st M F) (k23 : x = 23 → ng_Go X mi_X9_body d 336 lv st M F) (k24 : x = 24 → ng_Go X mi_X9_body d 336 lv st M F) (k25 : x = 25 → ng_Go X mi_X9_body d 336 lv st M F) (k26 : x = 26 → ng_Go X mi_X9_body d 319 lv st M F) (kd : ¬ x = 0 → ¬ x = 1 → ¬ x = 2 → ¬ x = 3 → ¬ x = 4 → ¬ x = 5 → ¬ x = 6 → ¬ x = 7 → ¬ x = 8 → ¬ x = 9 → ¬ x = 10 → ¬ x = 11 → ¬ x = 12 → ¬ x = 13 → ¬ x = 14 → ¬ x = 15 → ¬ x = 16 → ¬ x = 17 → ¬ x = 18 → ¬ x = 19 → ¬ x = 20 → ¬ x = 21 → ¬ x = 22 → ¬ x = 23 → ¬ x = 24 → ¬ x = 25 → ¬ x = 26 → ng_Go X mi_X9_body d 336 lv st M F) : ng_Go X mi_X9_body d 16 lv (.int x :: st) M F := by
  by_cases h0 : x = 0
  · subst h0
    intro l D cA ad A p e R s m args below meth c cells slots Q C fin H locs ls hP hS hl
    exact lv_tableIn (tgt := 140) (off := 124) C.1.1 C.1.2.1 dX9_body_16 (by decide) (by decide) (by decide +kernel) (by decide) (k0 rfl l D cA ad A p e R s m args below meth c cells slots Q C fin H locs ls hP hS hl)
  by_cases h1 : x = 1
  · subst h1
    intro l D cA ad A p e R s m args below meth c cells slots Q C fin H locs ls hP hS hl
    exact lv_tableIn (tgt := 153) (off := 137) C.1.1 C.1.2.1 dX9_body_16 (by decide) (by decide) (by decide +kernel) (by decide) (k1 rfl l D cA ad A p e R s m args below meth c cells slots Q C fin H locs ls hP hS hl)
  by_cases h2 : x = 2
  · subst h2
    intro l D cA ad A p e R s m args below meth c cells slots Q C fin H locs ls hP hS hl
    exact lv_tableIn (tgt := 168) (off := 152) C.1.1 C.1.2.1 dX9_body_16 (by decide) (by decide) (by decide +kernel) (by decide) (k2 rfl l D cA ad A p e R s m args below meth c cells slots Q C fin H locs ls hP hS hl)
  by_cases h3 : x = 3
  · subst h3
    intro l D cA ad A p e R s m args below meth c cells slots Q C fin H locs ls hP hS hl
    exact lv_tableIn (tgt := 179) (off := 163) C.1.1 C.1.2.1 dX9_body_16 (by decide) (by decide) (by decide +kernel) (by decide) (k3 rfl l D cA ad A p e R s m args below meth c cells slots Q C fin H locs ls hP hS hl)
  by_cases h4 : x = 4
  · subst h4
    intro l D cA ad A p e R s m args below meth c cells slots Q C fin H locs ls hP hS hl
    exact lv_tableIn (tgt := 336) (off := 320) C.1.1 C.1.2.1 dX9_body_16 (by decide) (by decide) (by decide +kernel) (by decide) (k4 rfl l D cA ad A p e R s m args below meth c cells slots Q C fin H locs ls hP hS hl)
  by_cases h5 : x = 5
  · subst h5
    intro l D cA ad A p e R s m args below meth c cells slots Q C fin H locs ls hP hS hl
    exact lv_tableIn (tgt := 203) (off := 187) C.1.1 C.1.2.1 dX9_body_16 (by decide) (by decide) (by decide +kernel) (by decide) (k5 rfl l D cA ad A p e R s m args below meth c cells slots Q C fin H locs ls hP hS hl)
  by_cases h6 : x = 6
  · subst h6
    intro l D cA ad A p e R s m args below meth c cells slots Q C fin H locs ls hP hS hl
    exact lv_tableIn (tgt := 336) (off := 320) C.1.1 C.1.2.1 dX9_body_16 (by decide) (by decide) (by decide +kernel) (by decide) (k6 rfl l D cA ad A p e R s m args below meth c cells slots Q C fin H locs ls hP hS hl)
  by_cases h7 : x = 7
  · subst h7
    intro l D cA ad A p e R s m args below meth c cells slots Q C fin H locs ls hP hS hl
    exact lv_tableIn (tgt := 336) (off := 320) C.1.1 C.1.2.1 dX9_body_16 (by decide) (by decide) (by decide +kernel) (by decide) (k7 rfl l D cA ad A p e R s m args below meth c cells slots Q C fin H locs ls hP hS hl)
  by_cases h8 : x = 8
  · subst h8
    intro l D cA ad A p e R s m args below meth c cells slots Q C fin H locs ls hP hS hl
    exact lv_tableIn (tgt := 228) (off := 212) C.1.1 C.1.2.1 dX9_body_16 (by decide) (by decide) (by decide +kernel) (by decide) (k8 rfl l D cA ad A p e R s m args below meth c cells slots Q C fin H locs ls hP hS hl)
  by_cases h9 : x = 9
  · subst h9
    intro l D cA ad A p e R s m args below meth c cells slots Q C fin H locs ls hP hS hl
    exact lv_tableIn (tgt := 336) (off := 320) C.1.1 C.1.2.1 dX9_body_16 (by decide) (by decide) (by decide +kernel) (by decide) (k9 rfl l D cA ad A p e R s m args below meth c cells slots Q C fin H locs ls hP hS hl)
  by_cases h10 : x = 10
  · subst h10
    intro l D cA ad A p e R s m args below meth c cells slots Q C fin H locs ls hP hS hl
    exact lv_tableIn (tgt := 336) (off := 320) C.1.1 C.1.2.1 dX9_body_16 (by decide) (by decide) (by decide +kernel) (by decide) (k10 rfl l D cA ad A p e R s m args below meth c cells slots Q C fin H locs ls hP hS hl)
  by_cases h11 : x = 11
  · subst h11
    intro l D cA ad A p e R s m args below meth c cells slots Q C fin H locs ls hP hS hl
    exact lv_tableIn (tgt := 336) (off := 320) C.1.1 C.1.2.1 dX9_body_16 (by decide) (by decide) (by decide +kernel) (by decide) (k11 rfl l D cA ad A p e R s m args below meth c cells slots Q C fin H locs ls hP hS hl)
  by_cases h12 : x = 12
  · subst h12
    intro l D cA ad A p e R s m args below meth c cells slots Q C fin H locs ls hP hS hl
    exact lv_tableIn (tgt := 336) (off := 320) C.1.1 C.1.2.1 dX9_body_16 (by decide) (by decide) (by decide +kernel) (by decide) (k12 rfl l D cA ad A p e R s m args below meth c cells slots Q C fin H locs ls hP hS hl)
  by_cases h13 : x = 13
  · subst h13
    intro l D cA ad A p e R s m args below meth c cells slots Q C fin H locs ls hP hS hl
    exact lv_tableIn (tgt := 336) (off := 320) C.1.1 C.1.2.1 dX9_body_16 (by decide) (by decide) (by decide +kernel) (by decide) (k13 rfl l D cA ad A p e R s m args below meth c cells slots Q C fin H locs ls hP hS hl)
  by_cases h14 : x = 14
  · subst h14
    intro l D cA ad A p e R s m args below meth c cells slots Q C fin H locs ls hP hS hl
    exact lv_tableIn (tgt := 244) (off := 228) C.1.1 C.1.2.1 dX9_body_16 (by decide) (by decide) (by decide +kernel) (by decide) (k14 rfl l D cA ad A p e R s m args below meth c cells slots Q C fin H locs ls hP hS hl)
  by_cases h15 : x = 15
  · subst h15
    intro l D cA ad A p e R s m args below meth c cells slots Q C fin H locs ls hP hS hl
    exact lv_tableIn (tgt := 336) (off := 320) C.1.1 C.1.2.1 dX9_body_16 (by decide) (by decide) (by decide +kernel) (by decide) (k15 rfl l D cA ad A p e R s m args below meth c cells slots Q C fin H locs ls hP hS hl)
  by_cases h16 : x = 16
  · subst h16
    intro l D cA ad A p e R s m args below meth c cells slots Q C fin H locs ls hP hS hl
    exact lv_tableIn (tgt := 259) (off := 243) C.1.1 C.1.2.1 dX9_body_16 (by decide) (by decide) (by decide +kernel) (by decide) (k16 rfl l D cA ad A p e R s m args below meth c cells slots Q C fin H locs ls hP hS hl)
  by_cases h17 : x = 17
  · subst h17
    intro l D cA ad A p e R s m args below meth c cells slots Q C fin H locs ls hP hS hl
    exact lv_tableIn (tgt := 336) (off := 320) C.1.1 C.1.2.1 dX9_body_16 (by decide) (by decide) (by decide +kernel) (by decide) (k17 rfl l D cA ad A p e R s m args below meth c cells slots Q C fin H locs ls hP hS hl)
  by_cases h18 : x = 18
  · subst h18
    intro l D cA ad A p e R s m args below meth c cells slots Q C fin H locs ls hP hS hl
    exact lv_tableIn (tgt := 336) (off := 320) C.1.1 C.1.2.1 dX9_body_16 (by decide) (by decide) (by decide +kernel) (by decide) (k18 rfl l D cA ad A p e R s m args below meth c cells slots Q C fin H locs ls hP hS hl)
  by_cases h19 : x = 19
  · subst h19
    intro l D cA ad A p e R s m args below meth c cells slots Q C fin H locs ls hP hS hl
    exact lv_tableIn (tgt := 275) (off := 259) C.1.1 C.1.2.1 dX9_body_16 (by decide) (by decide) (by decide +kernel) (by decide) (k19 rfl l D cA ad A p e R s m args below meth c cells slots Q C fin H locs ls hP hS hl)
  by_cases h20 : x = 20
  · subst h20
    intro l D cA ad A p e R s m args below meth c cells slots Q C fin H locs ls hP hS hl
    exact lv_tableIn (tgt := 336) (off := 320) C.1.1 C.1.2.1 dX9_body_16 (by decide) (by decide) (by decide +kernel) (by decide) (k20 rfl l D cA ad A p e R s m args below meth c cells slots Q C fin H locs ls hP hS hl)
  by_cases h21 : x = 21
  · subst h21
    intro l D cA ad A p e R s m args below meth c cells slots Q C fin H locs ls hP hS hl
    exact lv_tableIn (tgt := 300) (off := 284) C.1.1 C.1.2.1 dX9_body_16 (by decide) (by decide) (by decide +kernel) (by decide) (k21 rfl l D cA ad A p e R s m args below meth c cells slots Q C fin H locs ls hP hS hl)
  by_cases h22 : x = 22
  · subst h22
    intro l D cA ad A p e R s m args below meth c cells slots Q C fin H locs ls hP hS hl
    exact lv_tableIn (tgt := 336) (off := 320) C.1.1 C.1.2.1 dX9_body_16 (by decide) (by decide) (by decide +kernel) (by decide) (k22 rfl l D cA ad A p e R s m args below meth c cells slots Q C fin H locs ls hP hS hl)
  by_cases h23 : x = 23
  · subst h23
    intro l D cA ad A p e R s m args below meth c cells slots Q C fin H locs ls hP hS hl
    exact lv_tableIn (tgt := 336) (off := 320) C.1.1 C.1.2.1 dX9_body_16 (by decide) (by decide) (by decide +kernel) (by decide) (k23 rfl l D cA ad A p e R s m args below meth c cells slots Q C fin H locs ls hP hS hl)
  by_cases h24 : x = 24
  · subst h24
    intro l D cA ad A p e R s m args below meth c cells slots Q C fin H locs ls hP hS hl
    exact lv_tableIn (tgt := 336) (off := 320) C.1.1 C.1.2.1 dX9_body_16 (by decide) (by decide) (by decide +kernel) (by decide) (k24 rfl l D cA ad A p e R s m args below meth c cells slots Q C fin H locs ls hP hS hl)
  by_cases h25 : x = 25
  · subst h25
    intro l D cA ad A p e R s m args below meth c cells slots Q C fin H locs ls hP hS hl
    exact lv_tableIn (tgt := 336) (off := 320) C.1.1 C.1.2.1 dX9_body_16 (by decide) (by decide) (by decide +kernel) (by decide) (k25 rfl l D cA ad A p e R s m args below meth c cells slots Q C fin H locs ls hP hS hl)
  by_cases h26 : x = 26
  · subst h26
    intro l D cA ad A p e R s m args below meth c cells slots Q C fin H locs ls hP hS hl
    exact lv_tableIn (tgt := 319) (off := 303) C.1.1 C.1.2.1 dX9_body_16 (by decide) (by decide) (by decide +kernel) (by decide) (k26 rfl l D cA ad A p e R s m args below meth c cells slots Q C fin H locs ls hP hS hl)
  intro l D cA ad A p e R s m args below meth c cells slots Q C fin H locs ls hP hS hl
  have g0 := lv_neT h0 (show (0 : Int32).toInt = 0 from by decide)
  have g1 := lv_neT h1 (show (1 : Int32).toInt = 1 from by decide)
  have g2 := lv_neT h2 (show (2 : Int32).toInt = 2 from by decide)
  have g3 := lv_neT h3 (show (3 : Int32).toInt = 3 from by decide)
  have g4 := lv_neT h4 (show (4 : Int32).toInt = 4 from by decide)
  have g5 := lv_neT h5 (show (5 : Int32).toInt = 5 from by decide)
  have g6 := lv_neT h6 (show (6 : Int32).toInt = 6 from by decide)
  have g7 := lv_neT h7 (show (7 : Int32).toInt = 7 from by decide)
  have g8 := lv_neT h8 (show (8 : Int32).toInt = 8 from by decide)
  have g9 := lv_neT h9 (show (9 : Int32).toInt = 9 from by decide)
  have g10 := lv_neT h10 (show (10 : Int32).toInt = 10 from by decide)
  have g11 := lv_neT h11 (show (11 : Int32).toInt = 11 from by decide)
  have g12 := lv_neT h12 (show (12 : Int32).toInt = 12 from by decide)
  have g13 := lv_neT h13 (show (13 : Int32).toInt = 13 from by decide)
  have g14 := lv_neT h14 (show (14 : Int32).toInt = 14 from by decide)
  have g15 := lv_neT h15 (show (15 : Int32).toInt = 15 from by decide)
  have g16 := lv_neT h16 (show (16 : Int32).toInt = 16 from by decide)
  have g17 := lv_neT h17 (show (17 : Int32).toInt = 17 from by decide)
  have g18 := lv_neT h18 (show (18 : Int32).toInt = 18 from by decide)
  have g19 := lv_neT h19 (show (19 : Int32).toInt = 19 from by decide)
  have g20 := lv_neT h20 (show (20 : Int32).toInt = 20 from by decide)
  have g21 := lv_neT h21 (show (21 : Int32).toInt = 21 from by decide)
  have g22 := lv_neT h22 (show (22 : Int32).toInt = 22 from by decide)
  have g23 := lv_neT h23 (show (23 : Int32).toInt = 23 from by decide)
  have g24 := lv_neT h24 (show (24 : Int32).toInt = 24 from by decide)
  have g25 := lv_neT h25 (show (25 : Int32).toInt = 25 from by decide)
  have g26 := lv_neT h26 (show (26 : Int32).toInt = 26 from by decide)
  exact lv_tableOut (tgt := 336) C.1.1 C.1.2.1 dX9_body_16 (by omega) (by decide) (kd h0 h1 h2 h3 h4 h5 h6 h7 h8 h9 h10 h11 h12 h13 h14 h15 h16 h17 h18 h19 h20 h21 h22 h23 h24 h25 h26 l D cA ad A p e R s m args below meth c cells slots Q C fin H locs ls hP hS hl)
/-! ===== pair: voice; the reference ===== -/
def ng_ho (k a : Int32) : Bool := if k = 0 then true else if k = 1 then decide (a = 1) else if k = 2 then decide (a = 0) else if k = 3 then decide (a = 2) else if k = 4 then (decide (a = 0) || decide (a = 3)) else if k = 5 then decide (a = 1) else (decide (a = 2) || decide (a = 3))
theorem s_X9_hasOwn {X : Nat × (Nat → Int32)} {M : ng_M} {k a : Int32} : ng_EvX X 1 mi_X9_hasOwn [.int k, .int a] M (some (.int (ng_bi (ng_ho k a)))) M := by
  refine ng_EvX.ofI (lv := [some (.int k), some (.int a)]) (ty := .boolean) (by decide) (Nat.le_of_ble_eq_true rfl) rfl rfl (ng_bi_nar _) ?_
  refine ng_iload_0 dX9_hasOwn_0 ?_
  refine sw_X9_hasOwn_1 (fun h1 => ?_) (fun h1 => ?_) (fun h1 => ?_) (fun h1 => ?_) (fun h1 => ?_) (fun h1 => ?_) (fun h1n0 h1n1 h1n2 h1n3 h1n4 h1n5 => ?_)
  · refine ng_iconst_1 dX9_hasOwn_40 ?_
    exact ng_ireturn dX9_hasOwn_41 ⟨by simp_all [ng_ho, ng_bi], rfl⟩
  · refine ng_iload_1 dX9_hasOwn_42 ?_
    refine ng_iconst_1 dX9_hasOwn_43 ?_
    refine ng_icmp_ne 51 dX9_hasOwn_44 (by decide +kernel) (fun h44 => ?_) (fun h44 => ?_)
    · refine ng_iconst_0 dX9_hasOwn_51 ?_
      exact ng_ireturn dX9_hasOwn_52 ⟨by simp_all [ng_ho, ng_bi], rfl⟩
    · refine ng_iconst_1 dX9_hasOwn_47 ?_
      refine ng_goto 52 dX9_hasOwn_48 (by decide +kernel) ?_
      exact ng_ireturn dX9_hasOwn_52 ⟨by simp_all [ng_ho, ng_bi], rfl⟩
  · refine ng_iload_1 dX9_hasOwn_53 ?_
    refine ng_if_ne 61 dX9_hasOwn_54 (by decide +kernel) (fun h54 => ?_) (fun h54 => ?_)
    · refine ng_iconst_0 dX9_hasOwn_61 ?_
      exact ng_ireturn dX9_hasOwn_62 ⟨by simp_all [ng_ho, ng_bi], rfl⟩
    · refine ng_iconst_1 dX9_hasOwn_57 ?_
      refine ng_goto 62 dX9_hasOwn_58 (by decide +kernel) ?_
      exact ng_ireturn dX9_hasOwn_62 ⟨by simp_all [ng_ho, ng_bi], rfl⟩
  · refine ng_iload_1 dX9_hasOwn_63 ?_
    refine ng_iconst_2 dX9_hasOwn_64 ?_
    refine ng_icmp_ne 72 dX9_hasOwn_65 (by decide +kernel) (fun h65 => ?_) (fun h65 => ?_)
    · refine ng_iconst_0 dX9_hasOwn_72 ?_
      exact ng_ireturn dX9_hasOwn_73 ⟨by simp_all [ng_ho, ng_bi], rfl⟩
    · refine ng_iconst_1 dX9_hasOwn_68 ?_
      refine ng_goto 73 dX9_hasOwn_69 (by decide +kernel) ?_
      exact ng_ireturn dX9_hasOwn_73 ⟨by simp_all [ng_ho, ng_bi], rfl⟩
  · refine ng_iload_1 dX9_hasOwn_74 ?_
    refine ng_if_eq 83 dX9_hasOwn_75 (by decide +kernel) (fun h75 => ?_) (fun h75 => ?_)
    · refine ng_iconst_1 dX9_hasOwn_83 ?_
      refine ng_goto 88 dX9_hasOwn_84 (by decide +kernel) ?_
      exact ng_ireturn dX9_hasOwn_88 ⟨by simp_all [ng_ho, ng_bi], rfl⟩
    · refine ng_iload_1 dX9_hasOwn_78 ?_
      refine ng_iconst_3 dX9_hasOwn_79 ?_
      refine ng_icmp_ne 87 dX9_hasOwn_80 (by decide +kernel) (fun h80 => ?_) (fun h80 => ?_)
      · refine ng_iconst_0 dX9_hasOwn_87 ?_
        exact ng_ireturn dX9_hasOwn_88 ⟨by simp_all [ng_ho, ng_bi], rfl⟩
      · refine ng_iconst_1 dX9_hasOwn_83 ?_
        refine ng_goto 88 dX9_hasOwn_84 (by decide +kernel) ?_
        exact ng_ireturn dX9_hasOwn_88 ⟨by simp_all [ng_ho, ng_bi], rfl⟩
  · refine ng_iload_1 dX9_hasOwn_42 ?_
    refine ng_iconst_1 dX9_hasOwn_43 ?_
    refine ng_icmp_ne 51 dX9_hasOwn_44 (by decide +kernel) (fun h44 => ?_) (fun h44 => ?_)
    · refine ng_iconst_0 dX9_hasOwn_51 ?_
      exact ng_ireturn dX9_hasOwn_52 ⟨by simp_all [ng_ho, ng_bi], rfl⟩
    · refine ng_iconst_1 dX9_hasOwn_47 ?_
      refine ng_goto 52 dX9_hasOwn_48 (by decide +kernel) ?_
      exact ng_ireturn dX9_hasOwn_52 ⟨by simp_all [ng_ho, ng_bi], rfl⟩
  · refine ng_iload_1 dX9_hasOwn_89 ?_
    refine ng_iconst_2 dX9_hasOwn_90 ?_
    refine ng_icmp_eq 99 dX9_hasOwn_91 (by decide +kernel) (fun h91 => ?_) (fun h91 => ?_)
    · refine ng_iconst_1 dX9_hasOwn_99 ?_
      refine ng_goto 104 dX9_hasOwn_100 (by decide +kernel) ?_
      exact ng_ireturn dX9_hasOwn_104 ⟨by simp_all [ng_ho, ng_bi], rfl⟩
    · refine ng_iload_1 dX9_hasOwn_94 ?_
      refine ng_iconst_3 dX9_hasOwn_95 ?_
      refine ng_icmp_ne 103 dX9_hasOwn_96 (by decide +kernel) (fun h96 => ?_) (fun h96 => ?_)
      · refine ng_iconst_0 dX9_hasOwn_103 ?_
        exact ng_ireturn dX9_hasOwn_104 ⟨by simp_all [ng_ho, ng_bi], rfl⟩
      · refine ng_iconst_1 dX9_hasOwn_99 ?_
        refine ng_goto 104 dX9_hasOwn_100 (by decide +kernel) ?_
        exact ng_ireturn dX9_hasOwn_104 ⟨by simp_all [ng_ho, ng_bi], rfl⟩
def ng_hkO : Nat → Int32 → Int32 → Option Int32
  | 0, _, _ => none
  | n + 1, k, a => if ng_ho k a then some k else ng_hkO n (ng_abR k) a
def ng_rp (M : ng_M) (b : Int32) : ng_M := if M 73 19 < 40 then ng_row (ng_row M 85 (upd (M 85) (M 73 19).toNatClampNeg b)) 73 (upd (M 73) 19 (M 73 19 + 1)) else M
def ng_rps (M : ng_M) (l : List Int32) : ng_M := l.foldl ng_rp M
theorem ng_rps_app {M : ng_M} {l k : List Int32} : ng_rps (ng_rps M l) k = ng_rps M (l ++ k) := (List.foldl_append).symm
theorem ng_rps_cons {M : ng_M} {b : Int32} {l : List Int32} : ng_rps (ng_rp M b) l = ng_rps M (b :: l) := rfl
def ng_vd (K : Int32) (S : Nat) (O : Int32) (M : ng_M) : Prop := (∃ n, M 73 19 = nI n ∧ n ≤ 40) ∧ M 73 20 = nI S ∧ M 74 (21 + 4 * S) = K ∧ M 74 (23 + 4 * S) = O
theorem ng_vd.rp {K O : Int32} {S : Nat} {M : ng_M} (h : ng_vd K S O M) (b : Int32) : ng_vd K S O (ng_rp M b) := by
  obtain ⟨⟨n, h1, h2⟩, h3, h4, h5⟩ := h
  unfold ng_rp
  by_cases q : M 73 19 < 40
  · rw [if_pos q]
    rw [h1, ng_lt40 h2] at q
    refine ⟨⟨n + 1, by rw [ng_row_eq, ng_upd_eq, h1, nI_1], by omega⟩, ?_, ?_, ?_⟩
    · rw [ng_row_eq, ng_upd_ne (by decide)]; exact h3
    · rw [ng_row_ne (by decide), ng_row_ne (by decide)]; exact h4
    · rw [ng_row_ne (by decide), ng_row_ne (by decide)]; exact h5
  · rw [if_neg q]; exact ⟨⟨n, h1, h2⟩, h3, h4, h5⟩
theorem ng_vd.rps {K O : Int32} {S : Nat} : ∀ (l : List Int32) (M : ng_M), ng_vd K S O M → ng_vd K S O (ng_rps M l)
  | [], _, h => h
  | b :: l, M, h => ng_vd.rps l (ng_rp M b) (h.rp b)
theorem s_X9_began {X : Nat × (Nat → Int32)} {M : ng_M} {K O b : Int32} {S : Nat} (h : ng_vd K S O M) : ng_EvX X 1 mi_X9_began [.ref 73, .int b] M none (ng_rp M b) := by
  obtain ⟨⟨n, h1, h2⟩, h3, h4, h5⟩ := h
  refine ng_EvX.ofV (lv := [some (.ref 73), some (.int b)]) (by decide) (Nat.le_of_ble_eq_true rfl) rfl rfl ?_
  refine ng_aload_0 dX9_began_0 ?_
  refine ng_gI dX9_began_1 fl_X9_253 (by first | rfl | assumption) ?_
  refine ng_bipush (v := 40) dX9_began_4 (by decide) ?_
  refine ng_icmp_ge 29 dX9_began_6 (by decide +kernel) (fun h6 => ?_) (fun h6 => ?_)
  · exact ng_return dX9_began_29 ⟨rfl, by rw [ng_rp, if_neg (Int32.not_lt.mpr h6)]⟩
  · have hlt : n < 40 := (ng_lt40 h2).mp (by rw [← h1]; exact Int32.not_le.mp h6)
    refine ng_aload_0 dX9_began_9 ?_
    refine ng_gR dX9_began_10 fl_X9_51 (by first | rfl | assumption) ?_
    refine ng_aload_0 dX9_began_13 ?_
    refine ng_gI dX9_began_14 fl_X9_253 (by first | rfl | assumption) ?_
    refine ng_iload_1 dX9_began_17 ?_
    refine ng_iast dX9_began_18 (by first | rfl | assumption) (by rw [h1]; exact vp_in_nI hlt (by omega)) ?_
    refine ng_aload_0 dX9_began_19 ?_
    refine ng_dup dX9_began_20 rfl ?_
    refine ng_gI dX9_began_21 fl_X9_253 (by first | rfl | assumption) ?_
    refine ng_iconst_1 dX9_began_24 ?_
    refine ng_iadd dX9_began_25 ?_
    refine ng_pI dX9_began_26 fp_X9_253 (by first | rfl | assumption) rfl rfl ?_
    exact ng_return dX9_began_29 ⟨rfl, by rw [ng_rp, if_pos (Int32.not_le.mp h6)]; rfl⟩
/-- a body of the reference that kind k has of its own, r calls deep at most -/
def ng_RB (X : Nat × (Nat → Int32)) (K : Int32) (S : Nat) (O : Int32) (r : Nat) (k a : Int32) : Prop := ∀ (f : Nat) (x : Int32) (M : ng_M), r ≤ f → ng_vd K S O M → ng_EvX X (3 * r) mi_X9_body [.ref 73, .int k, .int a, .int x] M (some (.int (ng_vb K (nI S) O f (ng_bfN 7 k a) x).2)) (ng_rps M (ng_vb K (nI S) O f (ng_bfN 7 k a) x).1)
def ng_BF (X : Nat × (Nat → Int32)) (K : Int32) (S : Nat) (O : Int32) (r : Nat) (k a : Int32) : Prop := ∀ (f : Nat) (x : Int32) (M : ng_M), r ≤ f → ng_vd K S O M → ng_EvX X (3 * r + 1) mi_X9_bodyFrom [.ref 73, .int k, .int a, .int x] M (some (.int (ng_vb K (nI S) O f (ng_bfN 7 k a) x).2)) (ng_rps M (ng_vb K (nI S) O f (ng_bfN 7 k a) x).1)
def ng_VO (X : Nat × (Nat → Int32)) (K : Int32) (S : Nat) (O : Int32) (r : Nat) (a : Int32) : Prop := ∀ (f : Nat) (x : Int32) (M : ng_M), r ≤ f → ng_vd K S O M → ng_EvX X (3 * r + 2) mi_X9_voiced [.ref 73, .int a, .int x] M (some (.int (ng_vb K (nI S) O f (ng_bfN 7 K a) x).2)) (ng_rps M (ng_vb K (nI S) O f (ng_bfN 7 K a) x).1)
theorem ng_RB.le {X : Nat × (Nat → Int32)} {K O k a : Int32} {S r r' : Nat} (h : ng_RB X K S O r k a) (hr : r ≤ r') : ng_RB X K S O r' k a := fun f x M hf hv => ng_Ev.up (h f x M (by omega) hv) (by omega)
theorem l_X9_bodyFrom {X : Nat × (Nat → Int32)} {K O k0 a kb x : Int32} {S r f : Nat} {M : ng_M} (hr : 1 ≤ r) (hB : ng_RB X K S O r kb a) (hf : r ≤ f) (hv : ng_vd K S O M) : ∀ (n : Nat) (k : Int32), ng_hkO n k a = some kb →
    ng_Go X mi_X9_bodyFrom (3 * r + 1) 3 [some (.ref 73), some (.int k0), some (.int a), some (.int x), some (.int k)] [] M (fun r' M' => r' = some (.int (ng_vb K (nI S) O f (ng_bfN 7 kb a) x).2) ∧ M' = ng_rps M (ng_vb K (nI S) O f (ng_bfN 7 kb a) x).1) := by
  intro n
  induction n with
  | zero => intro k h; cases h
  | succ n ih =>
    intro k h
    unfold ng_hkO at h
    refine ng_iload_4 dX9_bodyFrom_3 ?_
    refine ng_iload_2 dX9_bodyFrom_5 ?_
    refine ng_callS_2x (y2 := mi_X9_hasOwn) dX9_bodyFrom_6 lk_X9_262 ms_X9_hasOwn my_X9_hasOwn (by first | decide | exact Nat.le_of_ble_eq_true rfl) (s_X9_hasOwn) (by omega) ?_
    refine ng_ifb_ne 22 dX9_bodyFrom_9 (by decide +kernel) (fun h9 => ?_) (fun h9 => ?_)
    · rw [if_pos h9] at h
      cases h
      refine ng_aload_0 dX9_bodyFrom_22 ?_
      refine ng_iload_4 dX9_bodyFrom_23 ?_
      refine ng_iload_2 dX9_bodyFrom_25 ?_
      refine ng_iload_3 dX9_bodyFrom_26 ?_
      refine ng_callV_3x (y2 := mi_X9_body) dX9_bodyFrom_27 lk_X9_266 ms_X9_body my_X9_body (by first | exact ⟨_, rfl⟩ | assumption | exact ng_fld_obj (f := 0) (by assumption)) mc_X9 (by first | decide | exact Nat.le_of_ble_eq_true rfl) (hB f x M hf hv) (by omega) ?_
      exact ng_ireturn dX9_bodyFrom_30 ⟨rfl, rfl⟩
    · refine ng_iload_4 dX9_bodyFrom_12 ?_
      refine ng_callS_1x (y2 := mi_X9_above) dX9_bodyFrom_14 lk_X9_111 ms_X9_above my_X9_above (by first | decide | exact Nat.le_of_ble_eq_true rfl) (s_X9_above) (by omega) ?_
      refine ng_istore_4 dX9_bodyFrom_17 (by first | rfl | assumption) ?_
      refine ng_goto 3 dX9_bodyFrom_19 (by decide +kernel) ?_
      rw [if_neg (by rw [h9]; decide)] at h
      exact ih _ h
theorem ng_RB.bf {X : Nat × (Nat → Int32)} {K O k a kb : Int32} {S r : Nat} (hr : 1 ≤ r) (hB : ng_RB X K S O r kb a) (h1 : ng_hkO 4 k a = some kb) (h2 : ng_bfN 7 k a = ng_bfN 7 kb a) : ng_BF X K S O r k a := by
  intro f x M hf hv
  rw [h2]
  refine ng_EvX.ofI (lv := [some (.ref 73), some (.int k), some (.int a), some (.int x), none]) (ty := .int) (by decide) (Nat.le_of_ble_eq_true rfl) rfl rfl rfl ?_
  refine ng_iload_1 dX9_bodyFrom_0 ?_
  refine ng_istore_4 dX9_bodyFrom_1 (by first | rfl | assumption) ?_
  exact l_X9_bodyFrom hr hB hf hv 4 k h1
theorem ng_BF.vo {X : Nat × (Nat → Int32)} {K O a : Int32} {S r : Nat} (hS : S < 8) (h : ng_BF X K S O r K a) : ng_VO X K S O r a := by
  intro f x M hf hv
  obtain ⟨g1, g2, g3, g4⟩ := id hv
  refine ng_EvX.ofI (lv := [some (.ref 73), some (.int a), some (.int x)]) (ty := .int) (by decide) (Nat.le_of_ble_eq_true rfl) rfl rfl rfl ?_
  refine ng_aload_0 dX9_voiced_0 ?_
  refine ng_aload_0 dX9_voiced_1 ?_
  refine ng_aload_0 dX9_voiced_2 ?_
  refine ng_gI dX9_voiced_3 fl_X9_256 (by first | rfl | assumption) ?_
  refine ng_iconst_0 dX9_voiced_6 ?_
  refine ng_callV_2x (y2 := mi_X9_of) dX9_voiced_7 lk_X9_108 ms_X9_of my_X9_of (by first | exact ⟨_, rfl⟩ | assumption | exact ng_fld_obj (f := 0) (by assumption)) mc_X9 (by first | decide | exact Nat.le_of_ble_eq_true rfl) (s_X9_of (j := 0) g2 rfl hS (by decide)) (by omega) ?_
  refine ng_iload_1 dX9_voiced_10 ?_
  refine ng_iload_2 dX9_voiced_11 ?_
  rw [show 21 + 4 * S + 0 = 21 + 4 * S from rfl, g3]
  refine ng_callV_3x (y2 := mi_X9_bodyFrom) dX9_voiced_12 lk_X9_259 ms_X9_bodyFrom my_X9_bodyFrom (by first | exact ⟨_, rfl⟩ | assumption | exact ng_fld_obj (f := 0) (by assumption)) mc_X9 (by first | decide | exact Nat.le_of_ble_eq_true rfl) (h f x M hf hv) (by omega) ?_
  exact ng_ireturn dX9_voiced_15 ⟨rfl, rfl⟩
theorem rb_10 {X : Nat × (Nat → Int32)} {K O : Int32} {S : Nat} (hS : S < 8)  : ng_RB X K S O 1 0 0 := by
  intro f0 x M hf hv
  obtain ⟨f, rfl⟩ : ∃ f, f0 = f + 1 := ⟨f0 - 1, by omega⟩
  obtain ⟨g1, g2, g3, g4⟩ := id hv
  have hb := hv.rp 10
  have e20 : (ng_rp M 10) 73 20 = nI S := hb.2.1
  rw [show ng_bfN 7 0 0 = 10 by decide, ng_vb_10]
  refine ng_EvX.ofI (lv := [some (.ref 73), some (.int 0), some (.int 0), some (.int x), none, none]) (ty := .int) (by decide) (Nat.le_of_ble_eq_true rfl) rfl rfl rfl ?_
  refine ng_aload_0 dX9_body_0 ?_
  refine ng_aload_0 dX9_body_1 ?_
  refine ng_gI dX9_body_2 fl_X9_256 (by first | rfl | assumption) ?_
  refine ng_iconst_2 dX9_body_5 ?_
  refine ng_callV_2x (y2 := mi_X9_of) dX9_body_6 lk_X9_108 ms_X9_of my_X9_of (by first | exact ⟨_, rfl⟩ | assumption | exact ng_fld_obj (f := 0) (by assumption)) mc_X9 (by first | decide | exact Nat.le_of_ble_eq_true rfl) (s_X9_of (j := 2) g2 rfl hS (by decide)) (by omega) ?_
  rw [show 21 + 4 * S + 2 = 23 + 4 * S by omega, g4]
  refine ng_istore_4 dX9_body_9 (by first | rfl | assumption) ?_
  refine ng_iconst_4 dX9_body_11 ?_
  refine ng_iload_1 dX9_body_12 ?_
  refine ng_imul dX9_body_13 ?_
  refine ng_iload_2 dX9_body_14 ?_
  refine ng_iadd dX9_body_15 ?_
  refine sw_X9_body_16 (fun h16 => ?_) (fun h16 => ?_) (fun h16 => ?_) (fun h16 => ?_) (fun h16 => ?_) (fun h16 => ?_) (fun h16 => ?_) (fun h16 => ?_) (fun h16 => ?_) (fun h16 => ?_) (fun h16 => ?_) (fun h16 => ?_) (fun h16 => ?_) (fun h16 => ?_) (fun h16 => ?_) (fun h16 => ?_) (fun h16 => ?_) (fun h16 => ?_) (fun h16 => ?_) (fun h16 => ?_) (fun h16 => ?_) (fun h16 => ?_) (fun h16 => ?_) (fun h16 => ?_) (fun h16 => ?_) (fun h16 => ?_) (fun h16 => ?_) (fun h16n0 h16n1 h16n2 h16n3 h16n4 h16n5 h16n6 h16n7 h16n8 h16n9 h16n10 h16n11 h16n12 h16n13 h16n14 h16n15 h16n16 h16n17 h16n18 h16n19 h16n20 h16n21 h16n22 h16n23 h16n24 h16n25 h16n26 => ?_)
  · refine ng_aload_0 dX9_body_140 ?_
    refine ng_bipush (v := 10) dX9_body_141 (by decide) ?_
    refine ng_callV_1v (y2 := mi_X9_began) dX9_body_143 lk_X9_269 ms_X9_began my_X9_began (by first | exact ⟨_, rfl⟩ | assumption | exact ng_fld_obj (f := 0) (by assumption)) mc_X9 (by first | decide | exact Nat.le_of_ble_eq_true rfl) (s_X9_began hv) (by omega) ?_
    refine ng_iload_3 dX9_body_146 ?_
    refine ng_aload_0 dX9_body_147 ?_
    refine ng_gI dX9_body_148 fl_X9_256 (by first | rfl | assumption) ?_
    rw [e20]
    refine ng_iadd dX9_body_151 ?_
    exact ng_ireturn dX9_body_152 ⟨rfl, by first | rfl | (simp only [ng_rps_cons, ng_rps_app]; done) | (simp only [ng_rps_cons, ng_rps_app]; rfl)⟩
  · exact absurd h16 (by decide)
  · exact absurd h16 (by decide)
  · exact absurd h16 (by decide)
  · exact absurd h16 (by decide)
  · exact absurd h16 (by decide)
  · exact absurd h16 (by decide)
  · exact absurd h16 (by decide)
  · exact absurd h16 (by decide)
  · exact absurd h16 (by decide)
  · exact absurd h16 (by decide)
  · exact absurd h16 (by decide)
  · exact absurd h16 (by decide)
  · exact absurd h16 (by decide)
  · exact absurd h16 (by decide)
  · exact absurd h16 (by decide)
  · exact absurd h16 (by decide)
  · exact absurd h16 (by decide)
  · exact absurd h16 (by decide)
  · exact absurd h16 (by decide)
  · exact absurd h16 (by decide)
  · exact absurd h16 (by decide)
  · exact absurd h16 (by decide)
  · exact absurd h16 (by decide)
  · exact absurd h16 (by decide)
  · exact absurd h16 (by decide)
  · exact absurd h16 (by decide)
  · exact absurd (by decide) h16n0
theorem rb_12 {X : Nat × (Nat → Int32)} {K O : Int32} {S : Nat} (hS : S < 8)  : ng_RB X K S O 1 0 2 := by
  intro f0 x M hf hv
  obtain ⟨f, rfl⟩ : ∃ f, f0 = f + 1 := ⟨f0 - 1, by omega⟩
  obtain ⟨g1, g2, g3, g4⟩ := id hv
  have hb := hv.rp 12
  have e20 : (ng_rp M 12) 73 20 = nI S := hb.2.1
  rw [show ng_bfN 7 0 2 = 12 by decide, ng_vb_12]
  refine ng_EvX.ofI (lv := [some (.ref 73), some (.int 0), some (.int 2), some (.int x), none, none]) (ty := .int) (by decide) (Nat.le_of_ble_eq_true rfl) rfl rfl rfl ?_
  refine ng_aload_0 dX9_body_0 ?_
  refine ng_aload_0 dX9_body_1 ?_
  refine ng_gI dX9_body_2 fl_X9_256 (by first | rfl | assumption) ?_
  refine ng_iconst_2 dX9_body_5 ?_
  refine ng_callV_2x (y2 := mi_X9_of) dX9_body_6 lk_X9_108 ms_X9_of my_X9_of (by first | exact ⟨_, rfl⟩ | assumption | exact ng_fld_obj (f := 0) (by assumption)) mc_X9 (by first | decide | exact Nat.le_of_ble_eq_true rfl) (s_X9_of (j := 2) g2 rfl hS (by decide)) (by omega) ?_
  rw [show 21 + 4 * S + 2 = 23 + 4 * S by omega, g4]
  refine ng_istore_4 dX9_body_9 (by first | rfl | assumption) ?_
  refine ng_iconst_4 dX9_body_11 ?_
  refine ng_iload_1 dX9_body_12 ?_
  refine ng_imul dX9_body_13 ?_
  refine ng_iload_2 dX9_body_14 ?_
  refine ng_iadd dX9_body_15 ?_
  refine sw_X9_body_16 (fun h16 => ?_) (fun h16 => ?_) (fun h16 => ?_) (fun h16 => ?_) (fun h16 => ?_) (fun h16 => ?_) (fun h16 => ?_) (fun h16 => ?_) (fun h16 => ?_) (fun h16 => ?_) (fun h16 => ?_) (fun h16 => ?_) (fun h16 => ?_) (fun h16 => ?_) (fun h16 => ?_) (fun h16 => ?_) (fun h16 => ?_) (fun h16 => ?_) (fun h16 => ?_) (fun h16 => ?_) (fun h16 => ?_) (fun h16 => ?_) (fun h16 => ?_) (fun h16 => ?_) (fun h16 => ?_) (fun h16 => ?_) (fun h16 => ?_) (fun h16n0 h16n1 h16n2 h16n3 h16n4 h16n5 h16n6 h16n7 h16n8 h16n9 h16n10 h16n11 h16n12 h16n13 h16n14 h16n15 h16n16 h16n17 h16n18 h16n19 h16n20 h16n21 h16n22 h16n23 h16n24 h16n25 h16n26 => ?_)
  · exact absurd h16 (by decide)
  · exact absurd h16 (by decide)
  · refine ng_aload_0 dX9_body_168 ?_
    refine ng_bipush (v := 12) dX9_body_169 (by decide) ?_
    refine ng_callV_1v (y2 := mi_X9_began) dX9_body_171 lk_X9_269 ms_X9_began my_X9_began (by first | exact ⟨_, rfl⟩ | assumption | exact ng_fld_obj (f := 0) (by assumption)) mc_X9 (by first | decide | exact Nat.le_of_ble_eq_true rfl) (s_X9_began hv) (by omega) ?_
    refine ng_iload_3 dX9_body_174 ?_
    refine ng_iload_4 dX9_body_175 ?_
    refine ng_isub dX9_body_177 ?_
    exact ng_ireturn dX9_body_178 ⟨rfl, by first | rfl | (simp only [ng_rps_cons, ng_rps_app]; done) | (simp only [ng_rps_cons, ng_rps_app]; rfl)⟩
  · exact absurd h16 (by decide)
  · exact absurd h16 (by decide)
  · exact absurd h16 (by decide)
  · exact absurd h16 (by decide)
  · exact absurd h16 (by decide)
  · exact absurd h16 (by decide)
  · exact absurd h16 (by decide)
  · exact absurd h16 (by decide)
  · exact absurd h16 (by decide)
  · exact absurd h16 (by decide)
  · exact absurd h16 (by decide)
  · exact absurd h16 (by decide)
  · exact absurd h16 (by decide)
  · exact absurd h16 (by decide)
  · exact absurd h16 (by decide)
  · exact absurd h16 (by decide)
  · exact absurd h16 (by decide)
  · exact absurd h16 (by decide)
  · exact absurd h16 (by decide)
  · exact absurd h16 (by decide)
  · exact absurd h16 (by decide)
  · exact absurd h16 (by decide)
  · exact absurd h16 (by decide)
  · exact absurd h16 (by decide)
  · exact absurd (by decide) h16n2
theorem rb_30 {X : Nat × (Nat → Int32)} {K O : Int32} {S : Nat} (hS : S < 8) (hq : ng_BF X K S O 1 1 0) : ng_RB X K S O 2 2 0 := by
  intro f0 x M hf hv
  obtain ⟨f, rfl⟩ : ∃ f, f0 = f + 1 := ⟨f0 - 1, by omega⟩
  obtain ⟨g1, g2, g3, g4⟩ := id hv
  have hb := hv.rp 30
  have e20 : (ng_rp M 30) 73 20 = nI S := hb.2.1
  rw [show ng_bfN 7 2 0 = 30 by decide, ng_vb_30]
  refine ng_EvX.ofI (lv := [some (.ref 73), some (.int 2), some (.int 0), some (.int x), none, none]) (ty := .int) (by decide) (Nat.le_of_ble_eq_true rfl) rfl rfl rfl ?_
  refine ng_aload_0 dX9_body_0 ?_
  refine ng_aload_0 dX9_body_1 ?_
  refine ng_gI dX9_body_2 fl_X9_256 (by first | rfl | assumption) ?_
  refine ng_iconst_2 dX9_body_5 ?_
  refine ng_callV_2x (y2 := mi_X9_of) dX9_body_6 lk_X9_108 ms_X9_of my_X9_of (by first | exact ⟨_, rfl⟩ | assumption | exact ng_fld_obj (f := 0) (by assumption)) mc_X9 (by first | decide | exact Nat.le_of_ble_eq_true rfl) (s_X9_of (j := 2) g2 rfl hS (by decide)) (by omega) ?_
  rw [show 21 + 4 * S + 2 = 23 + 4 * S by omega, g4]
  refine ng_istore_4 dX9_body_9 (by first | rfl | assumption) ?_
  refine ng_iconst_4 dX9_body_11 ?_
  refine ng_iload_1 dX9_body_12 ?_
  refine ng_imul dX9_body_13 ?_
  refine ng_iload_2 dX9_body_14 ?_
  refine ng_iadd dX9_body_15 ?_
  refine sw_X9_body_16 (fun h16 => ?_) (fun h16 => ?_) (fun h16 => ?_) (fun h16 => ?_) (fun h16 => ?_) (fun h16 => ?_) (fun h16 => ?_) (fun h16 => ?_) (fun h16 => ?_) (fun h16 => ?_) (fun h16 => ?_) (fun h16 => ?_) (fun h16 => ?_) (fun h16 => ?_) (fun h16 => ?_) (fun h16 => ?_) (fun h16 => ?_) (fun h16 => ?_) (fun h16 => ?_) (fun h16 => ?_) (fun h16 => ?_) (fun h16 => ?_) (fun h16 => ?_) (fun h16 => ?_) (fun h16 => ?_) (fun h16 => ?_) (fun h16 => ?_) (fun h16n0 h16n1 h16n2 h16n3 h16n4 h16n5 h16n6 h16n7 h16n8 h16n9 h16n10 h16n11 h16n12 h16n13 h16n14 h16n15 h16n16 h16n17 h16n18 h16n19 h16n20 h16n21 h16n22 h16n23 h16n24 h16n25 h16n26 => ?_)
  · exact absurd h16 (by decide)
  · exact absurd h16 (by decide)
  · exact absurd h16 (by decide)
  · exact absurd h16 (by decide)
  · exact absurd h16 (by decide)
  · exact absurd h16 (by decide)
  · exact absurd h16 (by decide)
  · exact absurd h16 (by decide)
  · refine ng_aload_0 dX9_body_228 ?_
    refine ng_bipush (v := 30) dX9_body_229 (by decide) ?_
    refine ng_callV_1v (y2 := mi_X9_began) dX9_body_231 lk_X9_269 ms_X9_began my_X9_began (by first | exact ⟨_, rfl⟩ | assumption | exact ng_fld_obj (f := 0) (by assumption)) mc_X9 (by first | decide | exact Nat.le_of_ble_eq_true rfl) (s_X9_began hv) (by omega) ?_
    refine ng_aload_0 dX9_body_234 ?_
    refine ng_iconst_1 dX9_body_235 ?_
    refine ng_iconst_0 dX9_body_236 ?_
    refine ng_iload_3 dX9_body_237 ?_
    refine ng_callV_3x (y2 := mi_X9_bodyFrom) dX9_body_238 lk_X9_259 ms_X9_bodyFrom my_X9_bodyFrom (by first | exact ⟨_, rfl⟩ | assumption | exact ng_fld_obj (f := 0) (by assumption)) mc_X9 (by first | decide | exact Nat.le_of_ble_eq_true rfl) (hq f _ _ (by omega) hb) (by omega) ?_
    refine ng_iconst_3 dX9_body_241 ?_
    refine ng_imul dX9_body_242 ?_
    exact ng_ireturn dX9_body_243 ⟨rfl, by first | rfl | (simp only [ng_rps_cons, ng_rps_app]; done) | (simp only [ng_rps_cons, ng_rps_app]; rfl)⟩
  · exact absurd h16 (by decide)
  · exact absurd h16 (by decide)
  · exact absurd h16 (by decide)
  · exact absurd h16 (by decide)
  · exact absurd h16 (by decide)
  · exact absurd h16 (by decide)
  · exact absurd h16 (by decide)
  · exact absurd h16 (by decide)
  · exact absurd h16 (by decide)
  · exact absurd h16 (by decide)
  · exact absurd h16 (by decide)
  · exact absurd h16 (by decide)
  · exact absurd h16 (by decide)
  · exact absurd h16 (by decide)
  · exact absurd h16 (by decide)
  · exact absurd h16 (by decide)
  · exact absurd h16 (by decide)
  · exact absurd h16 (by decide)
  · exact absurd (by decide) h16n8
theorem rb_50 {X : Nat × (Nat → Int32)} {K O : Int32} {S : Nat} (hS : S < 8) (hq : ng_BF X K S O 1 3 0) : ng_RB X K S O 2 4 0 := by
  intro f0 x M hf hv
  obtain ⟨f, rfl⟩ : ∃ f, f0 = f + 1 := ⟨f0 - 1, by omega⟩
  obtain ⟨g1, g2, g3, g4⟩ := id hv
  have hb := hv.rp 50
  have e20 : (ng_rp M 50) 73 20 = nI S := hb.2.1
  rw [show ng_bfN 7 4 0 = 50 by decide, ng_vb_50]
  refine ng_EvX.ofI (lv := [some (.ref 73), some (.int 4), some (.int 0), some (.int x), none, none]) (ty := .int) (by decide) (Nat.le_of_ble_eq_true rfl) rfl rfl rfl ?_
  refine ng_aload_0 dX9_body_0 ?_
  refine ng_aload_0 dX9_body_1 ?_
  refine ng_gI dX9_body_2 fl_X9_256 (by first | rfl | assumption) ?_
  refine ng_iconst_2 dX9_body_5 ?_
  refine ng_callV_2x (y2 := mi_X9_of) dX9_body_6 lk_X9_108 ms_X9_of my_X9_of (by first | exact ⟨_, rfl⟩ | assumption | exact ng_fld_obj (f := 0) (by assumption)) mc_X9 (by first | decide | exact Nat.le_of_ble_eq_true rfl) (s_X9_of (j := 2) g2 rfl hS (by decide)) (by omega) ?_
  rw [show 21 + 4 * S + 2 = 23 + 4 * S by omega, g4]
  refine ng_istore_4 dX9_body_9 (by first | rfl | assumption) ?_
  refine ng_iconst_4 dX9_body_11 ?_
  refine ng_iload_1 dX9_body_12 ?_
  refine ng_imul dX9_body_13 ?_
  refine ng_iload_2 dX9_body_14 ?_
  refine ng_iadd dX9_body_15 ?_
  refine sw_X9_body_16 (fun h16 => ?_) (fun h16 => ?_) (fun h16 => ?_) (fun h16 => ?_) (fun h16 => ?_) (fun h16 => ?_) (fun h16 => ?_) (fun h16 => ?_) (fun h16 => ?_) (fun h16 => ?_) (fun h16 => ?_) (fun h16 => ?_) (fun h16 => ?_) (fun h16 => ?_) (fun h16 => ?_) (fun h16 => ?_) (fun h16 => ?_) (fun h16 => ?_) (fun h16 => ?_) (fun h16 => ?_) (fun h16 => ?_) (fun h16 => ?_) (fun h16 => ?_) (fun h16 => ?_) (fun h16 => ?_) (fun h16 => ?_) (fun h16 => ?_) (fun h16n0 h16n1 h16n2 h16n3 h16n4 h16n5 h16n6 h16n7 h16n8 h16n9 h16n10 h16n11 h16n12 h16n13 h16n14 h16n15 h16n16 h16n17 h16n18 h16n19 h16n20 h16n21 h16n22 h16n23 h16n24 h16n25 h16n26 => ?_)
  · exact absurd h16 (by decide)
  · exact absurd h16 (by decide)
  · exact absurd h16 (by decide)
  · exact absurd h16 (by decide)
  · exact absurd h16 (by decide)
  · exact absurd h16 (by decide)
  · exact absurd h16 (by decide)
  · exact absurd h16 (by decide)
  · exact absurd h16 (by decide)
  · exact absurd h16 (by decide)
  · exact absurd h16 (by decide)
  · exact absurd h16 (by decide)
  · exact absurd h16 (by decide)
  · exact absurd h16 (by decide)
  · exact absurd h16 (by decide)
  · exact absurd h16 (by decide)
  · refine ng_aload_0 dX9_body_259 ?_
    refine ng_bipush (v := 50) dX9_body_260 (by decide) ?_
    refine ng_callV_1v (y2 := mi_X9_began) dX9_body_262 lk_X9_269 ms_X9_began my_X9_began (by first | exact ⟨_, rfl⟩ | assumption | exact ng_fld_obj (f := 0) (by assumption)) mc_X9 (by first | decide | exact Nat.le_of_ble_eq_true rfl) (s_X9_began hv) (by omega) ?_
    refine ng_aload_0 dX9_body_265 ?_
    refine ng_iconst_3 dX9_body_266 ?_
    refine ng_iconst_0 dX9_body_267 ?_
    refine ng_iload_3 dX9_body_268 ?_
    refine ng_iconst_1 dX9_body_269 ?_
    refine ng_iadd dX9_body_270 ?_
    refine ng_callV_3x (y2 := mi_X9_bodyFrom) dX9_body_271 lk_X9_259 ms_X9_bodyFrom my_X9_bodyFrom (by first | exact ⟨_, rfl⟩ | assumption | exact ng_fld_obj (f := 0) (by assumption)) mc_X9 (by first | decide | exact Nat.le_of_ble_eq_true rfl) (hq f _ _ (by omega) hb) (by omega) ?_
    exact ng_ireturn dX9_body_274 ⟨rfl, by first | rfl | (simp only [ng_rps_cons, ng_rps_app]; done) | (simp only [ng_rps_cons, ng_rps_app]; rfl)⟩
  · exact absurd h16 (by decide)
  · exact absurd h16 (by decide)
  · exact absurd h16 (by decide)
  · exact absurd h16 (by decide)
  · exact absurd h16 (by decide)
  · exact absurd h16 (by decide)
  · exact absurd h16 (by decide)
  · exact absurd h16 (by decide)
  · exact absurd h16 (by decide)
  · exact absurd h16 (by decide)
  · exact absurd (by decide) h16n16
theorem rb_40 {X : Nat × (Nat → Int32)} {K O : Int32} {S : Nat} (hS : S < 8) (hq : ng_BF X K S O 1 0 2) : ng_RB X K S O 2 3 2 := by
  intro f0 x M hf hv
  obtain ⟨f, rfl⟩ : ∃ f, f0 = f + 1 := ⟨f0 - 1, by omega⟩
  obtain ⟨g1, g2, g3, g4⟩ := id hv
  have hb := hv.rp 40
  have e20 : (ng_rp M 40) 73 20 = nI S := hb.2.1
  rw [show ng_bfN 7 3 2 = 40 by decide, ng_vb_40]
  refine ng_EvX.ofI (lv := [some (.ref 73), some (.int 3), some (.int 2), some (.int x), none, none]) (ty := .int) (by decide) (Nat.le_of_ble_eq_true rfl) rfl rfl rfl ?_
  refine ng_aload_0 dX9_body_0 ?_
  refine ng_aload_0 dX9_body_1 ?_
  refine ng_gI dX9_body_2 fl_X9_256 (by first | rfl | assumption) ?_
  refine ng_iconst_2 dX9_body_5 ?_
  refine ng_callV_2x (y2 := mi_X9_of) dX9_body_6 lk_X9_108 ms_X9_of my_X9_of (by first | exact ⟨_, rfl⟩ | assumption | exact ng_fld_obj (f := 0) (by assumption)) mc_X9 (by first | decide | exact Nat.le_of_ble_eq_true rfl) (s_X9_of (j := 2) g2 rfl hS (by decide)) (by omega) ?_
  rw [show 21 + 4 * S + 2 = 23 + 4 * S by omega, g4]
  refine ng_istore_4 dX9_body_9 (by first | rfl | assumption) ?_
  refine ng_iconst_4 dX9_body_11 ?_
  refine ng_iload_1 dX9_body_12 ?_
  refine ng_imul dX9_body_13 ?_
  refine ng_iload_2 dX9_body_14 ?_
  refine ng_iadd dX9_body_15 ?_
  refine sw_X9_body_16 (fun h16 => ?_) (fun h16 => ?_) (fun h16 => ?_) (fun h16 => ?_) (fun h16 => ?_) (fun h16 => ?_) (fun h16 => ?_) (fun h16 => ?_) (fun h16 => ?_) (fun h16 => ?_) (fun h16 => ?_) (fun h16 => ?_) (fun h16 => ?_) (fun h16 => ?_) (fun h16 => ?_) (fun h16 => ?_) (fun h16 => ?_) (fun h16 => ?_) (fun h16 => ?_) (fun h16 => ?_) (fun h16 => ?_) (fun h16 => ?_) (fun h16 => ?_) (fun h16 => ?_) (fun h16 => ?_) (fun h16 => ?_) (fun h16 => ?_) (fun h16n0 h16n1 h16n2 h16n3 h16n4 h16n5 h16n6 h16n7 h16n8 h16n9 h16n10 h16n11 h16n12 h16n13 h16n14 h16n15 h16n16 h16n17 h16n18 h16n19 h16n20 h16n21 h16n22 h16n23 h16n24 h16n25 h16n26 => ?_)
  · exact absurd h16 (by decide)
  · exact absurd h16 (by decide)
  · exact absurd h16 (by decide)
  · exact absurd h16 (by decide)
  · exact absurd h16 (by decide)
  · exact absurd h16 (by decide)
  · exact absurd h16 (by decide)
  · exact absurd h16 (by decide)
  · exact absurd h16 (by decide)
  · exact absurd h16 (by decide)
  · exact absurd h16 (by decide)
  · exact absurd h16 (by decide)
  · exact absurd h16 (by decide)
  · exact absurd h16 (by decide)
  · refine ng_aload_0 dX9_body_244 ?_
    refine ng_bipush (v := 40) dX9_body_245 (by decide) ?_
    refine ng_callV_1v (y2 := mi_X9_began) dX9_body_247 lk_X9_269 ms_X9_began my_X9_began (by first | exact ⟨_, rfl⟩ | assumption | exact ng_fld_obj (f := 0) (by assumption)) mc_X9 (by first | decide | exact Nat.le_of_ble_eq_true rfl) (s_X9_began hv) (by omega) ?_
    refine ng_aload_0 dX9_body_250 ?_
    refine ng_iconst_0 dX9_body_251 ?_
    refine ng_iconst_2 dX9_body_252 ?_
    refine ng_iload_3 dX9_body_253 ?_
    refine ng_callV_3x (y2 := mi_X9_bodyFrom) dX9_body_254 lk_X9_259 ms_X9_bodyFrom my_X9_bodyFrom (by first | exact ⟨_, rfl⟩ | assumption | exact ng_fld_obj (f := 0) (by assumption)) mc_X9 (by first | decide | exact Nat.le_of_ble_eq_true rfl) (hq f _ _ (by omega) hb) (by omega) ?_
    refine ng_ineg dX9_body_257 ?_
    exact ng_ireturn dX9_body_258 ⟨rfl, by first | rfl | (simp only [ng_rps_cons, ng_rps_app]; done) | (simp only [ng_rps_cons, ng_rps_app]; rfl)⟩
  · exact absurd h16 (by decide)
  · exact absurd h16 (by decide)
  · exact absurd h16 (by decide)
  · exact absurd h16 (by decide)
  · exact absurd h16 (by decide)
  · exact absurd h16 (by decide)
  · exact absurd h16 (by decide)
  · exact absurd h16 (by decide)
  · exact absurd h16 (by decide)
  · exact absurd h16 (by decide)
  · exact absurd h16 (by decide)
  · exact absurd h16 (by decide)
  · exact absurd (by decide) h16n14
theorem rb_70 {X : Nat × (Nat → Int32)} {K O : Int32} {S : Nat} (hS : S < 8) (hq : ng_BF X K S O 1 1 2) : ng_RB X K S O 2 6 2 := by
  intro f0 x M hf hv
  obtain ⟨f, rfl⟩ : ∃ f, f0 = f + 1 := ⟨f0 - 1, by omega⟩
  obtain ⟨g1, g2, g3, g4⟩ := id hv
  have hb := hv.rp 70
  have e20 : (ng_rp M 70) 73 20 = nI S := hb.2.1
  rw [show ng_bfN 7 6 2 = 70 by decide, ng_vb_70]
  refine ng_EvX.ofI (lv := [some (.ref 73), some (.int 6), some (.int 2), some (.int x), none, none]) (ty := .int) (by decide) (Nat.le_of_ble_eq_true rfl) rfl rfl rfl ?_
  refine ng_aload_0 dX9_body_0 ?_
  refine ng_aload_0 dX9_body_1 ?_
  refine ng_gI dX9_body_2 fl_X9_256 (by first | rfl | assumption) ?_
  refine ng_iconst_2 dX9_body_5 ?_
  refine ng_callV_2x (y2 := mi_X9_of) dX9_body_6 lk_X9_108 ms_X9_of my_X9_of (by first | exact ⟨_, rfl⟩ | assumption | exact ng_fld_obj (f := 0) (by assumption)) mc_X9 (by first | decide | exact Nat.le_of_ble_eq_true rfl) (s_X9_of (j := 2) g2 rfl hS (by decide)) (by omega) ?_
  rw [show 21 + 4 * S + 2 = 23 + 4 * S by omega, g4]
  refine ng_istore_4 dX9_body_9 (by first | rfl | assumption) ?_
  refine ng_iconst_4 dX9_body_11 ?_
  refine ng_iload_1 dX9_body_12 ?_
  refine ng_imul dX9_body_13 ?_
  refine ng_iload_2 dX9_body_14 ?_
  refine ng_iadd dX9_body_15 ?_
  refine sw_X9_body_16 (fun h16 => ?_) (fun h16 => ?_) (fun h16 => ?_) (fun h16 => ?_) (fun h16 => ?_) (fun h16 => ?_) (fun h16 => ?_) (fun h16 => ?_) (fun h16 => ?_) (fun h16 => ?_) (fun h16 => ?_) (fun h16 => ?_) (fun h16 => ?_) (fun h16 => ?_) (fun h16 => ?_) (fun h16 => ?_) (fun h16 => ?_) (fun h16 => ?_) (fun h16 => ?_) (fun h16 => ?_) (fun h16 => ?_) (fun h16 => ?_) (fun h16 => ?_) (fun h16 => ?_) (fun h16 => ?_) (fun h16 => ?_) (fun h16 => ?_) (fun h16n0 h16n1 h16n2 h16n3 h16n4 h16n5 h16n6 h16n7 h16n8 h16n9 h16n10 h16n11 h16n12 h16n13 h16n14 h16n15 h16n16 h16n17 h16n18 h16n19 h16n20 h16n21 h16n22 h16n23 h16n24 h16n25 h16n26 => ?_)
  · exact absurd h16 (by decide)
  · exact absurd h16 (by decide)
  · exact absurd h16 (by decide)
  · exact absurd h16 (by decide)
  · exact absurd h16 (by decide)
  · exact absurd h16 (by decide)
  · exact absurd h16 (by decide)
  · exact absurd h16 (by decide)
  · exact absurd h16 (by decide)
  · exact absurd h16 (by decide)
  · exact absurd h16 (by decide)
  · exact absurd h16 (by decide)
  · exact absurd h16 (by decide)
  · exact absurd h16 (by decide)
  · exact absurd h16 (by decide)
  · exact absurd h16 (by decide)
  · exact absurd h16 (by decide)
  · exact absurd h16 (by decide)
  · exact absurd h16 (by decide)
  · exact absurd h16 (by decide)
  · exact absurd h16 (by decide)
  · exact absurd h16 (by decide)
  · exact absurd h16 (by decide)
  · exact absurd h16 (by decide)
  · exact absurd h16 (by decide)
  · exact absurd h16 (by decide)
  · refine ng_aload_0 dX9_body_319 ?_
    refine ng_bipush (v := 70) dX9_body_320 (by decide) ?_
    refine ng_callV_1v (y2 := mi_X9_began) dX9_body_322 lk_X9_269 ms_X9_began my_X9_began (by first | exact ⟨_, rfl⟩ | assumption | exact ng_fld_obj (f := 0) (by assumption)) mc_X9 (by first | decide | exact Nat.le_of_ble_eq_true rfl) (s_X9_began hv) (by omega) ?_
    refine ng_aload_0 dX9_body_325 ?_
    refine ng_iconst_1 dX9_body_326 ?_
    refine ng_iconst_2 dX9_body_327 ?_
    refine ng_iload_3 dX9_body_328 ?_
    refine ng_callV_3x (y2 := mi_X9_bodyFrom) dX9_body_329 lk_X9_259 ms_X9_bodyFrom my_X9_bodyFrom (by first | exact ⟨_, rfl⟩ | assumption | exact ng_fld_obj (f := 0) (by assumption)) mc_X9 (by first | decide | exact Nat.le_of_ble_eq_true rfl) (hq f _ _ (by omega) hb) (by omega) ?_
    refine ng_iload_4 dX9_body_332 ?_
    refine ng_iadd dX9_body_334 ?_
    exact ng_ireturn dX9_body_335 ⟨rfl, by first | rfl | (simp only [ng_rps_cons, ng_rps_app]; done) | (simp only [ng_rps_cons, ng_rps_app]; rfl)⟩
  · exact absurd (by decide) h16n26
theorem rb_11 {X : Nat × (Nat → Int32)} {K O : Int32} {S : Nat} (hS : S < 8) (ho0 : ng_VO X K S O 2 0) : ng_RB X K S O 3 0 1 := by
  intro f0 x M hf hv
  obtain ⟨f, rfl⟩ : ∃ f, f0 = f + 1 := ⟨f0 - 1, by omega⟩
  obtain ⟨g1, g2, g3, g4⟩ := id hv
  have hb := hv.rp 11
  have e20 : (ng_rp M 11) 73 20 = nI S := hb.2.1
  rw [show ng_bfN 7 0 1 = 11 by decide, ng_vb_11]
  refine ng_EvX.ofI (lv := [some (.ref 73), some (.int 0), some (.int 1), some (.int x), none, none]) (ty := .int) (by decide) (Nat.le_of_ble_eq_true rfl) rfl rfl rfl ?_
  refine ng_aload_0 dX9_body_0 ?_
  refine ng_aload_0 dX9_body_1 ?_
  refine ng_gI dX9_body_2 fl_X9_256 (by first | rfl | assumption) ?_
  refine ng_iconst_2 dX9_body_5 ?_
  refine ng_callV_2x (y2 := mi_X9_of) dX9_body_6 lk_X9_108 ms_X9_of my_X9_of (by first | exact ⟨_, rfl⟩ | assumption | exact ng_fld_obj (f := 0) (by assumption)) mc_X9 (by first | decide | exact Nat.le_of_ble_eq_true rfl) (s_X9_of (j := 2) g2 rfl hS (by decide)) (by omega) ?_
  rw [show 21 + 4 * S + 2 = 23 + 4 * S by omega, g4]
  refine ng_istore_4 dX9_body_9 (by first | rfl | assumption) ?_
  refine ng_iconst_4 dX9_body_11 ?_
  refine ng_iload_1 dX9_body_12 ?_
  refine ng_imul dX9_body_13 ?_
  refine ng_iload_2 dX9_body_14 ?_
  refine ng_iadd dX9_body_15 ?_
  refine sw_X9_body_16 (fun h16 => ?_) (fun h16 => ?_) (fun h16 => ?_) (fun h16 => ?_) (fun h16 => ?_) (fun h16 => ?_) (fun h16 => ?_) (fun h16 => ?_) (fun h16 => ?_) (fun h16 => ?_) (fun h16 => ?_) (fun h16 => ?_) (fun h16 => ?_) (fun h16 => ?_) (fun h16 => ?_) (fun h16 => ?_) (fun h16 => ?_) (fun h16 => ?_) (fun h16 => ?_) (fun h16 => ?_) (fun h16 => ?_) (fun h16 => ?_) (fun h16 => ?_) (fun h16 => ?_) (fun h16 => ?_) (fun h16 => ?_) (fun h16 => ?_) (fun h16n0 h16n1 h16n2 h16n3 h16n4 h16n5 h16n6 h16n7 h16n8 h16n9 h16n10 h16n11 h16n12 h16n13 h16n14 h16n15 h16n16 h16n17 h16n18 h16n19 h16n20 h16n21 h16n22 h16n23 h16n24 h16n25 h16n26 => ?_)
  · exact absurd h16 (by decide)
  · refine ng_aload_0 dX9_body_153 ?_
    refine ng_bipush (v := 11) dX9_body_154 (by decide) ?_
    refine ng_callV_1v (y2 := mi_X9_began) dX9_body_156 lk_X9_269 ms_X9_began my_X9_began (by first | exact ⟨_, rfl⟩ | assumption | exact ng_fld_obj (f := 0) (by assumption)) mc_X9 (by first | decide | exact Nat.le_of_ble_eq_true rfl) (s_X9_began hv) (by omega) ?_
    refine ng_aload_0 dX9_body_159 ?_
    refine ng_iconst_0 dX9_body_160 ?_
    refine ng_iload_3 dX9_body_161 ?_
    refine ng_callV_2x (y2 := mi_X9_voiced) dX9_body_162 lk_X9_272 ms_X9_voiced my_X9_voiced (by first | exact ⟨_, rfl⟩ | assumption | exact ng_fld_obj (f := 0) (by assumption)) mc_X9 (by first | decide | exact Nat.le_of_ble_eq_true rfl) (ho0 f _ _ (by omega) hb) (by omega) ?_
    refine ng_iconst_2 dX9_body_165 ?_
    refine ng_imul dX9_body_166 ?_
    exact ng_ireturn dX9_body_167 ⟨rfl, by first | rfl | (simp only [ng_rps_cons, ng_rps_app]; done) | (simp only [ng_rps_cons, ng_rps_app]; rfl)⟩
  · exact absurd h16 (by decide)
  · exact absurd h16 (by decide)
  · exact absurd h16 (by decide)
  · exact absurd h16 (by decide)
  · exact absurd h16 (by decide)
  · exact absurd h16 (by decide)
  · exact absurd h16 (by decide)
  · exact absurd h16 (by decide)
  · exact absurd h16 (by decide)
  · exact absurd h16 (by decide)
  · exact absurd h16 (by decide)
  · exact absurd h16 (by decide)
  · exact absurd h16 (by decide)
  · exact absurd h16 (by decide)
  · exact absurd h16 (by decide)
  · exact absurd h16 (by decide)
  · exact absurd h16 (by decide)
  · exact absurd h16 (by decide)
  · exact absurd h16 (by decide)
  · exact absurd h16 (by decide)
  · exact absurd h16 (by decide)
  · exact absurd h16 (by decide)
  · exact absurd h16 (by decide)
  · exact absurd h16 (by decide)
  · exact absurd h16 (by decide)
  · exact absurd (by decide) h16n1
theorem rb_20 {X : Nat × (Nat → Int32)} {K O : Int32} {S : Nat} (hS : S < 8) (hq : ng_BF X K S O 3 0 1) (ho2 : ng_VO X K S O 2 2) : ng_RB X K S O 4 1 1 := by
  intro f0 x M hf hv
  obtain ⟨f, rfl⟩ : ∃ f, f0 = f + 1 := ⟨f0 - 1, by omega⟩
  obtain ⟨g1, g2, g3, g4⟩ := id hv
  have hb := hv.rp 20
  have e20 : (ng_rp M 20) 73 20 = nI S := hb.2.1
  rw [show ng_bfN 7 1 1 = 20 by decide, ng_vb_20]
  refine ng_EvX.ofI (lv := [some (.ref 73), some (.int 1), some (.int 1), some (.int x), none, none]) (ty := .int) (by decide) (Nat.le_of_ble_eq_true rfl) rfl rfl rfl ?_
  refine ng_aload_0 dX9_body_0 ?_
  refine ng_aload_0 dX9_body_1 ?_
  refine ng_gI dX9_body_2 fl_X9_256 (by first | rfl | assumption) ?_
  refine ng_iconst_2 dX9_body_5 ?_
  refine ng_callV_2x (y2 := mi_X9_of) dX9_body_6 lk_X9_108 ms_X9_of my_X9_of (by first | exact ⟨_, rfl⟩ | assumption | exact ng_fld_obj (f := 0) (by assumption)) mc_X9 (by first | decide | exact Nat.le_of_ble_eq_true rfl) (s_X9_of (j := 2) g2 rfl hS (by decide)) (by omega) ?_
  rw [show 21 + 4 * S + 2 = 23 + 4 * S by omega, g4]
  refine ng_istore_4 dX9_body_9 (by first | rfl | assumption) ?_
  refine ng_iconst_4 dX9_body_11 ?_
  refine ng_iload_1 dX9_body_12 ?_
  refine ng_imul dX9_body_13 ?_
  refine ng_iload_2 dX9_body_14 ?_
  refine ng_iadd dX9_body_15 ?_
  refine sw_X9_body_16 (fun h16 => ?_) (fun h16 => ?_) (fun h16 => ?_) (fun h16 => ?_) (fun h16 => ?_) (fun h16 => ?_) (fun h16 => ?_) (fun h16 => ?_) (fun h16 => ?_) (fun h16 => ?_) (fun h16 => ?_) (fun h16 => ?_) (fun h16 => ?_) (fun h16 => ?_) (fun h16 => ?_) (fun h16 => ?_) (fun h16 => ?_) (fun h16 => ?_) (fun h16 => ?_) (fun h16 => ?_) (fun h16 => ?_) (fun h16 => ?_) (fun h16 => ?_) (fun h16 => ?_) (fun h16 => ?_) (fun h16 => ?_) (fun h16 => ?_) (fun h16n0 h16n1 h16n2 h16n3 h16n4 h16n5 h16n6 h16n7 h16n8 h16n9 h16n10 h16n11 h16n12 h16n13 h16n14 h16n15 h16n16 h16n17 h16n18 h16n19 h16n20 h16n21 h16n22 h16n23 h16n24 h16n25 h16n26 => ?_)
  · exact absurd h16 (by decide)
  · exact absurd h16 (by decide)
  · exact absurd h16 (by decide)
  · exact absurd h16 (by decide)
  · exact absurd h16 (by decide)
  · refine ng_aload_0 dX9_body_203 ?_
    refine ng_bipush (v := 20) dX9_body_204 (by decide) ?_
    refine ng_callV_1v (y2 := mi_X9_began) dX9_body_206 lk_X9_269 ms_X9_began my_X9_began (by first | exact ⟨_, rfl⟩ | assumption | exact ng_fld_obj (f := 0) (by assumption)) mc_X9 (by first | decide | exact Nat.le_of_ble_eq_true rfl) (s_X9_began hv) (by omega) ?_
    refine ng_aload_0 dX9_body_209 ?_
    refine ng_iconst_0 dX9_body_210 ?_
    refine ng_iconst_1 dX9_body_211 ?_
    refine ng_iload_3 dX9_body_212 ?_
    refine ng_callV_3x (y2 := mi_X9_bodyFrom) dX9_body_213 lk_X9_259 ms_X9_bodyFrom my_X9_bodyFrom (by first | exact ⟨_, rfl⟩ | assumption | exact ng_fld_obj (f := 0) (by assumption)) mc_X9 (by first | decide | exact Nat.le_of_ble_eq_true rfl) (hq f _ _ (by omega) hb) (by omega) ?_
    refine ng_istore_5 dX9_body_216 (by first | rfl | assumption) ?_
    refine ng_iload_5 dX9_body_218 ?_
    refine ng_aload_0 dX9_body_220 ?_
    refine ng_iconst_2 dX9_body_221 ?_
    refine ng_iconst_1 dX9_body_222 ?_
    refine ng_callV_2x (y2 := mi_X9_voiced) dX9_body_223 lk_X9_272 ms_X9_voiced my_X9_voiced (by first | exact ⟨_, rfl⟩ | assumption | exact ng_fld_obj (f := 0) (by assumption)) mc_X9 (by first | decide | exact Nat.le_of_ble_eq_true rfl) (ho2 f _ _ (by omega) (hb.rps _ _)) (by omega) ?_
    refine ng_isub dX9_body_226 ?_
    exact ng_ireturn dX9_body_227 ⟨rfl, by first | rfl | (simp only [ng_rps_cons, ng_rps_app]; done) | (simp only [ng_rps_cons, ng_rps_app]; rfl)⟩
  · exact absurd h16 (by decide)
  · exact absurd h16 (by decide)
  · exact absurd h16 (by decide)
  · exact absurd h16 (by decide)
  · exact absurd h16 (by decide)
  · exact absurd h16 (by decide)
  · exact absurd h16 (by decide)
  · exact absurd h16 (by decide)
  · exact absurd h16 (by decide)
  · exact absurd h16 (by decide)
  · exact absurd h16 (by decide)
  · exact absurd h16 (by decide)
  · exact absurd h16 (by decide)
  · exact absurd h16 (by decide)
  · exact absurd h16 (by decide)
  · exact absurd h16 (by decide)
  · exact absurd h16 (by decide)
  · exact absurd h16 (by decide)
  · exact absurd h16 (by decide)
  · exact absurd h16 (by decide)
  · exact absurd h16 (by decide)
  · exact absurd (by decide) h16n5
theorem rb_60 {X : Nat × (Nat → Int32)} {K O : Int32} {S : Nat} (hS : S < 8) (hq : ng_BF X K S O 3 0 1) : ng_RB X K S O 4 5 1 := by
  intro f0 x M hf hv
  obtain ⟨f, rfl⟩ : ∃ f, f0 = f + 1 := ⟨f0 - 1, by omega⟩
  obtain ⟨g1, g2, g3, g4⟩ := id hv
  have hb := hv.rp 60
  have e20 : (ng_rp M 60) 73 20 = nI S := hb.2.1
  rw [show ng_bfN 7 5 1 = 60 by decide, ng_vb_60]
  refine ng_EvX.ofI (lv := [some (.ref 73), some (.int 5), some (.int 1), some (.int x), none, none]) (ty := .int) (by decide) (Nat.le_of_ble_eq_true rfl) rfl rfl rfl ?_
  refine ng_aload_0 dX9_body_0 ?_
  refine ng_aload_0 dX9_body_1 ?_
  refine ng_gI dX9_body_2 fl_X9_256 (by first | rfl | assumption) ?_
  refine ng_iconst_2 dX9_body_5 ?_
  refine ng_callV_2x (y2 := mi_X9_of) dX9_body_6 lk_X9_108 ms_X9_of my_X9_of (by first | exact ⟨_, rfl⟩ | assumption | exact ng_fld_obj (f := 0) (by assumption)) mc_X9 (by first | decide | exact Nat.le_of_ble_eq_true rfl) (s_X9_of (j := 2) g2 rfl hS (by decide)) (by omega) ?_
  rw [show 21 + 4 * S + 2 = 23 + 4 * S by omega, g4]
  refine ng_istore_4 dX9_body_9 (by first | rfl | assumption) ?_
  refine ng_iconst_4 dX9_body_11 ?_
  refine ng_iload_1 dX9_body_12 ?_
  refine ng_imul dX9_body_13 ?_
  refine ng_iload_2 dX9_body_14 ?_
  refine ng_iadd dX9_body_15 ?_
  refine sw_X9_body_16 (fun h16 => ?_) (fun h16 => ?_) (fun h16 => ?_) (fun h16 => ?_) (fun h16 => ?_) (fun h16 => ?_) (fun h16 => ?_) (fun h16 => ?_) (fun h16 => ?_) (fun h16 => ?_) (fun h16 => ?_) (fun h16 => ?_) (fun h16 => ?_) (fun h16 => ?_) (fun h16 => ?_) (fun h16 => ?_) (fun h16 => ?_) (fun h16 => ?_) (fun h16 => ?_) (fun h16 => ?_) (fun h16 => ?_) (fun h16 => ?_) (fun h16 => ?_) (fun h16 => ?_) (fun h16 => ?_) (fun h16 => ?_) (fun h16 => ?_) (fun h16n0 h16n1 h16n2 h16n3 h16n4 h16n5 h16n6 h16n7 h16n8 h16n9 h16n10 h16n11 h16n12 h16n13 h16n14 h16n15 h16n16 h16n17 h16n18 h16n19 h16n20 h16n21 h16n22 h16n23 h16n24 h16n25 h16n26 => ?_)
  · exact absurd h16 (by decide)
  · exact absurd h16 (by decide)
  · exact absurd h16 (by decide)
  · exact absurd h16 (by decide)
  · exact absurd h16 (by decide)
  · exact absurd h16 (by decide)
  · exact absurd h16 (by decide)
  · exact absurd h16 (by decide)
  · exact absurd h16 (by decide)
  · exact absurd h16 (by decide)
  · exact absurd h16 (by decide)
  · exact absurd h16 (by decide)
  · exact absurd h16 (by decide)
  · exact absurd h16 (by decide)
  · exact absurd h16 (by decide)
  · exact absurd h16 (by decide)
  · exact absurd h16 (by decide)
  · exact absurd h16 (by decide)
  · exact absurd h16 (by decide)
  · exact absurd h16 (by decide)
  · exact absurd h16 (by decide)
  · refine ng_aload_0 dX9_body_300 ?_
    refine ng_bipush (v := 60) dX9_body_301 (by decide) ?_
    refine ng_callV_1v (y2 := mi_X9_began) dX9_body_303 lk_X9_269 ms_X9_began my_X9_began (by first | exact ⟨_, rfl⟩ | assumption | exact ng_fld_obj (f := 0) (by assumption)) mc_X9 (by first | decide | exact Nat.le_of_ble_eq_true rfl) (s_X9_began hv) (by omega) ?_
    refine ng_aload_0 dX9_body_306 ?_
    refine ng_iconst_0 dX9_body_307 ?_
    refine ng_iconst_1 dX9_body_308 ?_
    refine ng_iload_3 dX9_body_309 ?_
    refine ng_callV_3x (y2 := mi_X9_bodyFrom) dX9_body_310 lk_X9_259 ms_X9_bodyFrom my_X9_bodyFrom (by first | exact ⟨_, rfl⟩ | assumption | exact ng_fld_obj (f := 0) (by assumption)) mc_X9 (by first | decide | exact Nat.le_of_ble_eq_true rfl) (hq f _ _ (by omega) hb) (by omega) ?_
    refine ng_aload_0 dX9_body_313 ?_
    have e20b := (hb.rps (ng_vb K (nI S) O f (ng_bfN 7 0 1) x).1 _).2.1
    refine ng_gI dX9_body_314 fl_X9_256 (by first | rfl | assumption) ?_
    rw [e20b]
    refine ng_ixor dX9_body_317 ?_
    exact ng_ireturn dX9_body_318 ⟨rfl, by first | rfl | (simp only [ng_rps_cons, ng_rps_app]; done) | (simp only [ng_rps_cons, ng_rps_app]; rfl)⟩
  · exact absurd h16 (by decide)
  · exact absurd h16 (by decide)
  · exact absurd h16 (by decide)
  · exact absurd h16 (by decide)
  · exact absurd h16 (by decide)
  · exact absurd (by decide) h16n21
theorem rb_13 {X : Nat × (Nat → Int32)} {K O : Int32} {S : Nat} (hS : S < 8) (ho1 : ng_VO X K S O 4 1) (ho2 : ng_VO X K S O 2 2) : ng_RB X K S O 5 0 3 := by
  intro f0 x M hf hv
  obtain ⟨f, rfl⟩ : ∃ f, f0 = f + 1 := ⟨f0 - 1, by omega⟩
  obtain ⟨g1, g2, g3, g4⟩ := id hv
  have hb := hv.rp 13
  have e20 : (ng_rp M 13) 73 20 = nI S := hb.2.1
  rw [show ng_bfN 7 0 3 = 13 by decide, ng_vb_13]
  refine ng_EvX.ofI (lv := [some (.ref 73), some (.int 0), some (.int 3), some (.int x), none, none]) (ty := .int) (by decide) (Nat.le_of_ble_eq_true rfl) rfl rfl rfl ?_
  refine ng_aload_0 dX9_body_0 ?_
  refine ng_aload_0 dX9_body_1 ?_
  refine ng_gI dX9_body_2 fl_X9_256 (by first | rfl | assumption) ?_
  refine ng_iconst_2 dX9_body_5 ?_
  refine ng_callV_2x (y2 := mi_X9_of) dX9_body_6 lk_X9_108 ms_X9_of my_X9_of (by first | exact ⟨_, rfl⟩ | assumption | exact ng_fld_obj (f := 0) (by assumption)) mc_X9 (by first | decide | exact Nat.le_of_ble_eq_true rfl) (s_X9_of (j := 2) g2 rfl hS (by decide)) (by omega) ?_
  rw [show 21 + 4 * S + 2 = 23 + 4 * S by omega, g4]
  refine ng_istore_4 dX9_body_9 (by first | rfl | assumption) ?_
  refine ng_iconst_4 dX9_body_11 ?_
  refine ng_iload_1 dX9_body_12 ?_
  refine ng_imul dX9_body_13 ?_
  refine ng_iload_2 dX9_body_14 ?_
  refine ng_iadd dX9_body_15 ?_
  refine sw_X9_body_16 (fun h16 => ?_) (fun h16 => ?_) (fun h16 => ?_) (fun h16 => ?_) (fun h16 => ?_) (fun h16 => ?_) (fun h16 => ?_) (fun h16 => ?_) (fun h16 => ?_) (fun h16 => ?_) (fun h16 => ?_) (fun h16 => ?_) (fun h16 => ?_) (fun h16 => ?_) (fun h16 => ?_) (fun h16 => ?_) (fun h16 => ?_) (fun h16 => ?_) (fun h16 => ?_) (fun h16 => ?_) (fun h16 => ?_) (fun h16 => ?_) (fun h16 => ?_) (fun h16 => ?_) (fun h16 => ?_) (fun h16 => ?_) (fun h16 => ?_) (fun h16n0 h16n1 h16n2 h16n3 h16n4 h16n5 h16n6 h16n7 h16n8 h16n9 h16n10 h16n11 h16n12 h16n13 h16n14 h16n15 h16n16 h16n17 h16n18 h16n19 h16n20 h16n21 h16n22 h16n23 h16n24 h16n25 h16n26 => ?_)
  · exact absurd h16 (by decide)
  · exact absurd h16 (by decide)
  · exact absurd h16 (by decide)
  · refine ng_aload_0 dX9_body_179 ?_
    refine ng_bipush (v := 13) dX9_body_180 (by decide) ?_
    refine ng_callV_1v (y2 := mi_X9_began) dX9_body_182 lk_X9_269 ms_X9_began my_X9_began (by first | exact ⟨_, rfl⟩ | assumption | exact ng_fld_obj (f := 0) (by assumption)) mc_X9 (by first | decide | exact Nat.le_of_ble_eq_true rfl) (s_X9_began hv) (by omega) ?_
    refine ng_aload_0 dX9_body_185 ?_
    refine ng_iconst_1 dX9_body_186 ?_
    refine ng_iload_3 dX9_body_187 ?_
    refine ng_callV_2x (y2 := mi_X9_voiced) dX9_body_188 lk_X9_272 ms_X9_voiced my_X9_voiced (by first | exact ⟨_, rfl⟩ | assumption | exact ng_fld_obj (f := 0) (by assumption)) mc_X9 (by first | decide | exact Nat.le_of_ble_eq_true rfl) (ho1 f _ _ (by omega) hb) (by omega) ?_
    refine ng_istore_5 dX9_body_191 (by first | rfl | assumption) ?_
    refine ng_iload_5 dX9_body_193 ?_
    refine ng_aload_0 dX9_body_195 ?_
    refine ng_iconst_2 dX9_body_196 ?_
    refine ng_iload_3 dX9_body_197 ?_
    refine ng_callV_2x (y2 := mi_X9_voiced) dX9_body_198 lk_X9_272 ms_X9_voiced my_X9_voiced (by first | exact ⟨_, rfl⟩ | assumption | exact ng_fld_obj (f := 0) (by assumption)) mc_X9 (by first | decide | exact Nat.le_of_ble_eq_true rfl) (ho2 f _ _ (by omega) (hb.rps _ _)) (by omega) ?_
    refine ng_ixor dX9_body_201 ?_
    exact ng_ireturn dX9_body_202 ⟨rfl, by first | rfl | (simp only [ng_rps_cons, ng_rps_app]; done) | (simp only [ng_rps_cons, ng_rps_app]; rfl)⟩
  · exact absurd h16 (by decide)
  · exact absurd h16 (by decide)
  · exact absurd h16 (by decide)
  · exact absurd h16 (by decide)
  · exact absurd h16 (by decide)
  · exact absurd h16 (by decide)
  · exact absurd h16 (by decide)
  · exact absurd h16 (by decide)
  · exact absurd h16 (by decide)
  · exact absurd h16 (by decide)
  · exact absurd h16 (by decide)
  · exact absurd h16 (by decide)
  · exact absurd h16 (by decide)
  · exact absurd h16 (by decide)
  · exact absurd h16 (by decide)
  · exact absurd h16 (by decide)
  · exact absurd h16 (by decide)
  · exact absurd h16 (by decide)
  · exact absurd h16 (by decide)
  · exact absurd h16 (by decide)
  · exact absurd h16 (by decide)
  · exact absurd h16 (by decide)
  · exact absurd h16 (by decide)
  · exact absurd (by decide) h16n3
theorem rb_51 {X : Nat × (Nat → Int32)} {K O : Int32} {S : Nat} (hS : S < 8) (hq : ng_BF X K S O 5 3 3) (ho0 : ng_VO X K S O 2 0) : ng_RB X K S O 6 4 3 := by
  intro f0 x M hf hv
  obtain ⟨f, rfl⟩ : ∃ f, f0 = f + 1 := ⟨f0 - 1, by omega⟩
  obtain ⟨g1, g2, g3, g4⟩ := id hv
  have hb := hv.rp 51
  have e20 : (ng_rp M 51) 73 20 = nI S := hb.2.1
  rw [show ng_bfN 7 4 3 = 51 by decide, ng_vb_51]
  refine ng_EvX.ofI (lv := [some (.ref 73), some (.int 4), some (.int 3), some (.int x), none, none]) (ty := .int) (by decide) (Nat.le_of_ble_eq_true rfl) rfl rfl rfl ?_
  refine ng_aload_0 dX9_body_0 ?_
  refine ng_aload_0 dX9_body_1 ?_
  refine ng_gI dX9_body_2 fl_X9_256 (by first | rfl | assumption) ?_
  refine ng_iconst_2 dX9_body_5 ?_
  refine ng_callV_2x (y2 := mi_X9_of) dX9_body_6 lk_X9_108 ms_X9_of my_X9_of (by first | exact ⟨_, rfl⟩ | assumption | exact ng_fld_obj (f := 0) (by assumption)) mc_X9 (by first | decide | exact Nat.le_of_ble_eq_true rfl) (s_X9_of (j := 2) g2 rfl hS (by decide)) (by omega) ?_
  rw [show 21 + 4 * S + 2 = 23 + 4 * S by omega, g4]
  refine ng_istore_4 dX9_body_9 (by first | rfl | assumption) ?_
  refine ng_iconst_4 dX9_body_11 ?_
  refine ng_iload_1 dX9_body_12 ?_
  refine ng_imul dX9_body_13 ?_
  refine ng_iload_2 dX9_body_14 ?_
  refine ng_iadd dX9_body_15 ?_
  refine sw_X9_body_16 (fun h16 => ?_) (fun h16 => ?_) (fun h16 => ?_) (fun h16 => ?_) (fun h16 => ?_) (fun h16 => ?_) (fun h16 => ?_) (fun h16 => ?_) (fun h16 => ?_) (fun h16 => ?_) (fun h16 => ?_) (fun h16 => ?_) (fun h16 => ?_) (fun h16 => ?_) (fun h16 => ?_) (fun h16 => ?_) (fun h16 => ?_) (fun h16 => ?_) (fun h16 => ?_) (fun h16 => ?_) (fun h16 => ?_) (fun h16 => ?_) (fun h16 => ?_) (fun h16 => ?_) (fun h16 => ?_) (fun h16 => ?_) (fun h16 => ?_) (fun h16n0 h16n1 h16n2 h16n3 h16n4 h16n5 h16n6 h16n7 h16n8 h16n9 h16n10 h16n11 h16n12 h16n13 h16n14 h16n15 h16n16 h16n17 h16n18 h16n19 h16n20 h16n21 h16n22 h16n23 h16n24 h16n25 h16n26 => ?_)
  · exact absurd h16 (by decide)
  · exact absurd h16 (by decide)
  · exact absurd h16 (by decide)
  · exact absurd h16 (by decide)
  · exact absurd h16 (by decide)
  · exact absurd h16 (by decide)
  · exact absurd h16 (by decide)
  · exact absurd h16 (by decide)
  · exact absurd h16 (by decide)
  · exact absurd h16 (by decide)
  · exact absurd h16 (by decide)
  · exact absurd h16 (by decide)
  · exact absurd h16 (by decide)
  · exact absurd h16 (by decide)
  · exact absurd h16 (by decide)
  · exact absurd h16 (by decide)
  · exact absurd h16 (by decide)
  · exact absurd h16 (by decide)
  · exact absurd h16 (by decide)
  · refine ng_aload_0 dX9_body_275 ?_
    refine ng_bipush (v := 51) dX9_body_276 (by decide) ?_
    refine ng_callV_1v (y2 := mi_X9_began) dX9_body_278 lk_X9_269 ms_X9_began my_X9_began (by first | exact ⟨_, rfl⟩ | assumption | exact ng_fld_obj (f := 0) (by assumption)) mc_X9 (by first | decide | exact Nat.le_of_ble_eq_true rfl) (s_X9_began hv) (by omega) ?_
    refine ng_aload_0 dX9_body_281 ?_
    refine ng_iconst_3 dX9_body_282 ?_
    refine ng_iconst_3 dX9_body_283 ?_
    refine ng_iload_3 dX9_body_284 ?_
    refine ng_callV_3x (y2 := mi_X9_bodyFrom) dX9_body_285 lk_X9_259 ms_X9_bodyFrom my_X9_bodyFrom (by first | exact ⟨_, rfl⟩ | assumption | exact ng_fld_obj (f := 0) (by assumption)) mc_X9 (by first | decide | exact Nat.le_of_ble_eq_true rfl) (hq f _ _ (by omega) hb) (by omega) ?_
    refine ng_istore_5 dX9_body_288 (by first | rfl | assumption) ?_
    refine ng_iload_5 dX9_body_290 ?_
    refine ng_aload_0 dX9_body_292 ?_
    refine ng_iconst_0 dX9_body_293 ?_
    refine ng_iconst_2 dX9_body_294 ?_
    refine ng_callV_2x (y2 := mi_X9_voiced) dX9_body_295 lk_X9_272 ms_X9_voiced my_X9_voiced (by first | exact ⟨_, rfl⟩ | assumption | exact ng_fld_obj (f := 0) (by assumption)) mc_X9 (by first | decide | exact Nat.le_of_ble_eq_true rfl) (ho0 f _ _ (by omega) (hb.rps _ _)) (by omega) ?_
    refine ng_isub dX9_body_298 ?_
    exact ng_ireturn dX9_body_299 ⟨rfl, by first | rfl | (simp only [ng_rps_cons, ng_rps_app]; done) | (simp only [ng_rps_cons, ng_rps_app]; rfl)⟩
  · exact absurd h16 (by decide)
  · exact absurd h16 (by decide)
  · exact absurd h16 (by decide)
  · exact absurd h16 (by decide)
  · exact absurd h16 (by decide)
  · exact absurd h16 (by decide)
  · exact absurd h16 (by decide)
  · exact absurd (by decide) h16n19
theorem rb_71 {X : Nat × (Nat → Int32)} {K O : Int32} {S : Nat} (hS : S < 8) (ho1 : ng_VO X K S O 4 1) (hq : ng_BF X K S O 5 1 3) : ng_RB X K S O 6 6 3 := by
  intro f0 x M hf hv
  obtain ⟨f, rfl⟩ : ∃ f, f0 = f + 1 := ⟨f0 - 1, by omega⟩
  obtain ⟨g1, g2, g3, g4⟩ := id hv
  have hb := hv.rp 71
  have e20 : (ng_rp M 71) 73 20 = nI S := hb.2.1
  rw [show ng_bfN 7 6 3 = 71 by decide, ng_vb_71]
  refine ng_EvX.ofI (lv := [some (.ref 73), some (.int 6), some (.int 3), some (.int x), none, none]) (ty := .int) (by decide) (Nat.le_of_ble_eq_true rfl) rfl rfl rfl ?_
  refine ng_aload_0 dX9_body_0 ?_
  refine ng_aload_0 dX9_body_1 ?_
  refine ng_gI dX9_body_2 fl_X9_256 (by first | rfl | assumption) ?_
  refine ng_iconst_2 dX9_body_5 ?_
  refine ng_callV_2x (y2 := mi_X9_of) dX9_body_6 lk_X9_108 ms_X9_of my_X9_of (by first | exact ⟨_, rfl⟩ | assumption | exact ng_fld_obj (f := 0) (by assumption)) mc_X9 (by first | decide | exact Nat.le_of_ble_eq_true rfl) (s_X9_of (j := 2) g2 rfl hS (by decide)) (by omega) ?_
  rw [show 21 + 4 * S + 2 = 23 + 4 * S by omega, g4]
  refine ng_istore_4 dX9_body_9 (by first | rfl | assumption) ?_
  refine ng_iconst_4 dX9_body_11 ?_
  refine ng_iload_1 dX9_body_12 ?_
  refine ng_imul dX9_body_13 ?_
  refine ng_iload_2 dX9_body_14 ?_
  refine ng_iadd dX9_body_15 ?_
  refine sw_X9_body_16 (fun h16 => ?_) (fun h16 => ?_) (fun h16 => ?_) (fun h16 => ?_) (fun h16 => ?_) (fun h16 => ?_) (fun h16 => ?_) (fun h16 => ?_) (fun h16 => ?_) (fun h16 => ?_) (fun h16 => ?_) (fun h16 => ?_) (fun h16 => ?_) (fun h16 => ?_) (fun h16 => ?_) (fun h16 => ?_) (fun h16 => ?_) (fun h16 => ?_) (fun h16 => ?_) (fun h16 => ?_) (fun h16 => ?_) (fun h16 => ?_) (fun h16 => ?_) (fun h16 => ?_) (fun h16 => ?_) (fun h16 => ?_) (fun h16 => ?_) (fun h16n0 h16n1 h16n2 h16n3 h16n4 h16n5 h16n6 h16n7 h16n8 h16n9 h16n10 h16n11 h16n12 h16n13 h16n14 h16n15 h16n16 h16n17 h16n18 h16n19 h16n20 h16n21 h16n22 h16n23 h16n24 h16n25 h16n26 => ?_)
  · exact absurd h16 (by decide)
  · exact absurd h16 (by decide)
  · exact absurd h16 (by decide)
  · exact absurd h16 (by decide)
  · exact absurd h16 (by decide)
  · exact absurd h16 (by decide)
  · exact absurd h16 (by decide)
  · exact absurd h16 (by decide)
  · exact absurd h16 (by decide)
  · exact absurd h16 (by decide)
  · exact absurd h16 (by decide)
  · exact absurd h16 (by decide)
  · exact absurd h16 (by decide)
  · exact absurd h16 (by decide)
  · exact absurd h16 (by decide)
  · exact absurd h16 (by decide)
  · exact absurd h16 (by decide)
  · exact absurd h16 (by decide)
  · exact absurd h16 (by decide)
  · exact absurd h16 (by decide)
  · exact absurd h16 (by decide)
  · exact absurd h16 (by decide)
  · exact absurd h16 (by decide)
  · exact absurd h16 (by decide)
  · exact absurd h16 (by decide)
  · exact absurd h16 (by decide)
  · exact absurd h16 (by decide)
  · refine ng_aload_0 dX9_body_336 ?_
    refine ng_bipush (v := 71) dX9_body_337 (by decide) ?_
    refine ng_callV_1v (y2 := mi_X9_began) dX9_body_339 lk_X9_269 ms_X9_began my_X9_began (by first | exact ⟨_, rfl⟩ | assumption | exact ng_fld_obj (f := 0) (by assumption)) mc_X9 (by first | decide | exact Nat.le_of_ble_eq_true rfl) (s_X9_began hv) (by omega) ?_
    refine ng_aload_0 dX9_body_342 ?_
    refine ng_iconst_1 dX9_body_343 ?_
    refine ng_iload_3 dX9_body_344 ?_
    refine ng_callV_2x (y2 := mi_X9_voiced) dX9_body_345 lk_X9_272 ms_X9_voiced my_X9_voiced (by first | exact ⟨_, rfl⟩ | assumption | exact ng_fld_obj (f := 0) (by assumption)) mc_X9 (by first | decide | exact Nat.le_of_ble_eq_true rfl) (ho1 f _ _ (by omega) hb) (by omega) ?_
    refine ng_istore_5 dX9_body_348 (by first | rfl | assumption) ?_
    refine ng_iload_5 dX9_body_350 ?_
    refine ng_aload_0 dX9_body_352 ?_
    refine ng_iconst_1 dX9_body_353 ?_
    refine ng_iconst_3 dX9_body_354 ?_
    refine ng_iload_3 dX9_body_355 ?_
    refine ng_callV_3x (y2 := mi_X9_bodyFrom) dX9_body_356 lk_X9_259 ms_X9_bodyFrom my_X9_bodyFrom (by first | exact ⟨_, rfl⟩ | assumption | exact ng_fld_obj (f := 0) (by assumption)) mc_X9 (by first | decide | exact Nat.le_of_ble_eq_true rfl) (hq f _ _ (by omega) (hb.rps _ _)) (by omega) ?_
    refine ng_isub dX9_body_359 ?_
    exact ng_ireturn dX9_body_360 ⟨rfl, by first | rfl | (simp only [ng_rps_cons, ng_rps_app]; done) | (simp only [ng_rps_cons, ng_rps_app]; rfl)⟩
theorem vo_all {X : Nat × (Nat → Int32)} {K O : Int32} {S : Nat} (hS : S < 8) (hK : K = 0 ∨ K = 1 ∨ K = 2 ∨ K = 3 ∨ K = 4 ∨ K = 5 ∨ K = 6) : ng_VO X K S O 2 0 ∧ ng_VO X K S O 4 1 ∧ ng_VO X K S O 2 2 ∧ ng_VO X K S O 6 3 := by
  have b10 := rb_10 (X := X) (K := K) (O := O) hS
  have b12 := rb_12 (X := X) (K := K) (O := O) hS
  have b30 := rb_30 (X := X) (K := K) (O := O) hS (ng_RB.bf (kb := 0) (by decide) b10 (by decide) (by decide))
  have b50 := rb_50 (X := X) (K := K) (O := O) hS (ng_RB.bf (kb := 0) (by decide) b10 (by decide) (by decide))
  have b40 := rb_40 (X := X) (K := K) (O := O) hS (ng_RB.bf (kb := 0) (by decide) b12 (by decide) (by decide))
  have b70 := rb_70 (X := X) (K := K) (O := O) hS (ng_RB.bf (kb := 0) (by decide) b12 (by decide) (by decide))
  have o0 : ng_VO X K S O 2 0 := by
    refine ng_BF.vo hS ?_
    rcases hK with rfl | rfl | rfl | rfl | rfl | rfl | rfl
    · exact ng_RB.bf (kb := 0) (by decide) (b10.le (by decide)) (by decide) (by decide)
    · exact ng_RB.bf (kb := 0) (by decide) (b10.le (by decide)) (by decide) (by decide)
    · exact ng_RB.bf (kb := 2) (by decide) b30 (by decide) (by decide)
    · exact ng_RB.bf (kb := 0) (by decide) (b10.le (by decide)) (by decide) (by decide)
    · exact ng_RB.bf (kb := 4) (by decide) b50 (by decide) (by decide)
    · exact ng_RB.bf (kb := 0) (by decide) (b10.le (by decide)) (by decide) (by decide)
    · exact ng_RB.bf (kb := 0) (by decide) (b10.le (by decide)) (by decide) (by decide)
  have o2 : ng_VO X K S O 2 2 := by
    refine ng_BF.vo hS ?_
    rcases hK with rfl | rfl | rfl | rfl | rfl | rfl | rfl
    · exact ng_RB.bf (kb := 0) (by decide) (b12.le (by decide)) (by decide) (by decide)
    · exact ng_RB.bf (kb := 0) (by decide) (b12.le (by decide)) (by decide) (by decide)
    · exact ng_RB.bf (kb := 0) (by decide) (b12.le (by decide)) (by decide) (by decide)
    · exact ng_RB.bf (kb := 3) (by decide) b40 (by decide) (by decide)
    · exact ng_RB.bf (kb := 3) (by decide) b40 (by decide) (by decide)
    · exact ng_RB.bf (kb := 0) (by decide) (b12.le (by decide)) (by decide) (by decide)
    · exact ng_RB.bf (kb := 6) (by decide) b70 (by decide) (by decide)
  have b11 := rb_11 (X := X) (K := K) (O := O) hS o0
  have b20 := rb_20 (X := X) (K := K) (O := O) hS (ng_RB.bf (kb := 0) (by decide) b11 (by decide) (by decide)) o2
  have b60 := rb_60 (X := X) (K := K) (O := O) hS (ng_RB.bf (kb := 0) (by decide) b11 (by decide) (by decide))
  have o1 : ng_VO X K S O 4 1 := by
    refine ng_BF.vo hS ?_
    rcases hK with rfl | rfl | rfl | rfl | rfl | rfl | rfl
    · exact ng_RB.bf (kb := 0) (by decide) (b11.le (by decide)) (by decide) (by decide)
    · exact ng_RB.bf (kb := 1) (by decide) b20 (by decide) (by decide)
    · exact ng_RB.bf (kb := 1) (by decide) b20 (by decide) (by decide)
    · exact ng_RB.bf (kb := 0) (by decide) (b11.le (by decide)) (by decide) (by decide)
    · exact ng_RB.bf (kb := 0) (by decide) (b11.le (by decide)) (by decide) (by decide)
    · exact ng_RB.bf (kb := 5) (by decide) b60 (by decide) (by decide)
    · exact ng_RB.bf (kb := 1) (by decide) b20 (by decide) (by decide)
  have b13 := rb_13 (X := X) (K := K) (O := O) hS o1 o2
  have b51 := rb_51 (X := X) (K := K) (O := O) hS (ng_RB.bf (kb := 0) (by decide) b13 (by decide) (by decide)) o0
  have b71 := rb_71 (X := X) (K := K) (O := O) hS o1 (ng_RB.bf (kb := 0) (by decide) b13 (by decide) (by decide))
  refine ⟨o0, o1, o2, ?_⟩
  refine ng_BF.vo hS ?_
  rcases hK with rfl | rfl | rfl | rfl | rfl | rfl | rfl
  · exact ng_RB.bf (kb := 0) (by decide) (b13.le (by decide)) (by decide) (by decide)
  · exact ng_RB.bf (kb := 0) (by decide) (b13.le (by decide)) (by decide) (by decide)
  · exact ng_RB.bf (kb := 0) (by decide) (b13.le (by decide)) (by decide) (by decide)
  · exact ng_RB.bf (kb := 0) (by decide) (b13.le (by decide)) (by decide) (by decide)
  · exact ng_RB.bf (kb := 4) (by decide) b51 (by decide) (by decide)
  · exact ng_RB.bf (kb := 0) (by decide) (b13.le (by decide)) (by decide) (by decide)
  · exact ng_RB.bf (kb := 6) (by decide) b71 (by decide) (by decide)
def ng_voE (M : ng_M) (b a : Int32) : Nat ⊕ Unit := if (ng_in b 0 (M 74 1 - 1) && ng_in a 0 3) = true then .inr () else .inl 1
abbrev ng_vres (a : ng_R) (b act x : Int32) : List Int32 × Int32 := ng_vb (a (21 + 4 * b.toNatClampNeg)) b (a (23 + 4 * b.toNatClampNeg)) 20 (ng_bfN 7 (a (21 + 4 * b.toNatClampNeg)) act) x
abbrev ng_vm0 (M : ng_M) (b : Int32) : ng_M := ng_row M 58 (upd (upd (upd (upd (M 58) 2 (M 74 (21 + 4 * b.toNatClampNeg))) 3 b) 4 (M 74 (23 + 4 * b.toNatClampNeg))) 1 0)
theorem c_voice {X : Nat × (Nat → Int32)} {M : ng_M} {b act x : Int32} {n : Nat} (h : ng_I1 M) (hn : M 74 1 = nI n) (hn8 : n ≤ 8) : ng_EvI X 47 mi_X8_voice [.ref 0, .int b, .int act, .int x] M (ng_e8 M (ng_voE M b act) (fun _ => (ng_vres (M 74) b act x).2) (fun _ M1 => M1 = ng_tps (ng_vm0 M b) (ng_vres (M 74) b act x).1)) := by
  have hI := h.1.rl
  have e1 : M 2 6 = M 74 1 := hI.1.2.2.1
  refine ng_EvI.of (lv := [some (.ref 0), some (.int b), some (.int act), some (.int x)]) (ty := .int) (by decide) (Nat.le_of_ble_eq_true rfl) rfl rfl (fun _ _ _ => rfl) ?_
  unfold ng_voE
  refine ng_aload_0 dX8_voice_0 ?_
  refine ng_gR dX8_voice_1 fl_X8_12 (by first | rfl | assumption) ?_
  refine ng_gR dX8_voice_4 fl_X8_21 (by first | rfl | assumption) ?_
  refine ng_iload_1 dX8_voice_7 ?_
  refine ng_callV_1x (y2 := mi_X3_isBuyer) dX8_voice_8 lk_X8_102 ms_X3_isBuyer my_X3_isBuyer (by first | exact ⟨_, rfl⟩ | assumption | exact ng_fld_obj (f := 0) (by assumption)) mc_X3 (by first | decide | exact Nat.le_of_ble_eq_true rfl) (s_X3_isBuyer) (by decide) ?_
  rw [e1]
  refine ng_ifb_eq 23 dX8_voice_11 (by decide +kernel) (fun h11 => ?_) (fun h11 => ?_)
  · refine ng_aload_0 dX8_voice_23 ?_
    refine ng_ldc dX8_voice_24 kc_X8_65 ?_
    refine ng_callV_1x (y2 := mi_X8_fails) dX8_voice_26 lk_X8_66 ms_X8_fails my_X8_fails (by first | exact ⟨_, rfl⟩ | assumption | exact ng_fld_obj (f := 0) (by assumption)) mc_X8 (by first | decide | exact Nat.le_of_ble_eq_true rfl) (s_X8_fails (k := 1) (by decide) (by decide) (by decide)) (by decide) ?_
    exact ng_ireturn dX8_voice_29 ⟨_, rfl, by rw [if_neg (by simp_all)]; exact ⟨by decide, rfl⟩⟩
  · refine ng_iload_2 dX8_voice_14 ?_
    refine ng_iconst_0 dX8_voice_15 ?_
    refine ng_iconst_3 dX8_voice_16 ?_
    refine ng_callS_3x (y2 := mi_X8_isWithin) dX8_voice_17 lk_X8_61 ms_X8_isWithin my_X8_isWithin (by first | decide | exact Nat.le_of_ble_eq_true rfl) (s_X8_isWithin) (by decide) ?_
    refine ng_ifb_ne 30 dX8_voice_20 (by decide +kernel) (fun h20 => ?_) (fun h20 => ?_)
    · obtain ⟨q1, q2, q3⟩ := ng_vp_m h11 hn hn8 (by decide)
      have w1 := (hI.1.2.1 b.toNatClampNeg (by omega)).1
      have w2 := (hI.1.2.1 b.toNatClampNeg (by omega)).2.2
      have hsp := s_X6_speaks (X := X) (M := M) (x := x) q3 (by omega) h20
      rw [w1, w2] at hsp
      refine ng_aload_0 dX8_voice_30 ?_
      refine ng_gR dX8_voice_31 fl_X8_35 (by first | rfl | assumption) ?_
      refine ng_aload_0 dX8_voice_34 ?_
      refine ng_gR dX8_voice_35 fl_X8_12 (by first | rfl | assumption) ?_
      refine ng_gR dX8_voice_38 fl_X8_21 (by first | rfl | assumption) ?_
      refine ng_iload_1 dX8_voice_41 ?_
      refine ng_iload_2 dX8_voice_42 ?_
      refine ng_iload_3 dX8_voice_43 ?_
      refine ng_callV_4x (y2 := mi_X6_speaks) dX8_voice_44 lk_X8_259 ms_X6_speaks my_X6_speaks (by first | exact ⟨_, rfl⟩ | assumption | exact ng_fld_obj (f := 0) (by assumption)) mc_X6 (by first | decide | exact Nat.le_of_ble_eq_true rfl) (hsp) (by decide) ?_
      exact ng_ireturn dX8_voice_47 ⟨_, rfl, by rw [if_pos (by rw [h11, h20]; rfl)]; exact ⟨rfl, rfl⟩⟩
    · refine ng_aload_0 dX8_voice_23 ?_
      refine ng_ldc dX8_voice_24 kc_X8_65 ?_
      refine ng_callV_1x (y2 := mi_X8_fails) dX8_voice_26 lk_X8_66 ms_X8_fails my_X8_fails (by first | exact ⟨_, rfl⟩ | assumption | exact ng_fld_obj (f := 0) (by assumption)) mc_X8 (by first | decide | exact Nat.le_of_ble_eq_true rfl) (s_X8_fails (k := 1) (by decide) (by decide) (by decide)) (by decide) ?_
      exact ng_ireturn dX8_voice_29 ⟨_, rfl, by rw [if_neg (by simp_all)]; exact ⟨by decide, rfl⟩⟩
theorem ng_act {a : Int32} (h : ng_in a 0 3 = true) : a = 0 ∨ a = 1 ∨ a = 2 ∨ a = 3 := by
  have q := ng_vin h (n := 4) (by decide)
  have e := ng_nat q.1
  have c : a.toNatClampNeg = 0 ∨ a.toNatClampNeg = 1 ∨ a.toNatClampNeg = 2 ∨ a.toNatClampNeg = 3 := by omega
  rcases c with c | c | c | c <;> rw [c] at e <;> rw [e] <;> decide
abbrev ng_vm1 (M : ng_M) (b : Int32) : ng_M := ng_row M 73 (upd (upd (M 73) 19 0) 20 b)
theorem r_voice {X : Nat × (Nat → Int32)} {M : ng_M} {b act x : Int32} {n : Nat} (h : ng_ok (M 74)) (hn : M 74 1 = nI n) (hn8 : n ≤ 8) : ng_EvI X 30 mi_X9_voice [.ref 73, .int b, .int act, .int x] M (ng_e9 M (ng_voE M b act) (fun _ => (ng_vres (M 74) b act x).2) (fun _ M1 => M1 = ng_rps (ng_vm1 M b) (ng_vres (M 74) b act x).1)) := by
  refine ng_EvI.of (lv := [some (.ref 73), some (.int b), some (.int act), some (.int x)]) (ty := .int) (by decide) (Nat.le_of_ble_eq_true rfl) rfl rfl (fun _ _ _ => rfl) ?_
  unfold ng_voE
  refine ng_aload_0 dX9_voice_0 ?_
  refine ng_iload_1 dX9_voice_1 ?_
  refine ng_callV_1x (y2 := mi_X9_is) dX9_voice_2 lk_X9_105 ms_X9_is my_X9_is (by first | exact ⟨_, rfl⟩ | assumption | exact ng_fld_obj (f := 0) (by assumption)) mc_X9 (by first | decide | exact Nat.le_of_ble_eq_true rfl) (s_X9_is) (by decide) ?_
  refine ng_ifb_eq 17 dX9_voice_5 (by decide +kernel) (fun h5 => ?_) (fun h5 => ?_)
  · refine ng_aload_0 dX9_voice_17 ?_
    refine ng_ldc dX9_voice_18 kc_X9_91 ?_
    refine ng_callV_1x (y2 := mi_X9_finding) dX9_voice_20 lk_X9_92 ms_X9_finding my_X9_finding (by first | exact ⟨_, rfl⟩ | assumption | exact ng_fld_obj (f := 0) (by assumption)) mc_X9 (by first | decide | exact Nat.le_of_ble_eq_true rfl) (s_X9_finding (k := 1) (by decide) (by decide) (by decide)) (by decide) ?_
    exact ng_ireturn dX9_voice_23 ⟨_, rfl, by rw [if_neg (by simp_all)]; exact ⟨by decide, rfl⟩⟩
  · refine ng_iload_2 dX9_voice_8 ?_
    refine ng_iconst_0 dX9_voice_9 ?_
    refine ng_iconst_3 dX9_voice_10 ?_
    refine ng_callS_3x (y2 := mi_X9_within) dX9_voice_11 lk_X9_80 ms_X9_within my_X9_within (by first | decide | exact Nat.le_of_ble_eq_true rfl) (s_X9_within) (by decide) ?_
    refine ng_ifb_ne 24 dX9_voice_14 (by decide +kernel) (fun h14 => ?_) (fun h14 => ?_)
    · obtain ⟨q1, q2, q3⟩ := ng_vp_m h5 hn hn8 (by decide)
      have hkk := h.1 (21 + 4 * b.toNatClampNeg) (by omega)
      rw [(ng_b_ki b.toNatClampNeg (by omega)).1, (ng_b_ki b.toNatClampNeg (by omega)).2] at hkk
      have hK := ng_k7 hkk.1 hkk.2
      have hall := vo_all (X := X) (O := M 74 (23 + 4 * b.toNatClampNeg)) (S := b.toNatClampNeg) (by omega) hK
      have hvd : ng_vd (M 74 (21 + 4 * b.toNatClampNeg)) b.toNatClampNeg (M 74 (23 + 4 * b.toNatClampNeg)) (ng_vm1 M b) := by
        unfold ng_vm1 ng_vd
        refine ⟨⟨0, by rw [ng_row_eq, ng_upd_ne (by decide), ng_upd_eq]; rfl, by omega⟩, ?_, by rw [ng_row_ne (by decide)], by rw [ng_row_ne (by decide)]⟩
        rw [ng_row_eq, ng_upd_eq]; exact q3
      have hvo : ng_EvX X 20 mi_X9_voiced [.ref 73, .int act, .int x] (ng_vm1 M b) (some (.int (ng_vres (M 74) b act x).2)) (ng_rps (ng_vm1 M b) (ng_vres (M 74) b act x).1) := by
        unfold ng_vres
        rcases ng_act h14 with rfl | rfl | rfl | rfl
        · have z := hall.1 20 x _ (by decide) hvd
          rw [← q3] at z
          exact ng_Ev.up z (by decide)
        · have z := hall.2.1 20 x _ (by decide) hvd
          rw [← q3] at z
          exact ng_Ev.up z (by decide)
        · have z := hall.2.2.1 20 x _ (by decide) hvd
          rw [← q3] at z
          exact ng_Ev.up z (by decide)
        · have z := hall.2.2.2 20 x _ (by decide) hvd
          rw [← q3] at z
          exact ng_Ev.up z (by decide)
      refine ng_aload_0 dX9_voice_24 ?_
      refine ng_iconst_0 dX9_voice_25 ?_
      refine ng_pI dX9_voice_26 fp_X9_253 (by first | rfl | assumption) rfl rfl ?_
      refine ng_aload_0 dX9_voice_29 ?_
      refine ng_iload_1 dX9_voice_30 ?_
      refine ng_pI dX9_voice_31 fp_X9_256 (by first | rfl | assumption) rfl rfl ?_
      refine ng_aload_0 dX9_voice_34 ?_
      refine ng_iload_2 dX9_voice_35 ?_
      refine ng_iload_3 dX9_voice_36 ?_
      simp only [ng_row_row, ng_row_eq]
      refine ng_callV_2x (y2 := mi_X9_voiced) dX9_voice_37 lk_X9_272 ms_X9_voiced my_X9_voiced (by first | exact ⟨_, rfl⟩ | assumption | exact ng_fld_obj (f := 0) (by assumption)) mc_X9 (by first | decide | exact Nat.le_of_ble_eq_true rfl) (hvo) (by decide) ?_
      exact ng_ireturn dX9_voice_40 ⟨_, rfl, by rw [if_pos (by rw [h5, h14]; rfl)]; exact ⟨rfl, rfl⟩⟩
    · refine ng_aload_0 dX9_voice_17 ?_
      refine ng_ldc dX9_voice_18 kc_X9_91 ?_
      refine ng_callV_1x (y2 := mi_X9_finding) dX9_voice_20 lk_X9_92 ms_X9_finding my_X9_finding (by first | exact ⟨_, rfl⟩ | assumption | exact ng_fld_obj (f := 0) (by assumption)) mc_X9 (by first | decide | exact Nat.le_of_ble_eq_true rfl) (s_X9_finding (k := 1) (by decide) (by decide) (by decide)) (by decide) ?_
      exact ng_ireturn dX9_voice_23 ⟨_, rfl, by rw [if_neg (by simp_all)]; exact ⟨by decide, rfl⟩⟩
theorem ng_inv_I4 {M M' : ng_M} (h : ng_inv M) (h4 : ng_I4 M') (ho : ∀ k, k ≠ 58 → k ≠ 59 → k ≠ 73 → k ≠ 85 → M' k = M k) (h3 : M' 73 3 = M 73 3) : ng_inv M' := by
  obtain ⟨i1, i2, i3, i4, i5, i6⟩ := h
  exact ⟨i1.congr (fun k k1 k2 => ho k (by omega) (by omega) (by omega) (by omega)) (ho 74 (by decide) (by decide) (by decide) (by decide)), i2.congr (fun k k1 k2 => ho k (by omega) (by omega) (by omega) (by omega)) (by rw [ho 0 (by decide) (by decide) (by decide) (by decide)]) h3 (ho 75 (by decide) (by decide) (by decide) (by decide)), i3.congr (ho 72 (by decide) (by decide) (by decide) (by decide)) (ho 77 (by decide) (by decide) (by decide) (by decide)), h4, i5.congr (fun k k1 k2 => ho k (by omega) (by omega) (by omega) (by omega)) (ho 86 (by decide) (by decide) (by decide) (by decide)) (ho 87 (by decide) (by decide) (by decide) (by decide)) (ho 88 (by decide) (by decide) (by decide) (by decide)), i6.congr (ho 78 (by decide) (by decide) (by decide) (by decide))⟩
theorem ng_tps_ne {k : Nat} (h1 : k ≠ 58) (h2 : k ≠ 59) : ∀ (l : List Int32) (M : ng_M), ng_tps M l k = M k
  | [], _ => rfl
  | b :: l, M => by
    rw [← ng_tps_cons, ng_tps_ne h1 h2 l (ng_tp M b)]
    unfold ng_tp
    split
    · rw [ng_row_ne h1, ng_row_ne h2]
    · rfl
theorem ng_rps_ne {k : Nat} (h1 : k ≠ 73) (h2 : k ≠ 85) : ∀ (l : List Int32) (M : ng_M), ng_rps M l k = M k
  | [], _ => rfl
  | b :: l, M => by
    rw [← ng_rps_cons, ng_rps_ne h1 h2 l (ng_rp M b)]
    unfold ng_rp
    split
    · rw [ng_row_ne h1, ng_row_ne h2]
    · rfl
theorem ng_rps_3 : ∀ (l : List Int32) (M : ng_M), ng_rps M l 73 3 = M 73 3
  | [], _ => rfl
  | b :: l, M => by
    rw [← ng_rps_cons, ng_rps_3 l (ng_rp M b)]
    unfold ng_rp
    split
    · rw [ng_row_eq, ng_upd_ne (by decide)]
    · rfl
def ng_tw (A B : ng_M) : Prop := A 58 1 = B 73 19 ∧ ∃ n, B 73 19 = nI n ∧ n ≤ 40 ∧ ∀ j, j < n → A 59 j = B 85 j
theorem ng_tw.push {A B : ng_M} (h : ng_tw A B) (b : Int32) : ng_tw (ng_tp A b) (ng_rp B b) := by
  obtain ⟨h1, n, h2, h3, h4⟩ := h
  unfold ng_tp ng_rp
  by_cases q : B 73 19 < 40
  · rw [h1, if_pos q, if_pos q]
    have hlt : n < 40 := (ng_lt40 h3).mp (by rw [← h2]; exact q)
    have hc : (B 73 19).toNatClampNeg = n := by rw [h2, nI_clamp (by omega)]
    refine ⟨?_, n + 1, ?_, by omega, fun j hj => ?_⟩
    · rw [ng_row_eq, ng_upd_eq, ng_row_eq, ng_upd_eq]
    · rw [ng_row_eq, ng_upd_eq, h2, nI_1]
    · rw [ng_row_ne (by decide), ng_row_eq, ng_row_ne (by decide), ng_row_eq, hc]
      by_cases e : j = n
      · subst e; rw [ng_upd_eq, ng_upd_eq]
      · rw [ng_upd_ne e, ng_upd_ne e]; exact h4 j (by omega)
  · rw [h1, if_neg q, if_neg q]
    exact ⟨h1, n, h2, h3, h4⟩
theorem ng_tw.pushes : ∀ (l : List Int32) (A B : ng_M), ng_tw A B → ng_tw (ng_tps A l) (ng_rps B l)
  | [], _, _, h => h
  | b :: l, A, B, h => ng_tw.pushes l (ng_tp A b) (ng_rp B b) (h.push b)
theorem pr_voice {X : Nat × (Nat → Int32)} {M : ng_M} {b act x : Int32} (h : ng_inv M) : ng_pair X mi_X8_voice mi_X9_voice [.int b, .int act, .int x] M := by
  obtain ⟨n, hn, hn8⟩ := h.1.2.wfr.1.1.1
  refine ng_pair.E h (c_voice h.1 hn hn8) (by decide) (d9 := 30) (by decide) (fun M1 e => ?_) (fun x M1 hE hm k hk => by rw [hm, ng_tps_ne (by omega) (by omega), ng_vm0, ng_row_ne (by omega)]) (fun _ M1 M2 hE hm hr => ?_) (mR := fun M1 _ M2 => M2 = ng_rps (ng_vm1 M1 b) (ng_vres (M 74) b act x).1)
  · have hE : ng_voE M b act = ng_voE M1 b act := by unfold ng_voE; rw [e 74 (by decide)]
    rw [hE, ← e 74 (by decide)]
    exact r_voice (by rw [e 74 (by decide)]; exact h.1.2) (by rw [e 74 (by decide)]; exact hn) hn8
  · rw [hr]
    have t0 : ng_tw (ng_vm0 M b) (ng_vm1 M1 b) := by
      unfold ng_vm0 ng_vm1 ng_tw
      refine ⟨?_, 0, ?_, by omega, fun j hj => absurd hj (by omega)⟩
      · rw [ng_row_eq, ng_upd_eq, ng_row_eq, ng_upd_ne (by decide), ng_upd_eq]
      · rw [ng_row_eq, ng_upd_ne (by decide), ng_upd_eq]; rfl
    have t1 := ng_tw.pushes (ng_vres (M 74) b act x).1 _ _ t0
    rw [← hm] at t1
    obtain ⟨w1, n1, w2, w3, w4⟩ := t1
    have e58 : ng_rps (ng_vm1 M1 b) (ng_vres (M 74) b act x).1 58 = M1 58 := by rw [ng_rps_ne (by decide) (by decide), ng_vm1, ng_row_ne (by decide)]
    have e59 : ng_rps (ng_vm1 M1 b) (ng_vres (M 74) b act x).1 59 = M1 59 := by rw [ng_rps_ne (by decide) (by decide), ng_vm1, ng_row_ne (by decide)]
    refine ng_inv_I4 h ⟨by rw [e58]; exact w1, n1, w2, w3, fun j hj => by rw [e59]; exact w4 j hj⟩ (fun k k1 k2 k3 k4 => ?_) ?_
    · rw [ng_rps_ne k3 k4, ng_vm1, ng_row_ne k3, hm, ng_tps_ne k1 k2, ng_vm0, ng_row_ne k1]
    · rw [ng_rps_3, ng_vm1, ng_row_eq, ng_upd_ne (by decide), ng_upd_ne (by decide), hm, ng_tps_ne (by decide) (by decide), ng_vm0, ng_row_ne (by decide)]

