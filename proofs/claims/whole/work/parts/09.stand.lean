/-! ===== the class: texts' small methods, what a stand's small methods answer ===== -/
def ng_isF (f : Nat) : Prop := f = 7 ∨ f = 11 ∨ f = 26 ∨ f = 30
theorem ng_F {f : Nat} (h : ng_isF f) : ng_fld f 0 = some (0, some (f + 1)) ∧ ng_fld f 1 = some (0, none) ∧ ng_fld f 2 = some (0, some (f + 2)) ∧ ng_fld f 3 = some (0, some (f + 3)) ∧ ng_HS[f + 1]? = some (.inr (.inl 50)) ∧ ng_HS[f + 2]? = some (.inr (.inl 4)) ∧ ng_HS[f + 3]? = some (.inr (.inl 50)) := by
  rcases h with rfl | rfl | rfl | rfl <;> exact ⟨rfl, rfl, rfl, rfl, rfl, rfl, rfl⟩
/-- the stands over the rules 2 -/
def ng_isS (s : Nat) : Prop := s = 15 ∨ s = 41 ∨ s = 44 ∨ s = 47 ∨ s = 50 ∨ s = 53
theorem ng_S {s : Nat} (h : ng_isS s) : (ng_fld s 0 = some (5, some 2) ∧ ng_fld s 1 = some (5, some (s + 1)) ∧ ng_fld s 2 = some (5, some (s + 2)) ∧ ng_fld s 3 = some (5, none) ∧ ng_fld s 4 = some (5, none) ∧ ng_fld s 5 = some (5, none) ∧ ng_fld s 6 = some (5, none) ∧ ng_fld s 7 = some (5, none) ∧ ng_fld s 8 = some (5, none) ∧ ng_fld s 9 = some (5, none) ∧ ng_fld s 10 = some (5, none) ∧ ng_fld s 11 = some (5, none)) ∧ ng_HS[s + 1]? = some (.inr (.inl 8)) ∧ ng_HS[s + 2]? = some (.inr (.inl 8)) ∧ ng_obj s 5 ∧ 15 ≤ s := by
  rcases h with rfl | rfl | rfl | rfl | rfl | rfl <;> exact ⟨⟨rfl, rfl, rfl, rfl, rfl, rfl, rfl, rfl, rfl, rfl, rfl, rfl⟩, rfl, rfl, ⟨_, rfl⟩, by decide⟩
def ng_joined (op a b : Int32) : Int32 :=
  if op = 124 then (if ¬ a = 0 then 1 else if b = 0 then 0 else 1)
  else if op = 38 then (if a = 0 then 0 else if b = 0 then 0 else 1)
  else if op = 60 then (if b ≤ a then 0 else 1)
  else if op = 61 then (if ¬ a = b then 0 else 1)
  else if op = 62 then (if a ≤ b then 0 else 1)
  else if op = 43 then a + b
  else if op = 45 then a - b
  else if op = 42 then a * b
  else if op = 47 then (if b = 0 then 0 else a / b)
  else (if b = 0 then 0 else a - a / b * b)
def ng_due (k c : Int32) : Int32 := if k = 4 then c / 2 else if k = 5 then 2 * c / 3 else c
def ng_risen (pl la st : Int32) : Int32 := if st ≤ la then pl else pl + pl / 5
def ng_worth (k pl hs nm la st : Int32) : Int32 :=
  if k = 1 then ng_risen pl la st
  else if k = 2 then ng_risen pl la st - 3 * hs
  else if k = 3 then (if hs < 6 then pl else 0)
  else if k = 4 then (if hs < 6 then 2 * pl else 0)
  else if k = 5 then pl / 2
  else if k = 6 then ng_risen pl la st + 5 * nm
  else pl
def ng_min (a b : Int32) : Int32 := if b < a then b else a
def ng_max (a b : Int32) : Int32 := if a < b then b else a
def ng_takes (k t hs la st : Int32) : Int32 :=
  if k = 2 then (if st ≤ la then t else 2 * t)
  else if k = 3 then ng_max 0 (ng_min t (6 - hs))
  else if k = 4 then ng_max 0 (ng_min t (6 - hs))
  else t
def ng_buys (k t c pl hs nm la st left : Int32) : Int32 :=
  if left ≤ 0 then 0 else if ng_due k c ≤ ng_worth k pl hs nm la st then ng_min left (ng_takes k t hs la st) else 0
theorem sw_X0_joined_1 {X : Nat × (Nat → Int32)} {d : Nat} {lv : ng_L} {st : List Value} {M : ng_M} {F : Option Value → ng_M → Prop} {x : Int32} (k0 : x = 38 → ng_Go X mi_X0_joined d 98 lv st M F) (k1 : x = 42 → ng_Go X mi_X0_joined d 153 lv st M F) (k2 : x = 43 → ng_Go X mi_X0_joined d 145 lv st M F) (k3 : x = 45 → ng_Go X mi_X0_joined d 149 lv st M F) (k4 : x = 47 → ng_Go X mi_X0_joined d 157 lv st M F) (k5 : x = 60 → ng_Go X mi_X0_joined d 112 lv st M F) (k6 : x = 61 → ng_Go X mi_X0_joined d 123 lv st M F) (k7 : x = 62 → ng_Go X mi_X0_joined d 134 lv st M F) (k8 : x = 124 → ng_Go X mi_X0_joined d 84 lv st M F) (kd : ¬ x = 38 → ¬ x = 42 → ¬ x = 43 → ¬ x = 45 → ¬ x = 47 → ¬ x = 60 → ¬ x = 61 → ¬ x = 62 → ¬ x = 124 → ng_Go X mi_X0_joined d 169 lv st M F) : ng_Go X mi_X0_joined d 1 lv (.int x :: st) M F := by
  by_cases h0 : x = 38
  · subst h0
    intro l D cA ad A p e R s m args below meth c cells slots Q C fin H locs ls hP hS hl
    exact lv_lookup (tgt := 98) C.1.1 C.1.2.1 dX0_joined_1 (by decide +kernel) rfl (by decide +kernel) (k0 rfl l D cA ad A p e R s m args below meth c cells slots Q C fin H locs ls hP hS hl)
  by_cases h1 : x = 42
  · subst h1
    intro l D cA ad A p e R s m args below meth c cells slots Q C fin H locs ls hP hS hl
    exact lv_lookup (tgt := 153) C.1.1 C.1.2.1 dX0_joined_1 (by decide +kernel) rfl (by decide +kernel) (k1 rfl l D cA ad A p e R s m args below meth c cells slots Q C fin H locs ls hP hS hl)
  by_cases h2 : x = 43
  · subst h2
    intro l D cA ad A p e R s m args below meth c cells slots Q C fin H locs ls hP hS hl
    exact lv_lookup (tgt := 145) C.1.1 C.1.2.1 dX0_joined_1 (by decide +kernel) rfl (by decide +kernel) (k2 rfl l D cA ad A p e R s m args below meth c cells slots Q C fin H locs ls hP hS hl)
  by_cases h3 : x = 45
  · subst h3
    intro l D cA ad A p e R s m args below meth c cells slots Q C fin H locs ls hP hS hl
    exact lv_lookup (tgt := 149) C.1.1 C.1.2.1 dX0_joined_1 (by decide +kernel) rfl (by decide +kernel) (k3 rfl l D cA ad A p e R s m args below meth c cells slots Q C fin H locs ls hP hS hl)
  by_cases h4 : x = 47
  · subst h4
    intro l D cA ad A p e R s m args below meth c cells slots Q C fin H locs ls hP hS hl
    exact lv_lookup (tgt := 157) C.1.1 C.1.2.1 dX0_joined_1 (by decide +kernel) rfl (by decide +kernel) (k4 rfl l D cA ad A p e R s m args below meth c cells slots Q C fin H locs ls hP hS hl)
  by_cases h5 : x = 60
  · subst h5
    intro l D cA ad A p e R s m args below meth c cells slots Q C fin H locs ls hP hS hl
    exact lv_lookup (tgt := 112) C.1.1 C.1.2.1 dX0_joined_1 (by decide +kernel) rfl (by decide +kernel) (k5 rfl l D cA ad A p e R s m args below meth c cells slots Q C fin H locs ls hP hS hl)
  by_cases h6 : x = 61
  · subst h6
    intro l D cA ad A p e R s m args below meth c cells slots Q C fin H locs ls hP hS hl
    exact lv_lookup (tgt := 123) C.1.1 C.1.2.1 dX0_joined_1 (by decide +kernel) rfl (by decide +kernel) (k6 rfl l D cA ad A p e R s m args below meth c cells slots Q C fin H locs ls hP hS hl)
  by_cases h7 : x = 62
  · subst h7
    intro l D cA ad A p e R s m args below meth c cells slots Q C fin H locs ls hP hS hl
    exact lv_lookup (tgt := 134) C.1.1 C.1.2.1 dX0_joined_1 (by decide +kernel) rfl (by decide +kernel) (k7 rfl l D cA ad A p e R s m args below meth c cells slots Q C fin H locs ls hP hS hl)
  by_cases h8 : x = 124
  · subst h8
    intro l D cA ad A p e R s m args below meth c cells slots Q C fin H locs ls hP hS hl
    exact lv_lookup (tgt := 84) C.1.1 C.1.2.1 dX0_joined_1 (by decide +kernel) rfl (by decide +kernel) (k8 rfl l D cA ad A p e R s m args below meth c cells slots Q C fin H locs ls hP hS hl)
  intro l D cA ad A p e R s m args below meth c cells slots Q C fin H locs ls hP hS hl
  have g0 := lv_neT h0 (show (38 : Int32).toInt = 38 from by decide)
  have g1 := lv_neT h1 (show (42 : Int32).toInt = 42 from by decide)
  have g2 := lv_neT h2 (show (43 : Int32).toInt = 43 from by decide)
  have g3 := lv_neT h3 (show (45 : Int32).toInt = 45 from by decide)
  have g4 := lv_neT h4 (show (47 : Int32).toInt = 47 from by decide)
  have g5 := lv_neT h5 (show (60 : Int32).toInt = 60 from by decide)
  have g6 := lv_neT h6 (show (61 : Int32).toInt = 61 from by decide)
  have g7 := lv_neT h7 (show (62 : Int32).toInt = 62 from by decide)
  have g8 := lv_neT h8 (show (124 : Int32).toInt = 124 from by decide)
  refine lv_lookup (tgt := 169) (off := 168) C.1.1 C.1.2.1 dX0_joined_1 (by decide +kernel) ?_ (by decide) (kd h0 h1 h2 h3 h4 h5 h6 h7 h8 l D cA ad A p e R s m args below meth c cells slots Q C fin H locs ls hP hS hl)
  show Op.lookupswitch.offset [((38 : Int), (97 : Int)), ((42 : Int), (152 : Int)), ((43 : Int), (144 : Int)), ((45 : Int), (148 : Int)), ((47 : Int), (156 : Int)), ((60 : Int), (111 : Int)), ((61 : Int), (122 : Int)), ((62 : Int), (133 : Int)), ((124 : Int), (83 : Int))] _ _ = _
  rw [lv_osw h0 (show (38 : Int32).toInt = 38 from by decide), lv_osw h1 (show (42 : Int32).toInt = 42 from by decide), lv_osw h2 (show (43 : Int32).toInt = 43 from by decide), lv_osw h3 (show (45 : Int32).toInt = 45 from by decide), lv_osw h4 (show (47 : Int32).toInt = 47 from by decide), lv_osw h5 (show (60 : Int32).toInt = 60 from by decide), lv_osw h6 (show (61 : Int32).toInt = 61 from by decide), lv_osw h7 (show (62 : Int32).toInt = 62 from by decide), lv_osw h8 (show (124 : Int32).toInt = 124 from by decide)]
  rfl
theorem sw_X5_due_19 {X : Nat × (Nat → Int32)} {d : Nat} {lv : ng_L} {st : List Value} {M : ng_M} {F : Option Value → ng_M → Prop} {x : Int32} (k0 : x = 4 → ng_Go X mi_X5_due d 44 lv st M F) (k1 : x = 5 → ng_Go X mi_X5_due d 48 lv st M F) (kd : ¬ x = 4 → ¬ x = 5 → ng_Go X mi_X5_due d 54 lv st M F) : ng_Go X mi_X5_due d 19 lv (.int x :: st) M F := by
  by_cases h0 : x = 4
  · subst h0
    intro l D cA ad A p e R s m args below meth c cells slots Q C fin H locs ls hP hS hl
    exact lv_lookup (tgt := 44) C.1.1 C.1.2.1 dX5_due_19 (by decide +kernel) rfl (by decide +kernel) (k0 rfl l D cA ad A p e R s m args below meth c cells slots Q C fin H locs ls hP hS hl)
  by_cases h1 : x = 5
  · subst h1
    intro l D cA ad A p e R s m args below meth c cells slots Q C fin H locs ls hP hS hl
    exact lv_lookup (tgt := 48) C.1.1 C.1.2.1 dX5_due_19 (by decide +kernel) rfl (by decide +kernel) (k1 rfl l D cA ad A p e R s m args below meth c cells slots Q C fin H locs ls hP hS hl)
  intro l D cA ad A p e R s m args below meth c cells slots Q C fin H locs ls hP hS hl
  have g0 := lv_neT h0 (show (4 : Int32).toInt = 4 from by decide)
  have g1 := lv_neT h1 (show (5 : Int32).toInt = 5 from by decide)
  refine lv_lookup (tgt := 54) (off := 35) C.1.1 C.1.2.1 dX5_due_19 (by decide +kernel) ?_ (by decide) (kd h0 h1 l D cA ad A p e R s m args below meth c cells slots Q C fin H locs ls hP hS hl)
  show Op.lookupswitch.offset [((4 : Int), (25 : Int)), ((5 : Int), (29 : Int))] _ _ = _
  rw [lv_osw h0 (show (4 : Int32).toInt = 4 from by decide), lv_osw h1 (show (5 : Int32).toInt = 5 from by decide)]
  rfl
theorem sw_X5_worth_35 {X : Nat × (Nat → Int32)} {d : Nat} {lv : ng_L} {st : List Value} {M : ng_M} {F : Option Value → ng_M → Prop} {x : Int32} (k0 : x = 1 → ng_Go X mi_X5_worth d 72 lv st M F) (k1 : x = 2 → ng_Go X mi_X5_worth d 75 lv st M F) (k2 : x = 3 → ng_Go X mi_X5_worth d 87 lv st M F) (k3 : x = 4 → ng_Go X mi_X5_worth d 104 lv st M F) (k4 : x = 5 → ng_Go X mi_X5_worth d 123 lv st M F) (k5 : x = 6 → ng_Go X mi_X5_worth d 127 lv st M F) (kd : ¬ x = 1 → ¬ x = 2 → ¬ x = 3 → ¬ x = 4 → ¬ x = 5 → ¬ x = 6 → ng_Go X mi_X5_worth d 137 lv st M F) : ng_Go X mi_X5_worth d 35 lv (.int x :: st) M F := by
  by_cases h0 : x = 1
  · subst h0
    intro l D cA ad A p e R s m args below meth c cells slots Q C fin H locs ls hP hS hl
    exact lv_tableIn (tgt := 72) (off := 37) C.1.1 C.1.2.1 dX5_worth_35 (by decide) (by decide) (by decide +kernel) (by decide) (k0 rfl l D cA ad A p e R s m args below meth c cells slots Q C fin H locs ls hP hS hl)
  by_cases h1 : x = 2
  · subst h1
    intro l D cA ad A p e R s m args below meth c cells slots Q C fin H locs ls hP hS hl
    exact lv_tableIn (tgt := 75) (off := 40) C.1.1 C.1.2.1 dX5_worth_35 (by decide) (by decide) (by decide +kernel) (by decide) (k1 rfl l D cA ad A p e R s m args below meth c cells slots Q C fin H locs ls hP hS hl)
  by_cases h2 : x = 3
  · subst h2
    intro l D cA ad A p e R s m args below meth c cells slots Q C fin H locs ls hP hS hl
    exact lv_tableIn (tgt := 87) (off := 52) C.1.1 C.1.2.1 dX5_worth_35 (by decide) (by decide) (by decide +kernel) (by decide) (k2 rfl l D cA ad A p e R s m args below meth c cells slots Q C fin H locs ls hP hS hl)
  by_cases h3 : x = 4
  · subst h3
    intro l D cA ad A p e R s m args below meth c cells slots Q C fin H locs ls hP hS hl
    exact lv_tableIn (tgt := 104) (off := 69) C.1.1 C.1.2.1 dX5_worth_35 (by decide) (by decide) (by decide +kernel) (by decide) (k3 rfl l D cA ad A p e R s m args below meth c cells slots Q C fin H locs ls hP hS hl)
  by_cases h4 : x = 5
  · subst h4
    intro l D cA ad A p e R s m args below meth c cells slots Q C fin H locs ls hP hS hl
    exact lv_tableIn (tgt := 123) (off := 88) C.1.1 C.1.2.1 dX5_worth_35 (by decide) (by decide) (by decide +kernel) (by decide) (k4 rfl l D cA ad A p e R s m args below meth c cells slots Q C fin H locs ls hP hS hl)
  by_cases h5 : x = 6
  · subst h5
    intro l D cA ad A p e R s m args below meth c cells slots Q C fin H locs ls hP hS hl
    exact lv_tableIn (tgt := 127) (off := 92) C.1.1 C.1.2.1 dX5_worth_35 (by decide) (by decide) (by decide +kernel) (by decide) (k5 rfl l D cA ad A p e R s m args below meth c cells slots Q C fin H locs ls hP hS hl)
  intro l D cA ad A p e R s m args below meth c cells slots Q C fin H locs ls hP hS hl
  have g0 := lv_neT h0 (show (1 : Int32).toInt = 1 from by decide)
  have g1 := lv_neT h1 (show (2 : Int32).toInt = 2 from by decide)
  have g2 := lv_neT h2 (show (3 : Int32).toInt = 3 from by decide)
  have g3 := lv_neT h3 (show (4 : Int32).toInt = 4 from by decide)
  have g4 := lv_neT h4 (show (5 : Int32).toInt = 5 from by decide)
  have g5 := lv_neT h5 (show (6 : Int32).toInt = 6 from by decide)
  exact lv_tableOut (tgt := 137) C.1.1 C.1.2.1 dX5_worth_35 (by omega) (by decide) (kd h0 h1 h2 h3 h4 h5 l D cA ad A p e R s m args below meth c cells slots Q C fin H locs ls hP hS hl)
theorem sw_X5_takes_19 {X : Nat × (Nat → Int32)} {d : Nat} {lv : ng_L} {st : List Value} {M : ng_M} {F : Option Value → ng_M → Prop} {x : Int32} (k0 : x = 2 → ng_Go X mi_X5_takes d 44 lv st M F) (k1 : x = 3 → ng_Go X mi_X5_takes d 60 lv st M F) (k2 : x = 4 → ng_Go X mi_X5_takes d 60 lv st M F) (kd : ¬ x = 2 → ¬ x = 3 → ¬ x = 4 → ng_Go X mi_X5_takes d 78 lv st M F) : ng_Go X mi_X5_takes d 19 lv (.int x :: st) M F := by
  by_cases h0 : x = 2
  · subst h0
    intro l D cA ad A p e R s m args below meth c cells slots Q C fin H locs ls hP hS hl
    exact lv_tableIn (tgt := 44) (off := 25) C.1.1 C.1.2.1 dX5_takes_19 (by decide) (by decide) (by decide +kernel) (by decide) (k0 rfl l D cA ad A p e R s m args below meth c cells slots Q C fin H locs ls hP hS hl)
  by_cases h1 : x = 3
  · subst h1
    intro l D cA ad A p e R s m args below meth c cells slots Q C fin H locs ls hP hS hl
    exact lv_tableIn (tgt := 60) (off := 41) C.1.1 C.1.2.1 dX5_takes_19 (by decide) (by decide) (by decide +kernel) (by decide) (k1 rfl l D cA ad A p e R s m args below meth c cells slots Q C fin H locs ls hP hS hl)
  by_cases h2 : x = 4
  · subst h2
    intro l D cA ad A p e R s m args below meth c cells slots Q C fin H locs ls hP hS hl
    exact lv_tableIn (tgt := 60) (off := 41) C.1.1 C.1.2.1 dX5_takes_19 (by decide) (by decide) (by decide +kernel) (by decide) (k2 rfl l D cA ad A p e R s m args below meth c cells slots Q C fin H locs ls hP hS hl)
  intro l D cA ad A p e R s m args below meth c cells slots Q C fin H locs ls hP hS hl
  have g0 := lv_neT h0 (show (2 : Int32).toInt = 2 from by decide)
  have g1 := lv_neT h1 (show (3 : Int32).toInt = 3 from by decide)
  have g2 := lv_neT h2 (show (4 : Int32).toInt = 4 from by decide)
  exact lv_tableOut (tgt := 78) C.1.1 C.1.2.1 dX5_takes_19 (by omega) (by decide) (kd h0 h1 h2 l D cA ad A p e R s m args below meth c cells slots Q C fin H locs ls hP hS hl)
theorem sw_X5_setting_1 {X : Nat × (Nat → Int32)} {d : Nat} {lv : ng_L} {st : List Value} {M : ng_M} {F : Option Value → ng_M → Prop} {x : Int32} (k0 : x = 0 → ng_Go X mi_X5_setting d 36 lv st M F) (k1 : x = 1 → ng_Go X mi_X5_setting d 41 lv st M F) (k2 : x = 2 → ng_Go X mi_X5_setting d 46 lv st M F) (k3 : x = 3 → ng_Go X mi_X5_setting d 51 lv st M F) (k4 : x = 4 → ng_Go X mi_X5_setting d 56 lv st M F) (kd : ¬ x = 0 → ¬ x = 1 → ¬ x = 2 → ¬ x = 3 → ¬ x = 4 → ng_Go X mi_X5_setting d 61 lv st M F) : ng_Go X mi_X5_setting d 1 lv (.int x :: st) M F := by
  by_cases h0 : x = 0
  · subst h0
    intro l D cA ad A p e R s m args below meth c cells slots Q C fin H locs ls hP hS hl
    exact lv_tableIn (tgt := 36) (off := 35) C.1.1 C.1.2.1 dX5_setting_1 (by decide) (by decide) (by decide +kernel) (by decide) (k0 rfl l D cA ad A p e R s m args below meth c cells slots Q C fin H locs ls hP hS hl)
  by_cases h1 : x = 1
  · subst h1
    intro l D cA ad A p e R s m args below meth c cells slots Q C fin H locs ls hP hS hl
    exact lv_tableIn (tgt := 41) (off := 40) C.1.1 C.1.2.1 dX5_setting_1 (by decide) (by decide) (by decide +kernel) (by decide) (k1 rfl l D cA ad A p e R s m args below meth c cells slots Q C fin H locs ls hP hS hl)
  by_cases h2 : x = 2
  · subst h2
    intro l D cA ad A p e R s m args below meth c cells slots Q C fin H locs ls hP hS hl
    exact lv_tableIn (tgt := 46) (off := 45) C.1.1 C.1.2.1 dX5_setting_1 (by decide) (by decide) (by decide +kernel) (by decide) (k2 rfl l D cA ad A p e R s m args below meth c cells slots Q C fin H locs ls hP hS hl)
  by_cases h3 : x = 3
  · subst h3
    intro l D cA ad A p e R s m args below meth c cells slots Q C fin H locs ls hP hS hl
    exact lv_tableIn (tgt := 51) (off := 50) C.1.1 C.1.2.1 dX5_setting_1 (by decide) (by decide) (by decide +kernel) (by decide) (k3 rfl l D cA ad A p e R s m args below meth c cells slots Q C fin H locs ls hP hS hl)
  by_cases h4 : x = 4
  · subst h4
    intro l D cA ad A p e R s m args below meth c cells slots Q C fin H locs ls hP hS hl
    exact lv_tableIn (tgt := 56) (off := 55) C.1.1 C.1.2.1 dX5_setting_1 (by decide) (by decide) (by decide +kernel) (by decide) (k4 rfl l D cA ad A p e R s m args below meth c cells slots Q C fin H locs ls hP hS hl)
  intro l D cA ad A p e R s m args below meth c cells slots Q C fin H locs ls hP hS hl
  have g0 := lv_neT h0 (show (0 : Int32).toInt = 0 from by decide)
  have g1 := lv_neT h1 (show (1 : Int32).toInt = 1 from by decide)
  have g2 := lv_neT h2 (show (2 : Int32).toInt = 2 from by decide)
  have g3 := lv_neT h3 (show (3 : Int32).toInt = 3 from by decide)
  have g4 := lv_neT h4 (show (4 : Int32).toInt = 4 from by decide)
  exact lv_tableOut (tgt := 61) C.1.1 C.1.2.1 dX5_setting_1 (by omega) (by decide) (kd h0 h1 h2 h3 h4 l D cA ad A p e R s m args below meth c cells slots Q C fin H locs ls hP hS hl)
theorem sw_X5_figure_1 {X : Nat × (Nat → Int32)} {d : Nat} {lv : ng_L} {st : List Value} {M : ng_M} {F : Option Value → ng_M → Prop} {x : Int32} (k0 : x = 0 → ng_Go X mi_X5_figure d 32 lv st M F) (k1 : x = 1 → ng_Go X mi_X5_figure d 37 lv st M F) (k2 : x = 2 → ng_Go X mi_X5_figure d 42 lv st M F) (k3 : x = 3 → ng_Go X mi_X5_figure d 47 lv st M F) (kd : ¬ x = 0 → ¬ x = 1 → ¬ x = 2 → ¬ x = 3 → ng_Go X mi_X5_figure d 52 lv st M F) : ng_Go X mi_X5_figure d 1 lv (.int x :: st) M F := by
  by_cases h0 : x = 0
  · subst h0
    intro l D cA ad A p e R s m args below meth c cells slots Q C fin H locs ls hP hS hl
    exact lv_tableIn (tgt := 32) (off := 31) C.1.1 C.1.2.1 dX5_figure_1 (by decide) (by decide) (by decide +kernel) (by decide) (k0 rfl l D cA ad A p e R s m args below meth c cells slots Q C fin H locs ls hP hS hl)
  by_cases h1 : x = 1
  · subst h1
    intro l D cA ad A p e R s m args below meth c cells slots Q C fin H locs ls hP hS hl
    exact lv_tableIn (tgt := 37) (off := 36) C.1.1 C.1.2.1 dX5_figure_1 (by decide) (by decide) (by decide +kernel) (by decide) (k1 rfl l D cA ad A p e R s m args below meth c cells slots Q C fin H locs ls hP hS hl)
  by_cases h2 : x = 2
  · subst h2
    intro l D cA ad A p e R s m args below meth c cells slots Q C fin H locs ls hP hS hl
    exact lv_tableIn (tgt := 42) (off := 41) C.1.1 C.1.2.1 dX5_figure_1 (by decide) (by decide) (by decide +kernel) (by decide) (k2 rfl l D cA ad A p e R s m args below meth c cells slots Q C fin H locs ls hP hS hl)
  by_cases h3 : x = 3
  · subst h3
    intro l D cA ad A p e R s m args below meth c cells slots Q C fin H locs ls hP hS hl
    exact lv_tableIn (tgt := 47) (off := 46) C.1.1 C.1.2.1 dX5_figure_1 (by decide) (by decide) (by decide +kernel) (by decide) (k3 rfl l D cA ad A p e R s m args below meth c cells slots Q C fin H locs ls hP hS hl)
  intro l D cA ad A p e R s m args below meth c cells slots Q C fin H locs ls hP hS hl
  have g0 := lv_neT h0 (show (0 : Int32).toInt = 0 from by decide)
  have g1 := lv_neT h1 (show (1 : Int32).toInt = 1 from by decide)
  have g2 := lv_neT h2 (show (2 : Int32).toInt = 2 from by decide)
  have g3 := lv_neT h3 (show (3 : Int32).toInt = 3 from by decide)
  exact lv_tableOut (tgt := 52) C.1.1 C.1.2.1 dX5_figure_1 (by omega) (by decide) (kd h0 h1 h2 h3 l D cA ad A p e R s m args below meth c cells slots Q C fin H locs ls hP hS hl)
theorem sw_X5_change_1 {X : Nat × (Nat → Int32)} {d : Nat} {lv : ng_L} {st : List Value} {M : ng_M} {F : Option Value → ng_M → Prop} {x : Int32} (k0 : x = 0 → ng_Go X mi_X5_change d 36 lv st M F) (k1 : x = 1 → ng_Go X mi_X5_change d 44 lv st M F) (k2 : x = 2 → ng_Go X mi_X5_change d 52 lv st M F) (k3 : x = 3 → ng_Go X mi_X5_change d 60 lv st M F) (k4 : x = 4 → ng_Go X mi_X5_change d 68 lv st M F) (kd : ¬ x = 0 → ¬ x = 1 → ¬ x = 2 → ¬ x = 3 → ¬ x = 4 → ng_Go X mi_X5_change d 76 lv st M F) : ng_Go X mi_X5_change d 1 lv (.int x :: st) M F := by
  by_cases h0 : x = 0
  · subst h0
    intro l D cA ad A p e R s m args below meth c cells slots Q C fin H locs ls hP hS hl
    exact lv_tableIn (tgt := 36) (off := 35) C.1.1 C.1.2.1 dX5_change_1 (by decide) (by decide) (by decide +kernel) (by decide) (k0 rfl l D cA ad A p e R s m args below meth c cells slots Q C fin H locs ls hP hS hl)
  by_cases h1 : x = 1
  · subst h1
    intro l D cA ad A p e R s m args below meth c cells slots Q C fin H locs ls hP hS hl
    exact lv_tableIn (tgt := 44) (off := 43) C.1.1 C.1.2.1 dX5_change_1 (by decide) (by decide) (by decide +kernel) (by decide) (k1 rfl l D cA ad A p e R s m args below meth c cells slots Q C fin H locs ls hP hS hl)
  by_cases h2 : x = 2
  · subst h2
    intro l D cA ad A p e R s m args below meth c cells slots Q C fin H locs ls hP hS hl
    exact lv_tableIn (tgt := 52) (off := 51) C.1.1 C.1.2.1 dX5_change_1 (by decide) (by decide) (by decide +kernel) (by decide) (k2 rfl l D cA ad A p e R s m args below meth c cells slots Q C fin H locs ls hP hS hl)
  by_cases h3 : x = 3
  · subst h3
    intro l D cA ad A p e R s m args below meth c cells slots Q C fin H locs ls hP hS hl
    exact lv_tableIn (tgt := 60) (off := 59) C.1.1 C.1.2.1 dX5_change_1 (by decide) (by decide) (by decide +kernel) (by decide) (k3 rfl l D cA ad A p e R s m args below meth c cells slots Q C fin H locs ls hP hS hl)
  by_cases h4 : x = 4
  · subst h4
    intro l D cA ad A p e R s m args below meth c cells slots Q C fin H locs ls hP hS hl
    exact lv_tableIn (tgt := 68) (off := 67) C.1.1 C.1.2.1 dX5_change_1 (by decide) (by decide) (by decide +kernel) (by decide) (k4 rfl l D cA ad A p e R s m args below meth c cells slots Q C fin H locs ls hP hS hl)
  intro l D cA ad A p e R s m args below meth c cells slots Q C fin H locs ls hP hS hl
  have g0 := lv_neT h0 (show (0 : Int32).toInt = 0 from by decide)
  have g1 := lv_neT h1 (show (1 : Int32).toInt = 1 from by decide)
  have g2 := lv_neT h2 (show (2 : Int32).toInt = 2 from by decide)
  have g3 := lv_neT h3 (show (3 : Int32).toInt = 3 from by decide)
  have g4 := lv_neT h4 (show (4 : Int32).toInt = 4 from by decide)
  exact lv_tableOut (tgt := 76) C.1.1 C.1.2.1 dX5_change_1 (by omega) (by decide) (kd h0 h1 h2 h3 h4 l D cA ad A p e R s m args below meth c cells slots Q C fin H locs ls hP hS hl)
theorem s_X0_isMissing {X : Nat × (Nat → Int32)} {M : ng_M} {f : Nat} (hf : ng_isF f) : ng_EvX X 1 mi_X0_isMissing [.ref f] (M) (some (.int (ng_bi (decide (M f 1 = 0))))) (M) := by
  obtain ⟨hf0, hf1, hf2, hf3, hf4, hf5, hf6⟩ := ng_F hf
  refine ng_EvX.ofI (lv := [some (.ref f)]) (ty := .boolean) (by decide) (Nat.le_of_ble_eq_true rfl) rfl rfl (ng_bi_nar _) ?_
  refine ng_aload_0 dX0_isMissing_0 ?_
  refine ng_gI dX0_isMissing_1 fl_X0_21 (by first | rfl | assumption) ?_
  refine ng_if_ne 11 dX0_isMissing_4 (by decide +kernel) (fun h4 => ?_) (fun h4 => ?_)
  · refine ng_iconst_0 dX0_isMissing_11 ?_
    exact ng_ireturn dX0_isMissing_12 ⟨by first | (simp [ng_bi, *]; done) | (simp [ng_bi, *]; rfl) | rfl, rfl⟩
  · refine ng_iconst_1 dX0_isMissing_7 ?_
    refine ng_goto 12 dX0_isMissing_8 (by decide +kernel) ?_
    exact ng_ireturn dX0_isMissing_12 ⟨by first | (simp [ng_bi, *]; done) | (simp [ng_bi, *]; rfl) | rfl, rfl⟩
theorem s_X0_named {X : Nat × (Nat → Int32)} {M : ng_M} {f : Nat} (hf : ng_isF f) {i : Int32} (hi : vp_in i 4) : ng_EvX X 1 mi_X0_named [.ref f, .int i] (M) (some (.int (M (f + 2) (i.toNatClampNeg)))) (M) := by
  obtain ⟨hf0, hf1, hf2, hf3, hf4, hf5, hf6⟩ := ng_F hf
  refine ng_EvX.ofI (lv := [some (.ref f), some (.int i)]) (ty := .int) (by decide) (Nat.le_of_ble_eq_true rfl) rfl rfl rfl ?_
  refine ng_iload_1 dX0_named_0 ?_
  refine ng_if_lt 22 dX0_named_1 (by decide +kernel) (fun h1 => ?_) (fun h1 => ?_)
  · exact absurd h1 (fun h => hi (Or.inl h))
  · refine ng_iload_1 dX0_named_4 ?_
    refine ng_aload_0 dX0_named_5 ?_
    refine ng_gR dX0_named_6 fl_X0_15 (by first | rfl | assumption) ?_
    refine ng_alen dX0_named_9 (by first | rfl | assumption) ?_
    refine ng_icmp_ge 22 dX0_named_10 (by decide +kernel) (fun h10 => ?_) (fun h10 => ?_)
    · refine absurd (show 4 ≤ i.toNatClampNeg from ?_) (fun h => hi (Or.inr h))
      have := ng_le.mp h10
      have e : (Int32.ofNat 4).toInt = 4 := by decide
      rw [e] at this
      rw [ng_clamp]
      omega
    · refine ng_aload_0 dX0_named_13 ?_
      refine ng_gR dX0_named_14 fl_X0_15 (by first | rfl | assumption) ?_
      refine ng_iload_1 dX0_named_17 ?_
      refine ng_iald dX0_named_18 (by first | rfl | assumption) (by first | assumption | (unfold vp_in; decide)) ?_
      refine ng_goto 23 dX0_named_19 (by decide +kernel) ?_
      exact ng_ireturn dX0_named_23 ⟨rfl, rfl⟩
theorem s_X0_joined {X : Nat × (Nat → Int32)} {M : ng_M} {o a b : Int32} : ng_EvX X 1 mi_X0_joined [.int o, .int a, .int b] (M) (some (.int (ng_joined o a b))) (M) := by
  refine ng_EvX.ofI (lv := [some (.int o), some (.int a), some (.int b)]) (ty := .int) (by decide) (Nat.le_of_ble_eq_true rfl) rfl rfl rfl ?_
  refine ng_iload_0 dX0_joined_0 ?_
  refine sw_X0_joined_1 (fun h1 => ?_) (fun h1 => ?_) (fun h1 => ?_) (fun h1 => ?_) (fun h1 => ?_) (fun h1 => ?_) (fun h1 => ?_) (fun h1 => ?_) (fun h1 => ?_) (fun h1n0 h1n1 h1n2 h1n3 h1n4 h1n5 h1n6 h1n7 h1n8 => ?_)
  · refine ng_iload_1 dX0_joined_98 ?_
    refine ng_if_eq 110 dX0_joined_99 (by decide +kernel) (fun h99 => ?_) (fun h99 => ?_)
    · refine ng_iconst_0 dX0_joined_110 ?_
      exact ng_ireturn dX0_joined_111 ⟨by first | (simp [ng_joined, *]; done) | (simp [ng_joined, *]; rfl) | rfl, rfl⟩
    · refine ng_iload_2 dX0_joined_102 ?_
      refine ng_if_eq 110 dX0_joined_103 (by decide +kernel) (fun h103 => ?_) (fun h103 => ?_)
      · refine ng_iconst_0 dX0_joined_110 ?_
        exact ng_ireturn dX0_joined_111 ⟨by first | (simp [ng_joined, *]; done) | (simp [ng_joined, *]; rfl) | rfl, rfl⟩
      · refine ng_iconst_1 dX0_joined_106 ?_
        refine ng_goto 111 dX0_joined_107 (by decide +kernel) ?_
        exact ng_ireturn dX0_joined_111 ⟨by first | (simp [ng_joined, *]; done) | (simp [ng_joined, *]; rfl) | rfl, rfl⟩
  · refine ng_iload_1 dX0_joined_153 ?_
    refine ng_iload_2 dX0_joined_154 ?_
    refine ng_imul dX0_joined_155 ?_
    exact ng_ireturn dX0_joined_156 ⟨by first | (simp [ng_joined, *]; done) | (simp [ng_joined, *]; rfl) | rfl, rfl⟩
  · refine ng_iload_1 dX0_joined_145 ?_
    refine ng_iload_2 dX0_joined_146 ?_
    refine ng_iadd dX0_joined_147 ?_
    exact ng_ireturn dX0_joined_148 ⟨by first | (simp [ng_joined, *]; done) | (simp [ng_joined, *]; rfl) | rfl, rfl⟩
  · refine ng_iload_1 dX0_joined_149 ?_
    refine ng_iload_2 dX0_joined_150 ?_
    refine ng_isub dX0_joined_151 ?_
    exact ng_ireturn dX0_joined_152 ⟨by first | (simp [ng_joined, *]; done) | (simp [ng_joined, *]; rfl) | rfl, rfl⟩
  · refine ng_iload_2 dX0_joined_157 ?_
    refine ng_if_ne 165 dX0_joined_158 (by decide +kernel) (fun h158 => ?_) (fun h158 => ?_)
    · refine ng_iload_1 dX0_joined_165 ?_
      refine ng_iload_2 dX0_joined_166 ?_
      refine ng_idiv dX0_joined_167 (by first | decide | assumption) ?_
      exact ng_ireturn dX0_joined_168 ⟨by first | (simp [ng_joined, *]; done) | (simp [ng_joined, *]; rfl) | rfl, rfl⟩
    · refine ng_iconst_0 dX0_joined_161 ?_
      refine ng_goto 168 dX0_joined_162 (by decide +kernel) ?_
      exact ng_ireturn dX0_joined_168 ⟨by first | (simp [ng_joined, *]; done) | (simp [ng_joined, *]; rfl) | rfl, rfl⟩
  · refine ng_iload_1 dX0_joined_112 ?_
    refine ng_iload_2 dX0_joined_113 ?_
    refine ng_icmp_ge 121 dX0_joined_114 (by decide +kernel) (fun h114 => ?_) (fun h114 => ?_)
    · refine ng_iconst_0 dX0_joined_121 ?_
      exact ng_ireturn dX0_joined_122 ⟨by first | (simp [ng_joined, *]; done) | (simp [ng_joined, *]; rfl) | rfl, rfl⟩
    · refine ng_iconst_1 dX0_joined_117 ?_
      refine ng_goto 122 dX0_joined_118 (by decide +kernel) ?_
      exact ng_ireturn dX0_joined_122 ⟨by first | (simp [ng_joined, *]; done) | (simp [ng_joined, *]; rfl) | rfl, rfl⟩
  · refine ng_iload_1 dX0_joined_123 ?_
    refine ng_iload_2 dX0_joined_124 ?_
    refine ng_icmp_ne 132 dX0_joined_125 (by decide +kernel) (fun h125 => ?_) (fun h125 => ?_)
    · refine ng_iconst_0 dX0_joined_132 ?_
      exact ng_ireturn dX0_joined_133 ⟨by first | (simp [ng_joined, *]; done) | (simp [ng_joined, *]; rfl) | rfl, rfl⟩
    · refine ng_iconst_1 dX0_joined_128 ?_
      refine ng_goto 133 dX0_joined_129 (by decide +kernel) ?_
      exact ng_ireturn dX0_joined_133 ⟨by first | (simp [ng_joined, *]; done) | (simp [ng_joined, *]; rfl) | rfl, rfl⟩
  · refine ng_iload_1 dX0_joined_134 ?_
    refine ng_iload_2 dX0_joined_135 ?_
    refine ng_icmp_le 143 dX0_joined_136 (by decide +kernel) (fun h136 => ?_) (fun h136 => ?_)
    · refine ng_iconst_0 dX0_joined_143 ?_
      exact ng_ireturn dX0_joined_144 ⟨by first | (simp [ng_joined, *]; done) | (simp [ng_joined, *]; rfl) | rfl, rfl⟩
    · refine ng_iconst_1 dX0_joined_139 ?_
      refine ng_goto 144 dX0_joined_140 (by decide +kernel) ?_
      exact ng_ireturn dX0_joined_144 ⟨by first | (simp [ng_joined, *]; done) | (simp [ng_joined, *]; rfl) | rfl, rfl⟩
  · refine ng_iload_1 dX0_joined_84 ?_
    refine ng_if_ne 92 dX0_joined_85 (by decide +kernel) (fun h85 => ?_) (fun h85 => ?_)
    · refine ng_iconst_1 dX0_joined_92 ?_
      refine ng_goto 97 dX0_joined_93 (by decide +kernel) ?_
      exact ng_ireturn dX0_joined_97 ⟨by first | (simp [ng_joined, *]; done) | (simp [ng_joined, *]; rfl) | rfl, rfl⟩
    · refine ng_iload_2 dX0_joined_88 ?_
      refine ng_if_eq 96 dX0_joined_89 (by decide +kernel) (fun h89 => ?_) (fun h89 => ?_)
      · refine ng_iconst_0 dX0_joined_96 ?_
        exact ng_ireturn dX0_joined_97 ⟨by first | (simp [ng_joined, *]; done) | (simp [ng_joined, *]; rfl) | rfl, rfl⟩
      · refine ng_iconst_1 dX0_joined_92 ?_
        refine ng_goto 97 dX0_joined_93 (by decide +kernel) ?_
        exact ng_ireturn dX0_joined_97 ⟨by first | (simp [ng_joined, *]; done) | (simp [ng_joined, *]; rfl) | rfl, rfl⟩
  · refine ng_iload_2 dX0_joined_169 ?_
    refine ng_if_ne 177 dX0_joined_170 (by decide +kernel) (fun h170 => ?_) (fun h170 => ?_)
    · refine ng_iload_1 dX0_joined_177 ?_
      refine ng_iload_2 dX0_joined_178 ?_
      refine ng_irem dX0_joined_179 (by first | decide | assumption) ?_
      exact ng_ireturn dX0_joined_180 ⟨by first | (simp [ng_joined, *]; done) | (simp [ng_joined, *]; rfl) | rfl, rfl⟩
    · refine ng_iconst_0 dX0_joined_173 ?_
      refine ng_goto 180 dX0_joined_174 (by decide +kernel) ?_
      exact ng_ireturn dX0_joined_180 ⟨by first | (simp [ng_joined, *]; done) | (simp [ng_joined, *]; rfl) | rfl, rfl⟩
theorem s_X5_pots {X : Nat × (Nat → Int32)} {M : ng_M} {s : Nat} (hs : ng_isS s) : ng_EvX X 1 mi_X5_pots [.ref s] (M) (some (.int (M s 6 + M s 5))) (M) := by
  obtain ⟨⟨hs0, hs1, hs2, hs3, hs4, hs5, hs6, hs7, hs8, hs9, hs10, hs11⟩, hsh, hsp, hso, hsl⟩ := ng_S hs
  refine ng_EvX.ofI (lv := [some (.ref s)]) (ty := .int) (by decide) (Nat.le_of_ble_eq_true rfl) rfl rfl rfl ?_
  refine ng_aload_0 dX5_pots_0 ?_
  refine ng_gI dX5_pots_1 fl_X5_38 (by first | rfl | assumption) ?_
  refine ng_aload_0 dX5_pots_4 ?_
  refine ng_gI dX5_pots_5 fl_X5_22 (by first | rfl | assumption) ?_
  refine ng_iadd dX5_pots_8 ?_
  exact ng_ireturn dX5_pots_9 ⟨rfl, rfl⟩
theorem s_X5_ends {X : Nat × (Nat → Int32)} {M : ng_M} {s : Nat} (hs : ng_isS s) (hl : vp_in (M s 3) 10) : ng_EvX X 1 mi_X5_ends [.ref s] (M) (some (.int (M s 7 + M s 6 * M 3 ((M s 3).toNatClampNeg) / 2))) (M) := by
  obtain ⟨⟨hs0, hs1, hs2, hs3, hs4, hs5, hs6, hs7, hs8, hs9, hs10, hs11⟩, hsh, hsp, hso, hsl⟩ := ng_S hs
  refine ng_EvX.ofI (lv := [some (.ref s)]) (ty := .int) (by decide) (Nat.le_of_ble_eq_true rfl) rfl rfl rfl ?_
  refine ng_aload_0 dX5_ends_0 ?_
  refine ng_gI dX5_ends_1 fl_X5_41 (by first | rfl | assumption) ?_
  refine ng_aload_0 dX5_ends_4 ?_
  refine ng_gI dX5_ends_5 fl_X5_38 (by first | rfl | assumption) ?_
  refine ng_aload_0 dX5_ends_8 ?_
  refine ng_gR dX5_ends_9 fl_X5_25 (by first | rfl | assumption) ?_
  refine ng_gR dX5_ends_12 fl_X5_54 (by first | rfl | assumption) ?_
  refine ng_aload_0 dX5_ends_15 ?_
  refine ng_gI dX5_ends_16 fl_X5_35 (by first | rfl | assumption) ?_
  refine ng_iald dX5_ends_19 (by first | rfl | assumption) (by first | assumption | (unfold vp_in; decide)) ?_
  refine ng_imul dX5_ends_20 ?_
  refine ng_iconst_2 dX5_ends_21 ?_
  refine ng_idiv dX5_ends_22 (by first | decide | assumption) ?_
  refine ng_iadd dX5_ends_23 ?_
  exact ng_ireturn dX5_ends_24 ⟨rfl, rfl⟩
theorem s_X5_due {X : Nat × (Nat → Int32)} {M : ng_M} {s : Nat} (hs : ng_isS s) {i t : Int32} (hi : vp_in i 8) (ht : vp_in t 10) : ng_EvX X 1 mi_X5_due [.ref s, .int i, .int t] (M) (some (.int (ng_due (M 4 (i.toNatClampNeg)) (M 3 (t.toNatClampNeg))))) (M) := by
  obtain ⟨⟨hs0, hs1, hs2, hs3, hs4, hs5, hs6, hs7, hs8, hs9, hs10, hs11⟩, hsh, hsp, hso, hsl⟩ := ng_S hs
  refine ng_EvX.ofI (lv := [some (.ref s), some (.int i), some (.int t), none]) (ty := .int) (by decide) (Nat.le_of_ble_eq_true rfl) rfl rfl rfl ?_
  refine ng_aload_0 dX5_due_0 ?_
  refine ng_gR dX5_due_1 fl_X5_25 (by first | rfl | assumption) ?_
  refine ng_gR dX5_due_4 fl_X5_54 (by first | rfl | assumption) ?_
  refine ng_iload_2 dX5_due_7 ?_
  refine ng_iald dX5_due_8 (by first | rfl | assumption) (by first | assumption | (unfold vp_in; decide)) ?_
  refine ng_istore_3 dX5_due_9 rfl ?_
  refine ng_aload_0 dX5_due_10 ?_
  refine ng_gR dX5_due_11 fl_X5_25 (by first | rfl | assumption) ?_
  refine ng_gR dX5_due_14 fl_X5_69 (by first | rfl | assumption) ?_
  refine ng_iload_1 dX5_due_17 ?_
  refine ng_iald dX5_due_18 (by first | rfl | assumption) (by first | assumption | (unfold vp_in; decide)) ?_
  refine sw_X5_due_19 (fun h19 => ?_) (fun h19 => ?_) (fun h19n0 h19n1 => ?_)
  · refine ng_iload_3 dX5_due_44 ?_
    refine ng_iconst_2 dX5_due_45 ?_
    refine ng_idiv dX5_due_46 (by first | decide | assumption) ?_
    exact ng_ireturn dX5_due_47 ⟨by first | (simp [ng_due, *]; done) | (simp [ng_due, *]; rfl) | rfl, rfl⟩
  · refine ng_iconst_2 dX5_due_48 ?_
    refine ng_iload_3 dX5_due_49 ?_
    refine ng_imul dX5_due_50 ?_
    refine ng_iconst_3 dX5_due_51 ?_
    refine ng_idiv dX5_due_52 (by first | decide | assumption) ?_
    exact ng_ireturn dX5_due_53 ⟨by first | (simp [ng_due, *]; done) | (simp [ng_due, *]; rfl) | rfl, rfl⟩
  · refine ng_iload_3 dX5_due_54 ?_
    exact ng_ireturn dX5_due_55 ⟨by first | (simp [ng_due, *]; done) | (simp [ng_due, *]; rfl) | rfl, rfl⟩
theorem s_X5_worth {X : Nat × (Nat → Int32)} {M : ng_M} {s : Nat} (hs : ng_isS s) {i t : Int32} (hi : vp_in i 8) : ng_EvX X 1 mi_X5_worth [.ref s, .int i, .int t] (M) (some (.int (ng_worth (M 4 (i.toNatClampNeg)) (M (s + 2) (i.toNatClampNeg)) (M (s + 1) (i.toNatClampNeg)) (M s 4) (M s 3) t))) (M) := by
  obtain ⟨⟨hs0, hs1, hs2, hs3, hs4, hs5, hs6, hs7, hs8, hs9, hs10, hs11⟩, hsh, hsp, hso, hsl⟩ := ng_S hs
  refine ng_EvX.ofI (lv := [some (.ref s), some (.int i), some (.int t), none, none]) (ty := .int) (by decide) (Nat.le_of_ble_eq_true rfl) rfl rfl rfl ?_
  refine ng_aload_0 dX5_worth_0 ?_
  refine ng_gR dX5_worth_1 fl_X5_15 (by first | rfl | assumption) ?_
  refine ng_iload_1 dX5_worth_4 ?_
  refine ng_iald dX5_worth_5 (by first | rfl | assumption) (by first | assumption | (unfold vp_in; decide)) ?_
  refine ng_istore_3 dX5_worth_6 rfl ?_
  refine ng_iload_2 dX5_worth_7 ?_
  refine ng_aload_0 dX5_worth_8 ?_
  refine ng_gI dX5_worth_9 fl_X5_35 (by first | rfl | assumption) ?_
  refine ng_icmp_le 23 dX5_worth_12 (by decide +kernel) (fun h12 => ?_) (fun h12 => ?_)
  · refine ng_iload_3 dX5_worth_23 ?_
    refine ng_istore_4 dX5_worth_24 rfl ?_
    refine ng_aload_0 dX5_worth_26 ?_
    refine ng_gR dX5_worth_27 fl_X5_25 (by first | rfl | assumption) ?_
    refine ng_gR dX5_worth_30 fl_X5_69 (by first | rfl | assumption) ?_
    refine ng_iload_1 dX5_worth_33 ?_
    refine ng_iald dX5_worth_34 (by first | rfl | assumption) (by first | assumption | (unfold vp_in; decide)) ?_
    refine sw_X5_worth_35 (fun h35 => ?_) (fun h35 => ?_) (fun h35 => ?_) (fun h35 => ?_) (fun h35 => ?_) (fun h35 => ?_) (fun h35n0 h35n1 h35n2 h35n3 h35n4 h35n5 => ?_)
    · refine ng_iload_4 dX5_worth_72 ?_
      exact ng_ireturn dX5_worth_74 ⟨by first | (simp [ng_worth, ng_risen, *]; done) | (simp [ng_worth, ng_risen, *]; rfl) | rfl, rfl⟩
    · refine ng_iload_4 dX5_worth_75 ?_
      refine ng_iconst_3 dX5_worth_77 ?_
      refine ng_aload_0 dX5_worth_78 ?_
      refine ng_gR dX5_worth_79 fl_X5_9 (by first | rfl | assumption) ?_
      refine ng_iload_1 dX5_worth_82 ?_
      refine ng_iald dX5_worth_83 (by first | rfl | assumption) (by first | assumption | (unfold vp_in; decide)) ?_
      refine ng_imul dX5_worth_84 ?_
      refine ng_isub dX5_worth_85 ?_
      exact ng_ireturn dX5_worth_86 ⟨by first | (simp [ng_worth, ng_risen, *]; done) | (simp [ng_worth, ng_risen, *]; rfl) | rfl, rfl⟩
    · refine ng_aload_0 dX5_worth_87 ?_
      refine ng_gR dX5_worth_88 fl_X5_9 (by first | rfl | assumption) ?_
      refine ng_iload_1 dX5_worth_91 ?_
      refine ng_iald dX5_worth_92 (by first | rfl | assumption) (by first | assumption | (unfold vp_in; decide)) ?_
      refine ng_bipush (v := 6) dX5_worth_93 (by decide) ?_
      refine ng_icmp_lt 102 dX5_worth_95 (by decide +kernel) (fun h95 => ?_) (fun h95 => ?_)
      · refine ng_iload_3 dX5_worth_102 ?_
        exact ng_ireturn dX5_worth_103 ⟨by first | (simp [ng_worth, ng_risen, *]; done) | (simp [ng_worth, ng_risen, *]; rfl) | rfl, rfl⟩
      · refine ng_iconst_0 dX5_worth_98 ?_
        refine ng_goto 103 dX5_worth_99 (by decide +kernel) ?_
        exact ng_ireturn dX5_worth_103 ⟨by first | (simp [ng_worth, ng_risen, *]; done) | (simp [ng_worth, ng_risen, *]; rfl) | rfl, rfl⟩
    · refine ng_aload_0 dX5_worth_104 ?_
      refine ng_gR dX5_worth_105 fl_X5_9 (by first | rfl | assumption) ?_
      refine ng_iload_1 dX5_worth_108 ?_
      refine ng_iald dX5_worth_109 (by first | rfl | assumption) (by first | assumption | (unfold vp_in; decide)) ?_
      refine ng_bipush (v := 6) dX5_worth_110 (by decide) ?_
      refine ng_icmp_lt 119 dX5_worth_112 (by decide +kernel) (fun h112 => ?_) (fun h112 => ?_)
      · refine ng_iconst_2 dX5_worth_119 ?_
        refine ng_iload_3 dX5_worth_120 ?_
        refine ng_imul dX5_worth_121 ?_
        exact ng_ireturn dX5_worth_122 ⟨by first | (simp [ng_worth, ng_risen, *]; done) | (simp [ng_worth, ng_risen, *]; rfl) | rfl, rfl⟩
      · refine ng_iconst_0 dX5_worth_115 ?_
        refine ng_goto 122 dX5_worth_116 (by decide +kernel) ?_
        exact ng_ireturn dX5_worth_122 ⟨by first | (simp [ng_worth, ng_risen, *]; done) | (simp [ng_worth, ng_risen, *]; rfl) | rfl, rfl⟩
    · refine ng_iload_3 dX5_worth_123 ?_
      refine ng_iconst_2 dX5_worth_124 ?_
      refine ng_idiv dX5_worth_125 (by first | decide | assumption) ?_
      exact ng_ireturn dX5_worth_126 ⟨by first | (simp [ng_worth, ng_risen, *]; done) | (simp [ng_worth, ng_risen, *]; rfl) | rfl, rfl⟩
    · refine ng_iload_4 dX5_worth_127 ?_
      refine ng_iconst_5 dX5_worth_129 ?_
      refine ng_aload_0 dX5_worth_130 ?_
      refine ng_gI dX5_worth_131 fl_X5_18 (by first | rfl | assumption) ?_
      refine ng_imul dX5_worth_134 ?_
      refine ng_iadd dX5_worth_135 ?_
      exact ng_ireturn dX5_worth_136 ⟨by first | (simp [ng_worth, ng_risen, *]; done) | (simp [ng_worth, ng_risen, *]; rfl) | rfl, rfl⟩
    · refine ng_iload_3 dX5_worth_137 ?_
      exact ng_ireturn dX5_worth_138 ⟨by first | (simp [ng_worth, ng_risen, *]; done) | (simp [ng_worth, ng_risen, *]; rfl) | rfl, rfl⟩
  · refine ng_iload_3 dX5_worth_15 ?_
    refine ng_iload_3 dX5_worth_16 ?_
    refine ng_iconst_5 dX5_worth_17 ?_
    refine ng_idiv dX5_worth_18 (by first | decide | assumption) ?_
    refine ng_iadd dX5_worth_19 ?_
    refine ng_goto 24 dX5_worth_20 (by decide +kernel) ?_
    refine ng_istore_4 dX5_worth_24 rfl ?_
    refine ng_aload_0 dX5_worth_26 ?_
    refine ng_gR dX5_worth_27 fl_X5_25 (by first | rfl | assumption) ?_
    refine ng_gR dX5_worth_30 fl_X5_69 (by first | rfl | assumption) ?_
    refine ng_iload_1 dX5_worth_33 ?_
    refine ng_iald dX5_worth_34 (by first | rfl | assumption) (by first | assumption | (unfold vp_in; decide)) ?_
    refine sw_X5_worth_35 (fun h35 => ?_) (fun h35 => ?_) (fun h35 => ?_) (fun h35 => ?_) (fun h35 => ?_) (fun h35 => ?_) (fun h35n0 h35n1 h35n2 h35n3 h35n4 h35n5 => ?_)
    · refine ng_iload_4 dX5_worth_72 ?_
      exact ng_ireturn dX5_worth_74 ⟨by first | (simp [ng_worth, ng_risen, *]; done) | (simp [ng_worth, ng_risen, *]; rfl) | rfl, rfl⟩
    · refine ng_iload_4 dX5_worth_75 ?_
      refine ng_iconst_3 dX5_worth_77 ?_
      refine ng_aload_0 dX5_worth_78 ?_
      refine ng_gR dX5_worth_79 fl_X5_9 (by first | rfl | assumption) ?_
      refine ng_iload_1 dX5_worth_82 ?_
      refine ng_iald dX5_worth_83 (by first | rfl | assumption) (by first | assumption | (unfold vp_in; decide)) ?_
      refine ng_imul dX5_worth_84 ?_
      refine ng_isub dX5_worth_85 ?_
      exact ng_ireturn dX5_worth_86 ⟨by first | (simp [ng_worth, ng_risen, *]; done) | (simp [ng_worth, ng_risen, *]; rfl) | rfl, rfl⟩
    · refine ng_aload_0 dX5_worth_87 ?_
      refine ng_gR dX5_worth_88 fl_X5_9 (by first | rfl | assumption) ?_
      refine ng_iload_1 dX5_worth_91 ?_
      refine ng_iald dX5_worth_92 (by first | rfl | assumption) (by first | assumption | (unfold vp_in; decide)) ?_
      refine ng_bipush (v := 6) dX5_worth_93 (by decide) ?_
      refine ng_icmp_lt 102 dX5_worth_95 (by decide +kernel) (fun h95 => ?_) (fun h95 => ?_)
      · refine ng_iload_3 dX5_worth_102 ?_
        exact ng_ireturn dX5_worth_103 ⟨by first | (simp [ng_worth, ng_risen, *]; done) | (simp [ng_worth, ng_risen, *]; rfl) | rfl, rfl⟩
      · refine ng_iconst_0 dX5_worth_98 ?_
        refine ng_goto 103 dX5_worth_99 (by decide +kernel) ?_
        exact ng_ireturn dX5_worth_103 ⟨by first | (simp [ng_worth, ng_risen, *]; done) | (simp [ng_worth, ng_risen, *]; rfl) | rfl, rfl⟩
    · refine ng_aload_0 dX5_worth_104 ?_
      refine ng_gR dX5_worth_105 fl_X5_9 (by first | rfl | assumption) ?_
      refine ng_iload_1 dX5_worth_108 ?_
      refine ng_iald dX5_worth_109 (by first | rfl | assumption) (by first | assumption | (unfold vp_in; decide)) ?_
      refine ng_bipush (v := 6) dX5_worth_110 (by decide) ?_
      refine ng_icmp_lt 119 dX5_worth_112 (by decide +kernel) (fun h112 => ?_) (fun h112 => ?_)
      · refine ng_iconst_2 dX5_worth_119 ?_
        refine ng_iload_3 dX5_worth_120 ?_
        refine ng_imul dX5_worth_121 ?_
        exact ng_ireturn dX5_worth_122 ⟨by first | (simp [ng_worth, ng_risen, *]; done) | (simp [ng_worth, ng_risen, *]; rfl) | rfl, rfl⟩
      · refine ng_iconst_0 dX5_worth_115 ?_
        refine ng_goto 122 dX5_worth_116 (by decide +kernel) ?_
        exact ng_ireturn dX5_worth_122 ⟨by first | (simp [ng_worth, ng_risen, *]; done) | (simp [ng_worth, ng_risen, *]; rfl) | rfl, rfl⟩
    · refine ng_iload_3 dX5_worth_123 ?_
      refine ng_iconst_2 dX5_worth_124 ?_
      refine ng_idiv dX5_worth_125 (by first | decide | assumption) ?_
      exact ng_ireturn dX5_worth_126 ⟨by first | (simp [ng_worth, ng_risen, *]; done) | (simp [ng_worth, ng_risen, *]; rfl) | rfl, rfl⟩
    · refine ng_iload_4 dX5_worth_127 ?_
      refine ng_iconst_5 dX5_worth_129 ?_
      refine ng_aload_0 dX5_worth_130 ?_
      refine ng_gI dX5_worth_131 fl_X5_18 (by first | rfl | assumption) ?_
      refine ng_imul dX5_worth_134 ?_
      refine ng_iadd dX5_worth_135 ?_
      exact ng_ireturn dX5_worth_136 ⟨by first | (simp [ng_worth, ng_risen, *]; done) | (simp [ng_worth, ng_risen, *]; rfl) | rfl, rfl⟩
    · refine ng_iload_3 dX5_worth_137 ?_
      exact ng_ireturn dX5_worth_138 ⟨by first | (simp [ng_worth, ng_risen, *]; done) | (simp [ng_worth, ng_risen, *]; rfl) | rfl, rfl⟩
theorem s_X5_takes {X : Nat × (Nat → Int32)} {M : ng_M} {s : Nat} (hs : ng_isS s) {i t : Int32} (hi : vp_in i 8) : ng_EvX X 1 mi_X5_takes [.ref s, .int i, .int t] (M) (some (.int (ng_takes (M 4 (i.toNatClampNeg)) (M 6 (i.toNatClampNeg)) (M (s + 1) (i.toNatClampNeg)) (M s 3) t))) (M) := by
  obtain ⟨⟨hs0, hs1, hs2, hs3, hs4, hs5, hs6, hs7, hs8, hs9, hs10, hs11⟩, hsh, hsp, hso, hsl⟩ := ng_S hs
  refine ng_EvX.ofI (lv := [some (.ref s), some (.int i), some (.int t), none]) (ty := .int) (by decide) (Nat.le_of_ble_eq_true rfl) rfl rfl rfl ?_
  refine ng_aload_0 dX5_takes_0 ?_
  refine ng_gR dX5_takes_1 fl_X5_25 (by first | rfl | assumption) ?_
  refine ng_gR dX5_takes_4 fl_X5_87 (by first | rfl | assumption) ?_
  refine ng_iload_1 dX5_takes_7 ?_
  refine ng_iald dX5_takes_8 (by first | rfl | assumption) (by first | assumption | (unfold vp_in; decide)) ?_
  refine ng_istore_3 dX5_takes_9 rfl ?_
  refine ng_aload_0 dX5_takes_10 ?_
  refine ng_gR dX5_takes_11 fl_X5_25 (by first | rfl | assumption) ?_
  refine ng_gR dX5_takes_14 fl_X5_69 (by first | rfl | assumption) ?_
  refine ng_iload_1 dX5_takes_17 ?_
  refine ng_iald dX5_takes_18 (by first | rfl | assumption) (by first | assumption | (unfold vp_in; decide)) ?_
  refine sw_X5_takes_19 (fun h19 => ?_) (fun h19 => ?_) (fun h19 => ?_) (fun h19n0 h19n1 h19n2 => ?_)
  · refine ng_iload_2 dX5_takes_44 ?_
    refine ng_aload_0 dX5_takes_45 ?_
    refine ng_gI dX5_takes_46 fl_X5_35 (by first | rfl | assumption) ?_
    refine ng_icmp_le 58 dX5_takes_49 (by decide +kernel) (fun h49 => ?_) (fun h49 => ?_)
    · refine ng_iload_3 dX5_takes_58 ?_
      exact ng_ireturn dX5_takes_59 ⟨by first | (simp [ng_takes, ng_max, ng_min, *]; done) | (simp [ng_takes, ng_max, ng_min, *]; rfl) | rfl, rfl⟩
    · refine ng_iconst_2 dX5_takes_52 ?_
      refine ng_iload_3 dX5_takes_53 ?_
      refine ng_imul dX5_takes_54 ?_
      refine ng_goto 59 dX5_takes_55 (by decide +kernel) ?_
      exact ng_ireturn dX5_takes_59 ⟨by first | (simp [ng_takes, ng_max, ng_min, *]; done) | (simp [ng_takes, ng_max, ng_min, *]; rfl) | rfl, rfl⟩
  · refine ng_iconst_0 dX5_takes_60 ?_
    refine ng_iload_3 dX5_takes_61 ?_
    refine ng_bipush (v := 6) dX5_takes_62 (by decide) ?_
    refine ng_aload_0 dX5_takes_64 ?_
    refine ng_gR dX5_takes_65 fl_X5_9 (by first | rfl | assumption) ?_
    refine ng_iload_1 dX5_takes_68 ?_
    refine ng_iald dX5_takes_69 (by first | rfl | assumption) (by first | assumption | (unfold vp_in; decide)) ?_
    refine ng_isub dX5_takes_70 ?_
    refine ng_mmin dX5_takes_71 lk_X5_82 mms_min li_J9 mmc_min (by first | decide | exact Nat.le_of_ble_eq_true rfl) ?_
    refine ng_mmax dX5_takes_74 lk_X5_89 mms_max li_J9 mmc_max (by first | decide | exact Nat.le_of_ble_eq_true rfl) ?_
    exact ng_ireturn dX5_takes_77 ⟨by first | (simp [ng_takes, ng_max, ng_min, *]; done) | (simp [ng_takes, ng_max, ng_min, *]; rfl) | rfl, rfl⟩
  · refine ng_iconst_0 dX5_takes_60 ?_
    refine ng_iload_3 dX5_takes_61 ?_
    refine ng_bipush (v := 6) dX5_takes_62 (by decide) ?_
    refine ng_aload_0 dX5_takes_64 ?_
    refine ng_gR dX5_takes_65 fl_X5_9 (by first | rfl | assumption) ?_
    refine ng_iload_1 dX5_takes_68 ?_
    refine ng_iald dX5_takes_69 (by first | rfl | assumption) (by first | assumption | (unfold vp_in; decide)) ?_
    refine ng_isub dX5_takes_70 ?_
    refine ng_mmin dX5_takes_71 lk_X5_82 mms_min li_J9 mmc_min (by first | decide | exact Nat.le_of_ble_eq_true rfl) ?_
    refine ng_mmax dX5_takes_74 lk_X5_89 mms_max li_J9 mmc_max (by first | decide | exact Nat.le_of_ble_eq_true rfl) ?_
    exact ng_ireturn dX5_takes_77 ⟨by first | (simp [ng_takes, ng_max, ng_min, *]; done) | (simp [ng_takes, ng_max, ng_min, *]; rfl) | rfl, rfl⟩
  · refine ng_iload_3 dX5_takes_78 ?_
    exact ng_ireturn dX5_takes_79 ⟨by first | (simp [ng_takes, ng_max, ng_min, *]; done) | (simp [ng_takes, ng_max, ng_min, *]; rfl) | rfl, rfl⟩
theorem s_X5_buys {X : Nat × (Nat → Int32)} {M : ng_M} {s : Nat} (hs : ng_isS s) {i t lf : Int32} (hi : vp_in i 8) (ht : vp_in t 10) : ng_EvX X 2 mi_X5_buys [.ref s, .int i, .int t, .int lf] (M) (some (.int (ng_buys (M 4 (i.toNatClampNeg)) (M 6 (i.toNatClampNeg)) (M 3 (t.toNatClampNeg)) (M (s + 2) (i.toNatClampNeg)) (M (s + 1) (i.toNatClampNeg)) (M s 4) (M s 3) t lf))) (M) := by
  obtain ⟨⟨hs0, hs1, hs2, hs3, hs4, hs5, hs6, hs7, hs8, hs9, hs10, hs11⟩, hsh, hsp, hso, hsl⟩ := ng_S hs
  refine ng_EvX.ofI (lv := [some (.ref s), some (.int i), some (.int t), some (.int lf)]) (ty := .int) (by decide) (Nat.le_of_ble_eq_true rfl) rfl rfl rfl ?_
  refine ng_iload_3 dX5_buys_0 ?_
  refine ng_if_le 19 dX5_buys_1 (by decide +kernel) (fun h1 => ?_) (fun h1 => ?_)
  · refine ng_iconst_0 dX5_buys_19 ?_
    exact ng_ireturn dX5_buys_20 ⟨by first | (simp [ng_buys, ng_min, *]; done) | (simp [ng_buys, ng_min, *]; rfl) | rfl, rfl⟩
  · refine ng_aload_0 dX5_buys_4 ?_
    refine ng_iload_1 dX5_buys_5 ?_
    refine ng_iload_2 dX5_buys_6 ?_
    refine ng_callV_2x (y2 := mi_X5_due) dX5_buys_7 lk_X5_72 ms_X5_due my_X5_due (by first | exact ⟨_, rfl⟩ | assumption | exact ng_fld_obj (f := 0) (by assumption)) mc_X5 (by first | decide | exact Nat.le_of_ble_eq_true rfl) (s_X5_due (by assumption) (by assumption) (by assumption)) (by decide) ?_
    refine ng_aload_0 dX5_buys_10 ?_
    refine ng_iload_1 dX5_buys_11 ?_
    refine ng_iload_2 dX5_buys_12 ?_
    refine ng_callV_2x (y2 := mi_X5_worth) dX5_buys_13 lk_X5_76 ms_X5_worth my_X5_worth (by first | exact ⟨_, rfl⟩ | assumption | exact ng_fld_obj (f := 0) (by assumption)) mc_X5 (by first | decide | exact Nat.le_of_ble_eq_true rfl) (s_X5_worth (by assumption) (by assumption)) (by decide) ?_
    refine ng_icmp_le 21 dX5_buys_16 (by decide +kernel) (fun h16 => ?_) (fun h16 => ?_)
    · refine ng_iload_3 dX5_buys_21 ?_
      refine ng_aload_0 dX5_buys_22 ?_
      refine ng_iload_1 dX5_buys_23 ?_
      refine ng_iload_2 dX5_buys_24 ?_
      refine ng_callV_2x (y2 := mi_X5_takes) dX5_buys_25 lk_X5_79 ms_X5_takes my_X5_takes (by first | exact ⟨_, rfl⟩ | assumption | exact ng_fld_obj (f := 0) (by assumption)) mc_X5 (by first | decide | exact Nat.le_of_ble_eq_true rfl) (s_X5_takes (by assumption) (by assumption)) (by decide) ?_
      refine ng_mmin dX5_buys_28 lk_X5_82 mms_min li_J9 mmc_min (by first | decide | exact Nat.le_of_ble_eq_true rfl) ?_
      exact ng_ireturn dX5_buys_31 ⟨by first | (simp [ng_buys, ng_min, *]; done) | (simp [ng_buys, ng_min, *]; rfl) | rfl, rfl⟩
    · refine ng_iconst_0 dX5_buys_19 ?_
      exact ng_ireturn dX5_buys_20 ⟨by first | (simp [ng_buys, ng_min, *]; done) | (simp [ng_buys, ng_min, *]; rfl) | rfl, rfl⟩
