/-! ===== the reference: small methods, what a text gives ===== -/
theorem ng_nat {t : Int32} {n : Nat} (h : vp_in t n) : t = nI t.toNatClampNeg := by
  have h1 : ¬ t < 0 := fun q => h (Or.inl q)
  obtain ⟨j, hj, e⟩ := nI_of h1
  rw [e, nI_clamp hj]
theorem nI_mul (a b : Nat) : nI a * nI b = nI (a * b) := (Int32.ofNat_mul a b).symm
theorem ng_ix_of {b f : Int32} {i j : Nat} (hb : b = nI i) (hf : f = nI j) : 21 + 4 * b + f = nI (21 + 4 * i + j) := by
  subst hb; subst hf
  show nI 21 + nI 4 * nI i + nI j = _
  rw [nI_mul, nI_add, nI_add]
theorem ng_ix_add {t : Int32} {n : Nat} (k : Nat) (h : vp_in t n) : nI k + t = nI (k + t.toNatClampNeg) := by
  have := ng_nat h
  rw [this, nI_add, ← this]
/-- a token as the reference keeps it -/
def ng_rv (r : Int32) : Prop := (0 ≤ r.toInt ∧ r.toInt < 10000) ∨ (10000 ≤ r.toInt ∧ r.toInt < 10004) ∨ (20000 ≤ r.toInt ∧ r.toInt ≤ 20010)
def ng_tv (a : ng_R) (o : Nat) : Prop := ∀ j, j < (a o).toNatClampNeg → ng_rv (a (o + 1 + j))
theorem ng_i_eq {a b : Int32} (h : a.toInt = b.toInt) : a = b := Int32.toInt_inj.mp h
/-- the op of a token: which it is -/
theorem ng_rv_op {r : Int32} (h1 : 20000 ≤ r.toInt) (h2 : r.toInt ≤ 20010) : r = 20000 ∨ r = 20001 ∨ r = 20002 ∨ r = 20003 ∨ r = 20004 ∨ r = 20005 ∨ r = 20006 ∨ r = 20007 ∨ r = 20008 ∨ r = 20009 ∨ r = 20010 := by
  have q : ∀ (k : Int32) (z : Int), k.toInt = z → r.toInt = z → r = k := fun k z e1 e2 => ng_i_eq (e2.trans e1.symm)
  have : r.toInt = 20000 ∨ r.toInt = 20001 ∨ r.toInt = 20002 ∨ r.toInt = 20003 ∨ r.toInt = 20004 ∨ r.toInt = 20005 ∨ r.toInt = 20006 ∨ r.toInt = 20007 ∨ r.toInt = 20008 ∨ r.toInt = 20009 ∨ r.toInt = 20010 := by omega
  rcases this with h | h | h | h | h | h | h | h | h | h | h
  · exact Or.inl (q _ _ (by decide) h)
  · exact Or.inr (Or.inl (q _ _ (by decide) h))
  · exact Or.inr (Or.inr (Or.inl (q _ _ (by decide) h)))
  · exact Or.inr (Or.inr (Or.inr (Or.inl (q _ _ (by decide) h))))
  · exact Or.inr (Or.inr (Or.inr (Or.inr (Or.inl (q _ _ (by decide) h)))))
  · exact Or.inr (Or.inr (Or.inr (Or.inr (Or.inr (Or.inl (q _ _ (by decide) h))))))
  · exact Or.inr (Or.inr (Or.inr (Or.inr (Or.inr (Or.inr (Or.inl (q _ _ (by decide) h)))))))
  · exact Or.inr (Or.inr (Or.inr (Or.inr (Or.inr (Or.inr (Or.inr (Or.inl (q _ _ (by decide) h))))))))
  · exact Or.inr (Or.inr (Or.inr (Or.inr (Or.inr (Or.inr (Or.inr (Or.inr (Or.inl (q _ _ (by decide) h)))))))))
  · exact Or.inr (Or.inr (Or.inr (Or.inr (Or.inr (Or.inr (Or.inr (Or.inr (Or.inr (Or.inl (q _ _ (by decide) h))))))))))
  · exact Or.inr (Or.inr (Or.inr (Or.inr (Or.inr (Or.inr (Or.inr (Or.inr (Or.inr (Or.inr (q _ _ (by decide) h))))))))))
def ng_done (op a b : Int32) : Int32 :=
  if op = 20000 then (if ¬ a = 0 then 1 else if b = 0 then 0 else 1)
  else if op = 20001 then (if a = 0 then 0 else if b = 0 then 0 else 1)
  else if op = 20002 then (if b ≤ a then 0 else 1)
  else if op = 20003 then (if ¬ a = b then 0 else 1)
  else if op = 20004 then (if a ≤ b then 0 else 1)
  else if op = 20005 then a + b
  else if op = 20006 then a - b
  else if op = 20007 then a * b
  else if op = 20008 then (if b = 0 then 0 else a / b)
  else (if b = 0 then 0 else a - a / b * b)
theorem ng_done_eq {r : Int32} (h1 : 20000 ≤ r.toInt) (h2 : r.toInt ≤ 20010) (h3 : ¬ r = 20010) (a b : Int32) : ng_done r a b = ng_joined (ng_un r - 10000) a b ∧ 10000 ≤ ng_un r ∧ ¬ ng_un r = 10033 := by
  rcases ng_rv_op h1 h2 with h | h | h | h | h | h | h | h | h | h | h <;> first | (subst h; exact ⟨rfl, by decide, by decide⟩) | exact absurd h h3
theorem sw_X9_done_1 {X : Nat × (Nat → Int32)} {d : Nat} {lv : ng_L} {st : List Value} {M : ng_M} {F : Option Value → ng_M → Prop} {x : Int32} (k0 : x = 20000 → ng_Go X mi_X9_done d 52 lv st M F) (k1 : x = 20001 → ng_Go X mi_X9_done d 66 lv st M F) (k2 : x = 20002 → ng_Go X mi_X9_done d 80 lv st M F) (k3 : x = 20003 → ng_Go X mi_X9_done d 91 lv st M F) (k4 : x = 20004 → ng_Go X mi_X9_done d 102 lv st M F) (k5 : x = 20005 → ng_Go X mi_X9_done d 113 lv st M F) (k6 : x = 20006 → ng_Go X mi_X9_done d 117 lv st M F) (k7 : x = 20007 → ng_Go X mi_X9_done d 121 lv st M F) (k8 : x = 20008 → ng_Go X mi_X9_done d 125 lv st M F) (kd : ¬ x = 20000 → ¬ x = 20001 → ¬ x = 20002 → ¬ x = 20003 → ¬ x = 20004 → ¬ x = 20005 → ¬ x = 20006 → ¬ x = 20007 → ¬ x = 20008 → ng_Go X mi_X9_done d 137 lv st M F) : ng_Go X mi_X9_done d 1 lv (.int x :: st) M F := by
  by_cases h0 : x = 20000
  · subst h0
    intro l D cA ad A p e R s m args below meth c cells slots Q C fin H locs ls hP hS hl
    exact lv_tableIn (tgt := 52) (off := 51) C.1.1 C.1.2.1 dX9_done_1 (by decide) (by decide) (by decide +kernel) (by decide) (k0 rfl l D cA ad A p e R s m args below meth c cells slots Q C fin H locs ls hP hS hl)
  by_cases h1 : x = 20001
  · subst h1
    intro l D cA ad A p e R s m args below meth c cells slots Q C fin H locs ls hP hS hl
    exact lv_tableIn (tgt := 66) (off := 65) C.1.1 C.1.2.1 dX9_done_1 (by decide) (by decide) (by decide +kernel) (by decide) (k1 rfl l D cA ad A p e R s m args below meth c cells slots Q C fin H locs ls hP hS hl)
  by_cases h2 : x = 20002
  · subst h2
    intro l D cA ad A p e R s m args below meth c cells slots Q C fin H locs ls hP hS hl
    exact lv_tableIn (tgt := 80) (off := 79) C.1.1 C.1.2.1 dX9_done_1 (by decide) (by decide) (by decide +kernel) (by decide) (k2 rfl l D cA ad A p e R s m args below meth c cells slots Q C fin H locs ls hP hS hl)
  by_cases h3 : x = 20003
  · subst h3
    intro l D cA ad A p e R s m args below meth c cells slots Q C fin H locs ls hP hS hl
    exact lv_tableIn (tgt := 91) (off := 90) C.1.1 C.1.2.1 dX9_done_1 (by decide) (by decide) (by decide +kernel) (by decide) (k3 rfl l D cA ad A p e R s m args below meth c cells slots Q C fin H locs ls hP hS hl)
  by_cases h4 : x = 20004
  · subst h4
    intro l D cA ad A p e R s m args below meth c cells slots Q C fin H locs ls hP hS hl
    exact lv_tableIn (tgt := 102) (off := 101) C.1.1 C.1.2.1 dX9_done_1 (by decide) (by decide) (by decide +kernel) (by decide) (k4 rfl l D cA ad A p e R s m args below meth c cells slots Q C fin H locs ls hP hS hl)
  by_cases h5 : x = 20005
  · subst h5
    intro l D cA ad A p e R s m args below meth c cells slots Q C fin H locs ls hP hS hl
    exact lv_tableIn (tgt := 113) (off := 112) C.1.1 C.1.2.1 dX9_done_1 (by decide) (by decide) (by decide +kernel) (by decide) (k5 rfl l D cA ad A p e R s m args below meth c cells slots Q C fin H locs ls hP hS hl)
  by_cases h6 : x = 20006
  · subst h6
    intro l D cA ad A p e R s m args below meth c cells slots Q C fin H locs ls hP hS hl
    exact lv_tableIn (tgt := 117) (off := 116) C.1.1 C.1.2.1 dX9_done_1 (by decide) (by decide) (by decide +kernel) (by decide) (k6 rfl l D cA ad A p e R s m args below meth c cells slots Q C fin H locs ls hP hS hl)
  by_cases h7 : x = 20007
  · subst h7
    intro l D cA ad A p e R s m args below meth c cells slots Q C fin H locs ls hP hS hl
    exact lv_tableIn (tgt := 121) (off := 120) C.1.1 C.1.2.1 dX9_done_1 (by decide) (by decide) (by decide +kernel) (by decide) (k7 rfl l D cA ad A p e R s m args below meth c cells slots Q C fin H locs ls hP hS hl)
  by_cases h8 : x = 20008
  · subst h8
    intro l D cA ad A p e R s m args below meth c cells slots Q C fin H locs ls hP hS hl
    exact lv_tableIn (tgt := 125) (off := 124) C.1.1 C.1.2.1 dX9_done_1 (by decide) (by decide) (by decide +kernel) (by decide) (k8 rfl l D cA ad A p e R s m args below meth c cells slots Q C fin H locs ls hP hS hl)
  intro l D cA ad A p e R s m args below meth c cells slots Q C fin H locs ls hP hS hl
  have g0 := lv_neT h0 (show (20000 : Int32).toInt = 20000 from by decide)
  have g1 := lv_neT h1 (show (20001 : Int32).toInt = 20001 from by decide)
  have g2 := lv_neT h2 (show (20002 : Int32).toInt = 20002 from by decide)
  have g3 := lv_neT h3 (show (20003 : Int32).toInt = 20003 from by decide)
  have g4 := lv_neT h4 (show (20004 : Int32).toInt = 20004 from by decide)
  have g5 := lv_neT h5 (show (20005 : Int32).toInt = 20005 from by decide)
  have g6 := lv_neT h6 (show (20006 : Int32).toInt = 20006 from by decide)
  have g7 := lv_neT h7 (show (20007 : Int32).toInt = 20007 from by decide)
  have g8 := lv_neT h8 (show (20008 : Int32).toInt = 20008 from by decide)
  exact lv_tableOut (tgt := 137) C.1.1 C.1.2.1 dX9_done_1 (by omega) (by decide) (kd h0 h1 h2 h3 h4 h5 h6 h7 h8 l D cA ad A p e R s m args below meth c cells slots Q C fin H locs ls hP hS hl)
theorem sw_X9_worthOf_51 {X : Nat × (Nat → Int32)} {d : Nat} {lv : ng_L} {st : List Value} {M : ng_M} {F : Option Value → ng_M → Prop} {x : Int32} (k0 : x = 1 → ng_Go X mi_X9_worthOf d 88 lv st M F) (k1 : x = 2 → ng_Go X mi_X9_worthOf d 91 lv st M F) (k2 : x = 3 → ng_Go X mi_X9_worthOf d 103 lv st M F) (k3 : x = 4 → ng_Go X mi_X9_worthOf d 106 lv st M F) (k4 : x = 5 → ng_Go X mi_X9_worthOf d 111 lv st M F) (k5 : x = 6 → ng_Go X mi_X9_worthOf d 115 lv st M F) (kd : ¬ x = 1 → ¬ x = 2 → ¬ x = 3 → ¬ x = 4 → ¬ x = 5 → ¬ x = 6 → ng_Go X mi_X9_worthOf d 127 lv st M F) : ng_Go X mi_X9_worthOf d 51 lv (.int x :: st) M F := by
  by_cases h0 : x = 1
  · subst h0
    intro l D cA ad A p e R s m args below meth c cells slots Q C fin H locs ls hP hS hl
    exact lv_tableIn (tgt := 88) (off := 37) C.1.1 C.1.2.1 dX9_worthOf_51 (by decide) (by decide) (by decide +kernel) (by decide) (k0 rfl l D cA ad A p e R s m args below meth c cells slots Q C fin H locs ls hP hS hl)
  by_cases h1 : x = 2
  · subst h1
    intro l D cA ad A p e R s m args below meth c cells slots Q C fin H locs ls hP hS hl
    exact lv_tableIn (tgt := 91) (off := 40) C.1.1 C.1.2.1 dX9_worthOf_51 (by decide) (by decide) (by decide +kernel) (by decide) (k1 rfl l D cA ad A p e R s m args below meth c cells slots Q C fin H locs ls hP hS hl)
  by_cases h2 : x = 3
  · subst h2
    intro l D cA ad A p e R s m args below meth c cells slots Q C fin H locs ls hP hS hl
    exact lv_tableIn (tgt := 103) (off := 52) C.1.1 C.1.2.1 dX9_worthOf_51 (by decide) (by decide) (by decide +kernel) (by decide) (k2 rfl l D cA ad A p e R s m args below meth c cells slots Q C fin H locs ls hP hS hl)
  by_cases h3 : x = 4
  · subst h3
    intro l D cA ad A p e R s m args below meth c cells slots Q C fin H locs ls hP hS hl
    exact lv_tableIn (tgt := 106) (off := 55) C.1.1 C.1.2.1 dX9_worthOf_51 (by decide) (by decide) (by decide +kernel) (by decide) (k3 rfl l D cA ad A p e R s m args below meth c cells slots Q C fin H locs ls hP hS hl)
  by_cases h4 : x = 5
  · subst h4
    intro l D cA ad A p e R s m args below meth c cells slots Q C fin H locs ls hP hS hl
    exact lv_tableIn (tgt := 111) (off := 60) C.1.1 C.1.2.1 dX9_worthOf_51 (by decide) (by decide) (by decide +kernel) (by decide) (k4 rfl l D cA ad A p e R s m args below meth c cells slots Q C fin H locs ls hP hS hl)
  by_cases h5 : x = 6
  · subst h5
    intro l D cA ad A p e R s m args below meth c cells slots Q C fin H locs ls hP hS hl
    exact lv_tableIn (tgt := 115) (off := 64) C.1.1 C.1.2.1 dX9_worthOf_51 (by decide) (by decide) (by decide +kernel) (by decide) (k5 rfl l D cA ad A p e R s m args below meth c cells slots Q C fin H locs ls hP hS hl)
  intro l D cA ad A p e R s m args below meth c cells slots Q C fin H locs ls hP hS hl
  have g0 := lv_neT h0 (show (1 : Int32).toInt = 1 from by decide)
  have g1 := lv_neT h1 (show (2 : Int32).toInt = 2 from by decide)
  have g2 := lv_neT h2 (show (3 : Int32).toInt = 3 from by decide)
  have g3 := lv_neT h3 (show (4 : Int32).toInt = 4 from by decide)
  have g4 := lv_neT h4 (show (5 : Int32).toInt = 5 from by decide)
  have g5 := lv_neT h5 (show (6 : Int32).toInt = 6 from by decide)
  exact lv_tableOut (tgt := 127) C.1.1 C.1.2.1 dX9_worthOf_51 (by omega) (by decide) (kd h0 h1 h2 h3 h4 h5 l D cA ad A p e R s m args below meth c cells slots Q C fin H locs ls hP hS hl)
theorem sw_X9_toldOf_3 {X : Nat × (Nat → Int32)} {d : Nat} {lv : ng_L} {st : List Value} {M : ng_M} {F : Option Value → ng_M → Prop} {x : Int32} (k0 : x = 0 → ng_Go X mi_X9_toldOf d 32 lv st M F) (k1 : x = 1 → ng_Go X mi_X9_toldOf d 40 lv st M F) (k2 : x = 2 → ng_Go X mi_X9_toldOf d 47 lv st M F) (k3 : x = 3 → ng_Go X mi_X9_toldOf d 54 lv st M F) (kd : ¬ x = 0 → ¬ x = 1 → ¬ x = 2 → ¬ x = 3 → ng_Go X mi_X9_toldOf d 59 lv st M F) : ng_Go X mi_X9_toldOf d 3 lv (.int x :: st) M F := by
  by_cases h0 : x = 0
  · subst h0
    intro l D cA ad A p e R s m args below meth c cells slots Q C fin H locs ls hP hS hl
    exact lv_tableIn (tgt := 32) (off := 29) C.1.1 C.1.2.1 dX9_toldOf_3 (by decide) (by decide) (by decide +kernel) (by decide) (k0 rfl l D cA ad A p e R s m args below meth c cells slots Q C fin H locs ls hP hS hl)
  by_cases h1 : x = 1
  · subst h1
    intro l D cA ad A p e R s m args below meth c cells slots Q C fin H locs ls hP hS hl
    exact lv_tableIn (tgt := 40) (off := 37) C.1.1 C.1.2.1 dX9_toldOf_3 (by decide) (by decide) (by decide +kernel) (by decide) (k1 rfl l D cA ad A p e R s m args below meth c cells slots Q C fin H locs ls hP hS hl)
  by_cases h2 : x = 2
  · subst h2
    intro l D cA ad A p e R s m args below meth c cells slots Q C fin H locs ls hP hS hl
    exact lv_tableIn (tgt := 47) (off := 44) C.1.1 C.1.2.1 dX9_toldOf_3 (by decide) (by decide) (by decide +kernel) (by decide) (k2 rfl l D cA ad A p e R s m args below meth c cells slots Q C fin H locs ls hP hS hl)
  by_cases h3 : x = 3
  · subst h3
    intro l D cA ad A p e R s m args below meth c cells slots Q C fin H locs ls hP hS hl
    exact lv_tableIn (tgt := 54) (off := 51) C.1.1 C.1.2.1 dX9_toldOf_3 (by decide) (by decide) (by decide +kernel) (by decide) (k3 rfl l D cA ad A p e R s m args below meth c cells slots Q C fin H locs ls hP hS hl)
  intro l D cA ad A p e R s m args below meth c cells slots Q C fin H locs ls hP hS hl
  have g0 := lv_neT h0 (show (0 : Int32).toInt = 0 from by decide)
  have g1 := lv_neT h1 (show (1 : Int32).toInt = 1 from by decide)
  have g2 := lv_neT h2 (show (2 : Int32).toInt = 2 from by decide)
  have g3 := lv_neT h3 (show (3 : Int32).toInt = 3 from by decide)
  exact lv_tableOut (tgt := 59) C.1.1 C.1.2.1 dX9_toldOf_3 (by omega) (by decide) (kd h0 h1 h2 h3 l D cA ad A p e R s m args below meth c cells slots Q C fin H locs ls hP hS hl)
theorem sw_X9_hasOwn_1 {X : Nat × (Nat → Int32)} {d : Nat} {lv : ng_L} {st : List Value} {M : ng_M} {F : Option Value → ng_M → Prop} {x : Int32} (k0 : x = 0 → ng_Go X mi_X9_hasOwn d 40 lv st M F) (k1 : x = 1 → ng_Go X mi_X9_hasOwn d 42 lv st M F) (k2 : x = 2 → ng_Go X mi_X9_hasOwn d 53 lv st M F) (k3 : x = 3 → ng_Go X mi_X9_hasOwn d 63 lv st M F) (k4 : x = 4 → ng_Go X mi_X9_hasOwn d 74 lv st M F) (k5 : x = 5 → ng_Go X mi_X9_hasOwn d 42 lv st M F) (kd : ¬ x = 0 → ¬ x = 1 → ¬ x = 2 → ¬ x = 3 → ¬ x = 4 → ¬ x = 5 → ng_Go X mi_X9_hasOwn d 89 lv st M F) : ng_Go X mi_X9_hasOwn d 1 lv (.int x :: st) M F := by
  by_cases h0 : x = 0
  · subst h0
    intro l D cA ad A p e R s m args below meth c cells slots Q C fin H locs ls hP hS hl
    exact lv_tableIn (tgt := 40) (off := 39) C.1.1 C.1.2.1 dX9_hasOwn_1 (by decide) (by decide) (by decide +kernel) (by decide) (k0 rfl l D cA ad A p e R s m args below meth c cells slots Q C fin H locs ls hP hS hl)
  by_cases h1 : x = 1
  · subst h1
    intro l D cA ad A p e R s m args below meth c cells slots Q C fin H locs ls hP hS hl
    exact lv_tableIn (tgt := 42) (off := 41) C.1.1 C.1.2.1 dX9_hasOwn_1 (by decide) (by decide) (by decide +kernel) (by decide) (k1 rfl l D cA ad A p e R s m args below meth c cells slots Q C fin H locs ls hP hS hl)
  by_cases h2 : x = 2
  · subst h2
    intro l D cA ad A p e R s m args below meth c cells slots Q C fin H locs ls hP hS hl
    exact lv_tableIn (tgt := 53) (off := 52) C.1.1 C.1.2.1 dX9_hasOwn_1 (by decide) (by decide) (by decide +kernel) (by decide) (k2 rfl l D cA ad A p e R s m args below meth c cells slots Q C fin H locs ls hP hS hl)
  by_cases h3 : x = 3
  · subst h3
    intro l D cA ad A p e R s m args below meth c cells slots Q C fin H locs ls hP hS hl
    exact lv_tableIn (tgt := 63) (off := 62) C.1.1 C.1.2.1 dX9_hasOwn_1 (by decide) (by decide) (by decide +kernel) (by decide) (k3 rfl l D cA ad A p e R s m args below meth c cells slots Q C fin H locs ls hP hS hl)
  by_cases h4 : x = 4
  · subst h4
    intro l D cA ad A p e R s m args below meth c cells slots Q C fin H locs ls hP hS hl
    exact lv_tableIn (tgt := 74) (off := 73) C.1.1 C.1.2.1 dX9_hasOwn_1 (by decide) (by decide) (by decide +kernel) (by decide) (k4 rfl l D cA ad A p e R s m args below meth c cells slots Q C fin H locs ls hP hS hl)
  by_cases h5 : x = 5
  · subst h5
    intro l D cA ad A p e R s m args below meth c cells slots Q C fin H locs ls hP hS hl
    exact lv_tableIn (tgt := 42) (off := 41) C.1.1 C.1.2.1 dX9_hasOwn_1 (by decide) (by decide) (by decide +kernel) (by decide) (k5 rfl l D cA ad A p e R s m args below meth c cells slots Q C fin H locs ls hP hS hl)
  intro l D cA ad A p e R s m args below meth c cells slots Q C fin H locs ls hP hS hl
  have g0 := lv_neT h0 (show (0 : Int32).toInt = 0 from by decide)
  have g1 := lv_neT h1 (show (1 : Int32).toInt = 1 from by decide)
  have g2 := lv_neT h2 (show (2 : Int32).toInt = 2 from by decide)
  have g3 := lv_neT h3 (show (3 : Int32).toInt = 3 from by decide)
  have g4 := lv_neT h4 (show (4 : Int32).toInt = 4 from by decide)
  have g5 := lv_neT h5 (show (5 : Int32).toInt = 5 from by decide)
  exact lv_tableOut (tgt := 89) C.1.1 C.1.2.1 dX9_hasOwn_1 (by omega) (by decide) (kd h0 h1 h2 h3 h4 h5 l D cA ad A p e R s m args below meth c cells slots Q C fin H locs ls hP hS hl)
theorem s_X9_within {X : Nat × (Nat → Int32)} {M : ng_M} {v a b : Int32} : ng_EvX X 1 mi_X9_within [.int v, .int a, .int b] (M) (some (.int (ng_bi (ng_in v a b)))) (M) := by
  refine ng_EvX.ofI (lv := [some (.int v), some (.int a), some (.int b)]) (ty := .boolean) (by decide) (Nat.le_of_ble_eq_true rfl) rfl rfl (ng_bi_nar _) ?_
  refine ng_iload_0 dX9_within_0 ?_
  refine ng_iload_1 dX9_within_1 ?_
  refine ng_icmp_lt 14 dX9_within_2 (by decide +kernel) (fun h2 => ?_) (fun h2 => ?_)
  · refine ng_iconst_0 dX9_within_14 ?_
    exact ng_ireturn dX9_within_15 ⟨by first | (rw [ng_in_f1 (by assumption)]; rfl) | (rw [ng_in_f2 (by assumption)]; rfl) | (rw [ng_in_t (by assumption) (by assumption)]; rfl), rfl⟩
  · refine ng_iload_0 dX9_within_5 ?_
    refine ng_iload_2 dX9_within_6 ?_
    refine ng_icmp_gt 14 dX9_within_7 (by decide +kernel) (fun h7 => ?_) (fun h7 => ?_)
    · refine ng_iconst_0 dX9_within_14 ?_
      exact ng_ireturn dX9_within_15 ⟨by first | (rw [ng_in_f1 (by assumption)]; rfl) | (rw [ng_in_f2 (by assumption)]; rfl) | (rw [ng_in_t (by assumption) (by assumption)]; rfl), rfl⟩
    · refine ng_iconst_1 dX9_within_10 ?_
      refine ng_goto 15 dX9_within_11 (by decide +kernel) ?_
      exact ng_ireturn dX9_within_15 ⟨by first | (rw [ng_in_f1 (by assumption)]; rfl) | (rw [ng_in_f2 (by assumption)]; rfl) | (rw [ng_in_t (by assumption) (by assumption)]; rfl), rfl⟩
theorem s_X9_isStep {X : Nat × (Nat → Int32)} {M : ng_M} {v : Int32} : ng_EvX X 2 mi_X9_isStep [.int v] (M) (some (.int (ng_bi (ng_in v 0 9)))) (M) := by
  refine ng_EvX.ofI (lv := [some (.int v)]) (ty := .boolean) (by decide) (Nat.le_of_ble_eq_true rfl) rfl rfl (ng_bi_nar _) ?_
  refine ng_iload_0 dX9_isStep_0 ?_
  refine ng_iconst_0 dX9_isStep_1 ?_
  refine ng_bipush (v := 9) dX9_isStep_2 (by decide) ?_
  refine ng_callS_3x (y2 := mi_X9_within) dX9_isStep_4 lk_X9_80 ms_X9_within my_X9_within (by first | decide | exact Nat.le_of_ble_eq_true rfl) (s_X9_within) (by decide) ?_
  exact ng_ireturn dX9_isStep_7 ⟨rfl, rfl⟩
theorem s_X9_isSheet {X : Nat × (Nat → Int32)} {M : ng_M} {v : Int32} : ng_EvX X 2 mi_X9_isSheet [.int v] (M) (some (.int (ng_bi (ng_in v 0 3)))) (M) := by
  refine ng_EvX.ofI (lv := [some (.int v)]) (ty := .boolean) (by decide) (Nat.le_of_ble_eq_true rfl) rfl rfl (ng_bi_nar _) ?_
  refine ng_iload_0 dX9_isSheet_0 ?_
  refine ng_iconst_0 dX9_isSheet_1 ?_
  refine ng_iconst_3 dX9_isSheet_2 ?_
  refine ng_callS_3x (y2 := mi_X9_within) dX9_isSheet_3 lk_X9_80 ms_X9_within my_X9_within (by first | decide | exact Nat.le_of_ble_eq_true rfl) (s_X9_within) (by decide) ?_
  exact ng_ireturn dX9_isSheet_6 ⟨rfl, rfl⟩
theorem s_X9_isAhead {X : Nat × (Nat → Int32)} {M : ng_M} {v : Int32} : ng_EvX X 2 mi_X9_isAhead [.int v] (M) (some (.int (ng_bi (ng_in v 0 40)))) (M) := by
  refine ng_EvX.ofI (lv := [some (.int v)]) (ty := .boolean) (by decide) (Nat.le_of_ble_eq_true rfl) rfl rfl (ng_bi_nar _) ?_
  refine ng_iload_0 dX9_isAhead_0 ?_
  refine ng_iconst_0 dX9_isAhead_1 ?_
  refine ng_bipush (v := 40) dX9_isAhead_2 (by decide) ?_
  refine ng_callS_3x (y2 := mi_X9_within) dX9_isAhead_4 lk_X9_80 ms_X9_within my_X9_within (by first | decide | exact Nat.le_of_ble_eq_true rfl) (s_X9_within) (by decide) ?_
  exact ng_ireturn dX9_isAhead_7 ⟨rfl, rfl⟩
theorem s_X9_isAsTold {X : Nat × (Nat → Int32)} {M : ng_M} {a b c : Int32} : ng_EvX X 2 mi_X9_isAsTold [.int a, .int b, .int c] (M) (some (.int (ng_bi (ng_told a b c)))) (M) := by
  refine ng_EvX.ofI (lv := [some (.int a), some (.int b), some (.int c)]) (ty := .boolean) (by decide) (Nat.le_of_ble_eq_true rfl) rfl rfl (ng_bi_nar _) ?_
  refine ng_iload_0 dX9_isAsTold_0 ?_
  refine ng_iconst_0 dX9_isAsTold_1 ?_
  refine ng_bipush (v := 6) dX9_isAsTold_2 (by decide) ?_
  refine ng_callS_3x (y2 := mi_X9_within) dX9_isAsTold_4 lk_X9_80 ms_X9_within my_X9_within (by first | decide | exact Nat.le_of_ble_eq_true rfl) (s_X9_within) (by decide) ?_
  refine ng_ifb_eq 35 dX9_isAsTold_7 (by decide +kernel) (fun h7 => ?_) (fun h7 => ?_)
  · refine ng_iconst_0 dX9_isAsTold_35 ?_
    exact ng_ireturn dX9_isAsTold_36 ⟨by simp [ng_told, ng_bi, *], rfl⟩
  · refine ng_iload_1 dX9_isAsTold_10 ?_
    refine ng_iconst_0 dX9_isAsTold_11 ?_
    refine ng_sipush (v := 9999) dX9_isAsTold_12 (by decide) ?_
    refine ng_callS_3x (y2 := mi_X9_within) dX9_isAsTold_15 lk_X9_80 ms_X9_within my_X9_within (by first | decide | exact Nat.le_of_ble_eq_true rfl) (s_X9_within) (by decide) ?_
    refine ng_ifb_eq 35 dX9_isAsTold_18 (by decide +kernel) (fun h18 => ?_) (fun h18 => ?_)
    · refine ng_iconst_0 dX9_isAsTold_35 ?_
      exact ng_ireturn dX9_isAsTold_36 ⟨by simp [ng_told, ng_bi, *], rfl⟩
    · refine ng_iload_2 dX9_isAsTold_21 ?_
      refine ng_iconst_1 dX9_isAsTold_22 ?_
      refine ng_bipush (v := 9) dX9_isAsTold_23 (by decide) ?_
      refine ng_callS_3x (y2 := mi_X9_within) dX9_isAsTold_25 lk_X9_80 ms_X9_within my_X9_within (by first | decide | exact Nat.le_of_ble_eq_true rfl) (s_X9_within) (by decide) ?_
      refine ng_ifb_eq 35 dX9_isAsTold_28 (by decide +kernel) (fun h28 => ?_) (fun h28 => ?_)
      · refine ng_iconst_0 dX9_isAsTold_35 ?_
        exact ng_ireturn dX9_isAsTold_36 ⟨by simp [ng_told, ng_bi, *], rfl⟩
      · refine ng_iconst_1 dX9_isAsTold_31 ?_
        refine ng_goto 36 dX9_isAsTold_32 (by decide +kernel) ?_
        exact ng_ireturn dX9_isAsTold_36 ⟨by simp [ng_told, ng_bi, *], rfl⟩
theorem s_X9_held {X : Nat × (Nat → Int32)} {M : ng_M} {v a b : Int32} : ng_EvX X 1 mi_X9_held [.int v, .int a, .int b] (M) (some (.int (ng_held v a b))) (M) := by
  refine ng_EvX.ofI (lv := [some (.int v), some (.int a), some (.int b)]) (ty := .int) (by decide) (Nat.le_of_ble_eq_true rfl) rfl rfl rfl ?_
  refine ng_iload_1 dX9_held_0 ?_
  refine ng_iload_2 dX9_held_1 ?_
  refine ng_iload_0 dX9_held_2 ?_
  refine ng_mmin dX9_held_3 lk_X9_67 mms_min li_J9 mmc_min (by first | decide | exact Nat.le_of_ble_eq_true rfl) ?_
  refine ng_mmax dX9_held_6 lk_X9_73 mms_max li_J9 mmc_max (by first | decide | exact Nat.le_of_ble_eq_true rfl) ?_
  exact ng_ireturn dX9_held_9 ⟨rfl, rfl⟩
theorem s_X9_done {X : Nat × (Nat → Int32)} {M : ng_M} {o a b : Int32} : ng_EvX X 1 mi_X9_done [.int o, .int a, .int b] (M) (some (.int (ng_done o a b))) (M) := by
  refine ng_EvX.ofI (lv := [some (.int o), some (.int a), some (.int b)]) (ty := .int) (by decide) (Nat.le_of_ble_eq_true rfl) rfl rfl rfl ?_
  refine ng_iload_0 dX9_done_0 ?_
  refine sw_X9_done_1 (fun h1 => ?_) (fun h1 => ?_) (fun h1 => ?_) (fun h1 => ?_) (fun h1 => ?_) (fun h1 => ?_) (fun h1 => ?_) (fun h1 => ?_) (fun h1 => ?_) (fun h1n0 h1n1 h1n2 h1n3 h1n4 h1n5 h1n6 h1n7 h1n8 => ?_)
  · refine ng_iload_1 dX9_done_52 ?_
    refine ng_if_ne 60 dX9_done_53 (by decide +kernel) (fun h53 => ?_) (fun h53 => ?_)
    · refine ng_iconst_1 dX9_done_60 ?_
      refine ng_goto 65 dX9_done_61 (by decide +kernel) ?_
      exact ng_ireturn dX9_done_65 ⟨by first | (simp [ng_done, *]; done) | (simp [ng_done, *]; rfl) | rfl, rfl⟩
    · refine ng_iload_2 dX9_done_56 ?_
      refine ng_if_eq 64 dX9_done_57 (by decide +kernel) (fun h57 => ?_) (fun h57 => ?_)
      · refine ng_iconst_0 dX9_done_64 ?_
        exact ng_ireturn dX9_done_65 ⟨by first | (simp [ng_done, *]; done) | (simp [ng_done, *]; rfl) | rfl, rfl⟩
      · refine ng_iconst_1 dX9_done_60 ?_
        refine ng_goto 65 dX9_done_61 (by decide +kernel) ?_
        exact ng_ireturn dX9_done_65 ⟨by first | (simp [ng_done, *]; done) | (simp [ng_done, *]; rfl) | rfl, rfl⟩
  · refine ng_iload_1 dX9_done_66 ?_
    refine ng_if_eq 78 dX9_done_67 (by decide +kernel) (fun h67 => ?_) (fun h67 => ?_)
    · refine ng_iconst_0 dX9_done_78 ?_
      exact ng_ireturn dX9_done_79 ⟨by first | (simp [ng_done, *]; done) | (simp [ng_done, *]; rfl) | rfl, rfl⟩
    · refine ng_iload_2 dX9_done_70 ?_
      refine ng_if_eq 78 dX9_done_71 (by decide +kernel) (fun h71 => ?_) (fun h71 => ?_)
      · refine ng_iconst_0 dX9_done_78 ?_
        exact ng_ireturn dX9_done_79 ⟨by first | (simp [ng_done, *]; done) | (simp [ng_done, *]; rfl) | rfl, rfl⟩
      · refine ng_iconst_1 dX9_done_74 ?_
        refine ng_goto 79 dX9_done_75 (by decide +kernel) ?_
        exact ng_ireturn dX9_done_79 ⟨by first | (simp [ng_done, *]; done) | (simp [ng_done, *]; rfl) | rfl, rfl⟩
  · refine ng_iload_1 dX9_done_80 ?_
    refine ng_iload_2 dX9_done_81 ?_
    refine ng_icmp_ge 89 dX9_done_82 (by decide +kernel) (fun h82 => ?_) (fun h82 => ?_)
    · refine ng_iconst_0 dX9_done_89 ?_
      exact ng_ireturn dX9_done_90 ⟨by first | (simp [ng_done, *]; done) | (simp [ng_done, *]; rfl) | rfl, rfl⟩
    · refine ng_iconst_1 dX9_done_85 ?_
      refine ng_goto 90 dX9_done_86 (by decide +kernel) ?_
      exact ng_ireturn dX9_done_90 ⟨by first | (simp [ng_done, *]; done) | (simp [ng_done, *]; rfl) | rfl, rfl⟩
  · refine ng_iload_1 dX9_done_91 ?_
    refine ng_iload_2 dX9_done_92 ?_
    refine ng_icmp_ne 100 dX9_done_93 (by decide +kernel) (fun h93 => ?_) (fun h93 => ?_)
    · refine ng_iconst_0 dX9_done_100 ?_
      exact ng_ireturn dX9_done_101 ⟨by first | (simp [ng_done, *]; done) | (simp [ng_done, *]; rfl) | rfl, rfl⟩
    · refine ng_iconst_1 dX9_done_96 ?_
      refine ng_goto 101 dX9_done_97 (by decide +kernel) ?_
      exact ng_ireturn dX9_done_101 ⟨by first | (simp [ng_done, *]; done) | (simp [ng_done, *]; rfl) | rfl, rfl⟩
  · refine ng_iload_1 dX9_done_102 ?_
    refine ng_iload_2 dX9_done_103 ?_
    refine ng_icmp_le 111 dX9_done_104 (by decide +kernel) (fun h104 => ?_) (fun h104 => ?_)
    · refine ng_iconst_0 dX9_done_111 ?_
      exact ng_ireturn dX9_done_112 ⟨by first | (simp [ng_done, *]; done) | (simp [ng_done, *]; rfl) | rfl, rfl⟩
    · refine ng_iconst_1 dX9_done_107 ?_
      refine ng_goto 112 dX9_done_108 (by decide +kernel) ?_
      exact ng_ireturn dX9_done_112 ⟨by first | (simp [ng_done, *]; done) | (simp [ng_done, *]; rfl) | rfl, rfl⟩
  · refine ng_iload_1 dX9_done_113 ?_
    refine ng_iload_2 dX9_done_114 ?_
    refine ng_iadd dX9_done_115 ?_
    exact ng_ireturn dX9_done_116 ⟨by first | (simp [ng_done, *]; done) | (simp [ng_done, *]; rfl) | rfl, rfl⟩
  · refine ng_iload_1 dX9_done_117 ?_
    refine ng_iload_2 dX9_done_118 ?_
    refine ng_isub dX9_done_119 ?_
    exact ng_ireturn dX9_done_120 ⟨by first | (simp [ng_done, *]; done) | (simp [ng_done, *]; rfl) | rfl, rfl⟩
  · refine ng_iload_1 dX9_done_121 ?_
    refine ng_iload_2 dX9_done_122 ?_
    refine ng_imul dX9_done_123 ?_
    exact ng_ireturn dX9_done_124 ⟨by first | (simp [ng_done, *]; done) | (simp [ng_done, *]; rfl) | rfl, rfl⟩
  · refine ng_iload_2 dX9_done_125 ?_
    refine ng_if_ne 133 dX9_done_126 (by decide +kernel) (fun h126 => ?_) (fun h126 => ?_)
    · refine ng_iload_1 dX9_done_133 ?_
      refine ng_iload_2 dX9_done_134 ?_
      refine ng_idiv dX9_done_135 (by first | decide | assumption) ?_
      exact ng_ireturn dX9_done_136 ⟨by first | (simp [ng_done, *]; done) | (simp [ng_done, *]; rfl) | rfl, rfl⟩
    · refine ng_iconst_0 dX9_done_129 ?_
      refine ng_goto 136 dX9_done_130 (by decide +kernel) ?_
      exact ng_ireturn dX9_done_136 ⟨by first | (simp [ng_done, *]; done) | (simp [ng_done, *]; rfl) | rfl, rfl⟩
  · refine ng_iload_2 dX9_done_137 ?_
    refine ng_if_ne 145 dX9_done_138 (by decide +kernel) (fun h138 => ?_) (fun h138 => ?_)
    · refine ng_iload_1 dX9_done_145 ?_
      refine ng_iload_2 dX9_done_146 ?_
      refine ng_irem dX9_done_147 (by first | decide | assumption) ?_
      exact ng_ireturn dX9_done_148 ⟨by first | (simp [ng_done, *]; done) | (simp [ng_done, *]; rfl) | rfl, rfl⟩
    · refine ng_iconst_0 dX9_done_141 ?_
      refine ng_goto 148 dX9_done_142 (by decide +kernel) ?_
      exact ng_ireturn dX9_done_148 ⟨by first | (simp [ng_done, *]; done) | (simp [ng_done, *]; rfl) | rfl, rfl⟩
theorem s_X9_of {X : Nat × (Nat → Int32)} {M : ng_M} {b f : Int32} {i j : Nat} (hb : b = nI i) (hf : f = nI j) (hi : i < 8) (hj : j < 4) : ng_EvX X 1 mi_X9_of [.ref 73, .int b, .int f] (M) (some (.int (M 74 (21 + 4 * i + j)))) (M) := by
  refine ng_EvX.ofI (lv := [some (.ref 73), some (.int b), some (.int f)]) (ty := .int) (by decide) (Nat.le_of_ble_eq_true rfl) rfl rfl rfl ?_
  refine ng_aload_0 dX9_of_0 ?_
  refine ng_gR dX9_of_1 fl_X9_9 (by first | rfl | assumption) ?_
  refine ng_bipush (v := 21) dX9_of_4 (by decide) ?_
  refine ng_iconst_4 dX9_of_6 ?_
  refine ng_iload_1 dX9_of_7 ?_
  refine ng_imul dX9_of_8 ?_
  refine ng_iadd dX9_of_9 ?_
  refine ng_iload_2 dX9_of_10 ?_
  refine ng_iadd dX9_of_11 ?_
  refine ng_iald dX9_of_12 (by first | rfl | assumption) (by rw [ng_ix_of hb hf]; exact vp_in_nI (by omega) (by omega)) ?_
  exact ng_ireturn dX9_of_13 ⟨by rw [ng_ix_of hb hf, nI_clamp (by omega)], rfl⟩
theorem s_X9_is {X : Nat × (Nat → Int32)} {M : ng_M} {i : Int32} : ng_EvX X 2 mi_X9_is [.ref 73, .int i] (M) (some (.int (ng_bi (ng_in i 0 (M 74 1 - 1))))) (M) := by
  refine ng_EvX.ofI (lv := [some (.ref 73), some (.int i)]) (ty := .boolean) (by decide) (Nat.le_of_ble_eq_true rfl) rfl rfl (ng_bi_nar _) ?_
  refine ng_iload_1 dX9_is_0 ?_
  refine ng_iconst_0 dX9_is_1 ?_
  refine ng_aload_0 dX9_is_2 ?_
  refine ng_gR dX9_is_3 fl_X9_9 (by first | rfl | assumption) ?_
  refine ng_iconst_1 dX9_is_6 ?_
  refine ng_iald dX9_is_7 (by first | rfl | assumption) (by first | assumption | (unfold vp_in; decide)) ?_
  refine ng_iconst_1 dX9_is_8 ?_
  refine ng_isub dX9_is_9 ?_
  refine ng_callS_3x (y2 := mi_X9_within) dX9_is_10 lk_X9_80 ms_X9_within my_X9_within (by first | decide | exact Nat.le_of_ble_eq_true rfl) (s_X9_within) (by decide) ?_
  exact ng_ireturn dX9_is_13 ⟨rfl, rfl⟩
theorem l_X9_worked {X : Nat × (Nat → Int32)} {M : ng_M} {o n : Nat} (ho : o = 123 ∨ o = 175) (hn : M 74 o = nI n) (hn50 : n ≤ 50) (hv : ∀ j, j < n → ng_rv (M 74 (o + 1 + j))) {H : Nat → Nat} (hH0 : H 0 = 0) (hH1 : H n = 1) (hw : ∀ j, j < n → ng_tok (ng_tc (M 74) o j) (H j) (H (j + 1))) {a b c d : Int32} (ha : M 81 0 = a) (hb : M 81 1 = b) (hc : M 81 2 = c) (hd : M 81 3 = d) :
    ∀ (m i : Nat) (x4 : Option Value) (M1 : ng_M), i + m = n → (∀ k, k ≠ 82 → M1 k = M k) → ng_pile (M1 82) (ng_run (ng_n4 a b c d) (ng_tc (M 74) o) i) →
    ng_Go X mi_X9_worked 2 4 [some (.ref 73), some (.int (nI (o + 1))), some (.int (nI (H i))), some (.int (nI (o + 1 + i))), x4] [] M1 (fun r' M' => ∃ v, r' = some (.int v) ∧ v = (ng_run (ng_n4 a b c d) (ng_tc (M 74) o) n).headD 0 ∧ ∀ k, k ≠ 82 → M' k = M k) := by
  have hlen := ng_run_len (nm := ng_n4 a b c d) hH0 hw
  have hfi : vp_in (nI (o + 1) - 1) 227 := by rw [nI_pred]; exact vp_in_nI (by omega) (by omega)
  intro m
  induction m with
  | zero =>
    intro i x4 M1 hi hM hp
    have hin : i = n := by omega
    subst hin
    have h1 := (hlen i (Nat.le_refl _)).1
    rw [hH1] at h1
    have hm : nI (o + 1) + M1 74 (nI (o + 1) - 1).toNatClampNeg = nI (o + 1 + i) := by rw [nI_pred, nI_clamp (by omega), hM 74 (by omega), hn, nI_add]
    refine ng_iload_3 dX9_worked_4 ?_
    refine ng_iload_1 dX9_worked_5 ?_
    refine ng_aload_0 dX9_worked_6 ?_
    refine ng_gR dX9_worked_7 fl_X9_9 (by first | rfl | assumption) ?_
    refine ng_iload_1 dX9_worked_10 ?_
    refine ng_iconst_1 dX9_worked_11 ?_
    refine ng_isub dX9_worked_12 ?_
    refine ng_iald dX9_worked_13 (by first | rfl | assumption) (by first | assumption | (unfold vp_in; decide)) ?_
    refine ng_iadd dX9_worked_14 ?_
    refine ng_icmp_ge 141 dX9_worked_15 (by decide +kernel) (fun h15 => ?_) (fun h15 => ?_)
    · refine ng_aload_0 dX9_worked_141 ?_
      refine ng_gR dX9_worked_142 fl_X9_42 (by first | rfl | assumption) ?_
      refine ng_iconst_0 dX9_worked_145 ?_
      refine ng_iald dX9_worked_146 (by first | rfl | assumption) (by first | assumption | (unfold vp_in; decide)) ?_
      exact ng_ireturn dX9_worked_147 ⟨_, rfl, by
  have := hp 0 (by rw [h1]; decide)
  rw [h1] at this
  cases hs : ng_run (ng_n4 a b c d) (ng_tc (M 74) o) i with
  | nil => rw [hs] at h1; simp at h1
  | cons z r => rw [hs] at this; simpa using this, hM⟩
    · exact absurd (by rw [hm]; exact Int32.le_refl _) h15
  | succ m ih =>
    intro i x4 M1 hi hM hp
    have hm : nI (o + 1) + M1 74 (nI (o + 1) - 1).toNatClampNeg = nI (o + 1 + n) := by rw [nI_pred, nI_clamp (by omega), hM 74 (by omega), hn, nI_add]
    obtain ⟨hl1, hl2⟩ := hlen i (by omega)
    have hlt : ¬ nI (o + 1) + M1 74 (nI (o + 1) - 1).toNatClampNeg ≤ nI (o + 1 + i) := by rw [hm]; exact nI_ge (by omega) (by omega)
    have hvi : vp_in (nI (o + 1 + i)) 227 := vp_in_nI (by omega) (by omega)
    have hci : M1 74 (nI (o + 1 + i)).toNatClampNeg = M 74 (o + 1 + i) := by rw [hM 74 (by omega), nI_clamp (by omega)]
    have nxt : ∀ (y4 : Option Value) (M2 : ng_M), (∀ k, k ≠ 82 → M2 k = M k) → ng_pile (M2 82) (ng_run (ng_n4 a b c d) (ng_tc (M 74) o) (i + 1)) → ng_Go X mi_X9_worked 2 135 [some (.ref 73), some (.int (nI (o + 1))), some (.int (nI (H (i + 1)))), some (.int (nI (o + 1 + i))), y4] [] M2 (fun r' M' => ∃ v, r' = some (.int v) ∧ v = (ng_run (ng_n4 a b c d) (ng_tc (M 74) o) n).headD 0 ∧ ∀ k, k ≠ 82 → M' k = M k) := by
      intro y4 M2 g1 g2
      refine ng_iinc_3 (w := 1) dX9_worked_135 (by decide) rfl ?_
      refine ng_goto 4 dX9_worked_138 (by decide +kernel) ?_
      rw [nI_1]
      exact ih (i + 1) y4 M2 (by omega) g1 g2
    have htc : ng_tc (M 74) o i = ng_un (M 74 (o + 1 + i)) := rfl
    have hr := hv i (by omega)
    generalize M 74 (o + 1 + i) = r at hci htc hr
    rcases hw i (by omega) with ⟨h1, h2, h3⟩ | ⟨h1, h2, h3⟩ | ⟨h1, h1', h2, h3⟩
    · have hlo : r.toInt < 20000 := by
        rcases hr with hr | hr | hr
        · omega
        · omega
        · by_cases e : r = 20010
          · exfalso; subst e; rw [htc] at h1; exact h1 (by decide)
          · exact absurd (by rw [htc]; exact (ng_done_eq hr.1 hr.2 e 0 0).2.1) h1
      have hvh : vp_in (nI (H i)) 60 := vp_in_nI (by omega) (by omega)
      have hkk : ∀ (y4 : Option Value) (v : Int32), v = (if 0 ≤ ng_un r then ng_un r else ng_n4 a b c d (-1 - ng_un r).toNatClampNeg) → ng_Go X mi_X9_worked 2 135 [some (.ref 73), some (.int (nI (o + 1))), some (.int (nI (H i) + 1)), some (.int (nI (o + 1 + i))), y4] [] (ng_row M1 82 (upd (M1 82) (nI (H i)).toNatClampNeg v)) (fun r' M' => ∃ v, r' = some (.int v) ∧ v = (ng_run (ng_n4 a b c d) (ng_tc (M 74) o) n).headD 0 ∧ ∀ k, k ≠ 82 → M' k = M k) := by
        intro y4 v hv
        rw [nI_1, ← h3]
        refine nxt y4 _ (fun k k1 => by rw [ng_row_ne k1]; exact hM k k1) ?_
        rw [ng_row_eq, nI_clamp (by omega), ← hl1]
        simp only [ng_run, ng_ck, h1, if_false]
        rw [htc, ← hv]
        exact ng_pile_push hp
      have hnlo : ¬ 20000 ≤ r := by rw [ng_le, show (20000 : Int32).toInt = 20000 from by decide]; omega
      rcases hr with hr | hr | hr
      · have hl : r < 10000 := by rw [ng_lt, show (10000 : Int32).toInt = 10000 from by decide]; omega
        have hun : ng_un r = r := by simp [ng_un, hl]
        have h0 : 0 ≤ r := by rw [ng_le, Int32.toInt_zero]; omega
        refine ng_iload_3 dX9_worked_4 ?_
        refine ng_iload_1 dX9_worked_5 ?_
        refine ng_aload_0 dX9_worked_6 ?_
        refine ng_gR dX9_worked_7 fl_X9_9 (by first | rfl | assumption) ?_
        refine ng_iload_1 dX9_worked_10 ?_
        refine ng_iconst_1 dX9_worked_11 ?_
        refine ng_isub dX9_worked_12 ?_
        refine ng_iald dX9_worked_13 (by first | rfl | assumption) (by first | assumption | (unfold vp_in; decide)) ?_
        refine ng_iadd dX9_worked_14 ?_
        refine ng_icmp_ge 141 dX9_worked_15 (by decide +kernel) (fun h15 => ?_) (fun h15 => ?_)
        · exact absurd h15 hlt
        · refine ng_aload_0 dX9_worked_18 ?_
          refine ng_gR dX9_worked_19 fl_X9_9 (by first | rfl | assumption) ?_
          refine ng_iload_3 dX9_worked_22 ?_
          refine ng_iald dX9_worked_23 (by first | rfl | assumption) (by first | assumption | (unfold vp_in; decide)) ?_
          refine ng_istore_4 dX9_worked_24 rfl ?_
          refine ng_iload_4 dX9_worked_26 ?_
          refine ng_sipush (v := 20000) dX9_worked_28 (by decide) ?_
          refine ng_icmp_ge 70 dX9_worked_31 (by decide +kernel) (fun h31 => ?_) (fun h31 => ?_)
          · exact absurd (by rw [hci] at h31; exact h31) hnlo
          · refine ng_aload_0 dX9_worked_34 ?_
            refine ng_gR dX9_worked_35 fl_X9_42 (by first | rfl | assumption) ?_
            refine ng_iload_2 dX9_worked_38 ?_
            refine ng_iload_4 dX9_worked_39 ?_
            refine ng_sipush (v := 10000) dX9_worked_41 (by decide) ?_
            refine ng_icmp_ge 52 dX9_worked_44 (by decide +kernel) (fun h44 => ?_) (fun h44 => ?_)
            · exact absurd (by rw [hci] at h44; exact h44) (by rw [ng_le, show (10000 : Int32).toInt = 10000 from by decide]; omega)
            · refine ng_iload_4 dX9_worked_47 ?_
              refine ng_goto 63 dX9_worked_49 (by decide +kernel) ?_
              refine ng_iast dX9_worked_63 (by first | rfl | assumption) (by first | assumption | (unfold vp_in; decide)) ?_
              refine ng_iinc_2 (w := 1) dX9_worked_64 (by decide) rfl ?_
              refine ng_goto 135 dX9_worked_67 (by decide +kernel) ?_
              refine hkk _ _ ?_
              rw [hci, hun, if_pos h0]
      · have hl : ¬ r < 10000 := by rw [ng_lt, show (10000 : Int32).toInt = 10000 from by decide]; omega
        have hl2' : r < 20000 := by rw [ng_lt, show (20000 : Int32).toInt = 20000 from by decide]; omega
        have hun : ng_un r = 9999 - r := by simp [ng_un, hl, hl2']
        have e1 : (9999 - r).toInt = 9999 - r.toInt := by
          have q : (9999 : Int32).toInt = 9999 := by decide
          have := Kit.i32_sub (x := 9999) (y := r) (by rw [q]; omega) (by rw [q]; omega)
          rw [this, q]
        have e2 : (r - 10000).toInt = r.toInt - 10000 := by
          have q : (10000 : Int32).toInt = 10000 := by decide
          have := Kit.i32_sub (x := r) (y := 10000) (by rw [q]; omega) (by rw [q]; omega)
          rw [this, q]
        have e3 : (-1 - (9999 - r)) = r - 10000 := by
          apply ng_i_eq
          have q : (-1 : Int32).toInt = -1 := by decide
          have := Kit.i32_sub (x := -1) (y := 9999 - r) (by rw [q, e1]; omega) (by rw [q, e1]; omega)
          rw [this, q, e1, e2]; omega
        have h0 : ¬ 0 ≤ 9999 - r := by rw [ng_le, Int32.toInt_zero, e1]; omega
        have hvn : vp_in (r - 10000) 4 := ng_vp (by omega) (by omega)
        refine ng_iload_3 dX9_worked_4 ?_
        refine ng_iload_1 dX9_worked_5 ?_
        refine ng_aload_0 dX9_worked_6 ?_
        refine ng_gR dX9_worked_7 fl_X9_9 (by first | rfl | assumption) ?_
        refine ng_iload_1 dX9_worked_10 ?_
        refine ng_iconst_1 dX9_worked_11 ?_
        refine ng_isub dX9_worked_12 ?_
        refine ng_iald dX9_worked_13 (by first | rfl | assumption) (by first | assumption | (unfold vp_in; decide)) ?_
        refine ng_iadd dX9_worked_14 ?_
        refine ng_icmp_ge 141 dX9_worked_15 (by decide +kernel) (fun h15 => ?_) (fun h15 => ?_)
        · exact absurd h15 hlt
        · refine ng_aload_0 dX9_worked_18 ?_
          refine ng_gR dX9_worked_19 fl_X9_9 (by first | rfl | assumption) ?_
          refine ng_iload_3 dX9_worked_22 ?_
          refine ng_iald dX9_worked_23 (by first | rfl | assumption) (by first | assumption | (unfold vp_in; decide)) ?_
          refine ng_istore_4 dX9_worked_24 rfl ?_
          refine ng_iload_4 dX9_worked_26 ?_
          refine ng_sipush (v := 20000) dX9_worked_28 (by decide) ?_
          refine ng_icmp_ge 70 dX9_worked_31 (by decide +kernel) (fun h31 => ?_) (fun h31 => ?_)
          · exact absurd (by rw [hci] at h31; exact h31) hnlo
          · refine ng_aload_0 dX9_worked_34 ?_
            refine ng_gR dX9_worked_35 fl_X9_42 (by first | rfl | assumption) ?_
            refine ng_iload_2 dX9_worked_38 ?_
            refine ng_iload_4 dX9_worked_39 ?_
            refine ng_sipush (v := 10000) dX9_worked_41 (by decide) ?_
            refine ng_icmp_ge 52 dX9_worked_44 (by decide +kernel) (fun h44 => ?_) (fun h44 => ?_)
            · refine ng_aload_0 dX9_worked_52 ?_
              refine ng_gR dX9_worked_53 fl_X9_39 (by first | rfl | assumption) ?_
              refine ng_iload_4 dX9_worked_56 ?_
              refine ng_sipush (v := 10000) dX9_worked_58 (by decide) ?_
              refine ng_isub dX9_worked_61 ?_
              refine ng_iald dX9_worked_62 (by first | rfl | assumption) (by rw [hci]; exact hvn) ?_
              refine ng_iast dX9_worked_63 (by first | rfl | assumption) (by first | assumption | (unfold vp_in; decide)) ?_
              refine ng_iinc_2 (w := 1) dX9_worked_64 (by decide) rfl ?_
              refine ng_goto 135 dX9_worked_67 (by decide +kernel) ?_
              refine hkk _ _ ?_
              rw [hci, hun, if_neg h0, e3, hM 81 (by omega)]
              exact ng_n4_at ha hb hc hd (ng_vp_lt hvn)
            · exact absurd (by rw [hci, ng_le, show (10000 : Int32).toInt = 10000 from by decide]; omega) h44
      · omega
    · have hr10 : r = 20010 := by
        rcases hr with hr | hr | hr
        · exfalso
          have hl : r < 10000 := by rw [ng_lt, show (10000 : Int32).toInt = 10000 from by decide]; omega
          have hun : ng_un r = r := by simp [ng_un, hl]
          rw [htc, hun] at h1
          subst h1
          exact absurd hr.2 (by decide)
        · exfalso
          have hl : ¬ r < 10000 := by rw [ng_lt, show (10000 : Int32).toInt = 10000 from by decide]; omega
          have hl2' : r < 20000 := by rw [ng_lt, show (20000 : Int32).toInt = 20000 from by decide]; omega
          have hun : ng_un r = 9999 - r := by simp [ng_un, hl, hl2']
          have q : (9999 : Int32).toInt = 9999 := by decide
          have := Kit.i32_sub (x := 9999) (y := r) (by rw [q]; omega) (by rw [q]; omega)
          rw [htc, hun] at h1
          rw [h1, q, show (10033 : Int32).toInt = 10033 from by decide] at this
          omega
        · by_cases e : r = 20010
          · exact e
          · exact absurd (by rw [← htc]; exact h1) (ng_done_eq hr.1 hr.2 e 0 0).2.2
      subst hr10
      cases hs : ng_run (ng_n4 a b c d) (ng_tc (M 74) o) i with
      | nil => rw [hs] at hl1; simp at hl1; omega
      | cons z r =>
      rw [hs] at hl1 hp
      simp only [List.length_cons] at hl1
      have hH : H i = r.length + 1 := hl1.symm
      have hix : (nI (H i) - 1).toNatClampNeg = r.length := by rw [hH, nI_pred, nI_clamp (by omega)]
      have hvh : vp_in (nI (H i) - 1) 60 := by rw [hH, nI_pred]; exact vp_in_nI (by omega) (by omega)
      have htop : M1 82 (nI (H i) - 1).toNatClampNeg = z := by rw [hix]; exact (ng_pile_top (v := 0) hp).1
      have hkk : ∀ (y4 : Option Value) (v : Int32), v = (if z = 0 then 1 else 0) → ng_Go X mi_X9_worked 2 135 [some (.ref 73), some (.int (nI (o + 1))), some (.int (nI (H i))), some (.int (nI (o + 1 + i))), y4] [] (ng_row M1 82 (upd (M1 82) (nI (H i) - 1).toNatClampNeg v)) (fun r' M' => ∃ v, r' = some (.int v) ∧ v = (ng_run (ng_n4 a b c d) (ng_tc (M 74) o) n).headD 0 ∧ ∀ k, k ≠ 82 → M' k = M k) := by
        intro y4 v hv
        rw [← h3]
        refine nxt y4 _ (fun k k1 => by rw [ng_row_ne k1]; exact hM k k1) ?_
        rw [ng_row_eq, h3, hix]
        have e : ng_run (ng_n4 a b c d) (ng_tc (M 74) o) (i + 1) = v :: r := by
          show ng_ck _ (ng_run _ _ i) _ = _
          rw [hs, h1, hv]
          rfl
        rw [e]
        exact (ng_pile_top hp).2
      refine ng_iload_3 dX9_worked_4 ?_
      refine ng_iload_1 dX9_worked_5 ?_
      refine ng_aload_0 dX9_worked_6 ?_
      refine ng_gR dX9_worked_7 fl_X9_9 (by first | rfl | assumption) ?_
      refine ng_iload_1 dX9_worked_10 ?_
      refine ng_iconst_1 dX9_worked_11 ?_
      refine ng_isub dX9_worked_12 ?_
      refine ng_iald dX9_worked_13 (by first | rfl | assumption) (by first | assumption | (unfold vp_in; decide)) ?_
      refine ng_iadd dX9_worked_14 ?_
      refine ng_icmp_ge 141 dX9_worked_15 (by decide +kernel) (fun h15 => ?_) (fun h15 => ?_)
      · exact absurd h15 hlt
      · refine ng_aload_0 dX9_worked_18 ?_
        refine ng_gR dX9_worked_19 fl_X9_9 (by first | rfl | assumption) ?_
        refine ng_iload_3 dX9_worked_22 ?_
        refine ng_iald dX9_worked_23 (by first | rfl | assumption) (by first | assumption | (unfold vp_in; decide)) ?_
        refine ng_istore_4 dX9_worked_24 rfl ?_
        refine ng_iload_4 dX9_worked_26 ?_
        refine ng_sipush (v := 20000) dX9_worked_28 (by decide) ?_
        refine ng_icmp_ge 70 dX9_worked_31 (by decide +kernel) (fun h31 => ?_) (fun h31 => ?_)
        · refine ng_iload_4 dX9_worked_70 ?_
          refine ng_sipush (v := 20010) dX9_worked_72 (by decide) ?_
          refine ng_icmp_ne 105 dX9_worked_75 (by decide +kernel) (fun h75 => ?_) (fun h75 => ?_)
          · exact absurd hci h75
          · refine ng_aload_0 dX9_worked_78 ?_
            refine ng_gR dX9_worked_79 fl_X9_42 (by first | rfl | assumption) ?_
            refine ng_iload_2 dX9_worked_82 ?_
            refine ng_iconst_1 dX9_worked_83 ?_
            refine ng_isub dX9_worked_84 ?_
            refine ng_aload_0 dX9_worked_85 ?_
            refine ng_gR dX9_worked_86 fl_X9_42 (by first | rfl | assumption) ?_
            refine ng_iload_2 dX9_worked_89 ?_
            refine ng_iconst_1 dX9_worked_90 ?_
            refine ng_isub dX9_worked_91 ?_
            refine ng_iald dX9_worked_92 (by first | rfl | assumption) (by first | assumption | (unfold vp_in; decide)) ?_
            refine ng_if_ne 100 dX9_worked_93 (by decide +kernel) (fun h93 => ?_) (fun h93 => ?_)
            · refine ng_iconst_0 dX9_worked_100 ?_
              refine ng_iast dX9_worked_101 (by first | rfl | assumption) (by first | assumption | (unfold vp_in; decide)) ?_
              refine ng_goto 135 dX9_worked_102 (by decide +kernel) ?_
              exact hkk _ _ (by rw [htop] at h93; simp [h93])
            · refine ng_iconst_1 dX9_worked_96 ?_
              refine ng_goto 101 dX9_worked_97 (by decide +kernel) ?_
              refine ng_iast dX9_worked_101 (by first | rfl | assumption) (by first | assumption | (unfold vp_in; decide)) ?_
              refine ng_goto 135 dX9_worked_102 (by decide +kernel) ?_
              exact hkk _ _ (by rw [htop] at h93; simp [h93])
        · exact absurd (by rw [hci]; decide) h31
    · have hr2 : (20000 ≤ r.toInt ∧ r.toInt ≤ 20010) ∧ ¬ r = 20010 := by
        rcases hr with hr | hr | hr
        · exfalso
          have hl : r < 10000 := by rw [ng_lt, show (10000 : Int32).toInt = 10000 from by decide]; omega
          have hun : ng_un r = r := by simp [ng_un, hl]
          rw [htc, hun, ng_le, show (10000 : Int32).toInt = 10000 from by decide] at h1
          omega
        · exfalso
          have hl : ¬ r < 10000 := by rw [ng_lt, show (10000 : Int32).toInt = 10000 from by decide]; omega
          have hl2' : r < 20000 := by rw [ng_lt, show (20000 : Int32).toInt = 20000 from by decide]; omega
          have hun : ng_un r = 9999 - r := by simp [ng_un, hl, hl2']
          have q : (9999 : Int32).toInt = 9999 := by decide
          have := Kit.i32_sub (x := 9999) (y := r) (by rw [q]; omega) (by rw [q]; omega)
          rw [htc, hun, ng_le, this, q, show (10000 : Int32).toInt = 10000 from by decide] at h1
          omega
        · refine ⟨hr, fun e => ?_⟩
          subst e
          exact h1' (by rw [htc]; decide)
      have hdn := fun x1 x2 => (ng_done_eq hr2.1.1 hr2.1.2 hr2.2 x1 x2).1
      cases hs : ng_run (ng_n4 a b c d) (ng_tc (M 74) o) i with
      | nil => rw [hs] at hl1; simp at hl1; omega
      | cons z2 r0 =>
      cases r0 with
      | nil => rw [hs] at hl1; simp at hl1; omega
      | cons z1 rr =>
      rw [hs] at hl1 hp
      simp only [List.length_cons] at hl1
      have hH : H i = rr.length + 1 + 1 := hl1.symm
      have hH1' : nI (H i) + (-1) = nI (rr.length + 1) := by rw [hH, ng_nI_dec]
      have hix : (nI (rr.length + 1) - 1).toNatClampNeg = rr.length := by rw [nI_pred, nI_clamp (by omega)]
      have hix2 : (nI (rr.length + 1)).toNatClampNeg = rr.length + 1 := nI_clamp (by omega)
      have hvh : vp_in (nI (rr.length + 1) - 1) 60 := by rw [nI_pred]; exact vp_in_nI (by omega) (by omega)
      have hvh2 : vp_in (nI (rr.length + 1)) 60 := vp_in_nI (by omega) (by omega)
      obtain ⟨q1, q2, -⟩ := ng_pile_two (v := 0) hp
      refine ng_iload_3 dX9_worked_4 ?_
      refine ng_iload_1 dX9_worked_5 ?_
      refine ng_aload_0 dX9_worked_6 ?_
      refine ng_gR dX9_worked_7 fl_X9_9 (by first | rfl | assumption) ?_
      refine ng_iload_1 dX9_worked_10 ?_
      refine ng_iconst_1 dX9_worked_11 ?_
      refine ng_isub dX9_worked_12 ?_
      refine ng_iald dX9_worked_13 (by first | rfl | assumption) (by first | assumption | (unfold vp_in; decide)) ?_
      refine ng_iadd dX9_worked_14 ?_
      refine ng_icmp_ge 141 dX9_worked_15 (by decide +kernel) (fun h15 => ?_) (fun h15 => ?_)
      · exact absurd h15 hlt
      · refine ng_aload_0 dX9_worked_18 ?_
        refine ng_gR dX9_worked_19 fl_X9_9 (by first | rfl | assumption) ?_
        refine ng_iload_3 dX9_worked_22 ?_
        refine ng_iald dX9_worked_23 (by first | rfl | assumption) (by first | assumption | (unfold vp_in; decide)) ?_
        refine ng_istore_4 dX9_worked_24 rfl ?_
        refine ng_iload_4 dX9_worked_26 ?_
        refine ng_sipush (v := 20000) dX9_worked_28 (by decide) ?_
        refine ng_icmp_ge 70 dX9_worked_31 (by decide +kernel) (fun h31 => ?_) (fun h31 => ?_)
        · refine ng_iload_4 dX9_worked_70 ?_
          refine ng_sipush (v := 20010) dX9_worked_72 (by decide) ?_
          refine ng_icmp_ne 105 dX9_worked_75 (by decide +kernel) (fun h75 => ?_) (fun h75 => ?_)
          · refine ng_iinc_2 (w := (-1)) dX9_worked_105 (by decide) rfl ?_
            rw [hH1']
            refine ng_aload_0 dX9_worked_108 ?_
            refine ng_gR dX9_worked_109 fl_X9_42 (by first | rfl | assumption) ?_
            refine ng_iload_2 dX9_worked_112 ?_
            refine ng_iconst_1 dX9_worked_113 ?_
            refine ng_isub dX9_worked_114 ?_
            refine ng_iload_4 dX9_worked_115 ?_
            refine ng_aload_0 dX9_worked_117 ?_
            refine ng_gR dX9_worked_118 fl_X9_42 (by first | rfl | assumption) ?_
            refine ng_iload_2 dX9_worked_121 ?_
            refine ng_iconst_1 dX9_worked_122 ?_
            refine ng_isub dX9_worked_123 ?_
            refine ng_iald dX9_worked_124 (by first | rfl | assumption) (by first | assumption | (unfold vp_in; decide)) ?_
            refine ng_aload_0 dX9_worked_125 ?_
            refine ng_gR dX9_worked_126 fl_X9_42 (by first | rfl | assumption) ?_
            refine ng_iload_2 dX9_worked_129 ?_
            refine ng_iald dX9_worked_130 (by first | rfl | assumption) (by first | assumption | (unfold vp_in; decide)) ?_
            refine ng_callS_3x (y2 := mi_X9_done) dX9_worked_131 lk_X9_196 ms_X9_done my_X9_done (by first | decide | exact Nat.le_of_ble_eq_true rfl) (s_X9_done) (by decide) ?_
            refine ng_iast dX9_worked_134 (by first | rfl | assumption) (by first | assumption | (unfold vp_in; decide)) ?_
            rw [hix, hix2, q1, q2, hci, show rr.length + 1 = H (i + 1) by omega]
            refine nxt _ _ (fun k k1 => by rw [ng_row_ne k1]; exact hM k k1) ?_
            rw [ng_row_eq]
            have e : ng_run (ng_n4 a b c d) (ng_tc (M 74) o) (i + 1) = ng_done r z1 z2 :: rr := by
              show ng_ck _ (ng_run _ _ i) _ = _
              rw [hs, hdn, htc]
              rw [htc] at h1 h1'
              simp [ng_ck, h1, h1']
            rw [e]
            exact (ng_pile_two hp).2.2
          · exact absurd (by rw [← hci]; exact h75) hr2.2
        · exact absurd (by rw [hci, ng_le, show (20000 : Int32).toInt = 20000 from by decide]; exact hr2.1.1) h31
theorem s_X9_worked {X : Nat × (Nat → Int32)} {M : ng_M} {o n : Nat} {q : Int32} (ho : o = 123 ∨ o = 175) (hq : q = nI (o + 1)) (hn : M 74 o = nI n) (hv : ∀ j, j < n → ng_rv (M 74 (o + 1 + j))) (hw : ng_wt (ng_tc (M 74) o) n) {a b c d : Int32} (ha : M 81 0 = a) (hb : M 81 1 = b) (hc : M 81 2 = c) (hd : M 81 3 = d) : ng_EvI X 2 mi_X9_worked [.ref 73, .int q] M (fun v M' => v = (ng_run (ng_n4 a b c d) (ng_tc (M 74) o) n).headD 0 ∧ ∀ k, k ≠ 82 → M' k = M k) := by
  obtain ⟨hn50, H, hH0, hH1, hw⟩ := hw
  subst hq
  refine ng_EvI.of (lv := [some (.ref 73), some (.int (nI (o + 1))), none, none, none]) (ty := .int) (by decide) (Nat.le_of_ble_eq_true rfl) rfl rfl (fun _ _ _ => rfl) ?_
  refine ng_iconst_0 dX9_worked_0 ?_
  refine ng_istore_2 dX9_worked_1 rfl ?_
  refine ng_iload_1 dX9_worked_2 ?_
  refine ng_istore_3 dX9_worked_3 rfl ?_
  have h := l_X9_worked (X := X) ho hn hn50 hv hH0 hH1 hw ha hb hc hd n 0 none M (by omega) (fun _ _ => rfl) (fun j hj => by simp [ng_run] at hj)
  rw [hH0] at h
  exact h
