/-! ===== what holds between class and reference ===== -/
/-- where the class has number k of the reference's row, in a 'whole' (label w and on) -/
def ng_loc (w k : Nat) : Nat × Nat :=
  if k = 0 then (w, 6) else if k = 1 then (w + 1, 6) else if k < 8 then (w + 14, k + 1) else if k = 8 then (w, 4) else if k = 9 then (w, 5) else if k = 10 then (w, 7)
  else if k < 21 then (w + 2, k - 11) else if k < 53 then (if (k - 21) % 4 = 0 then (w + 3, (k - 21) / 4) else if (k - 21) % 4 = 1 then (w + 4, (k - 21) / 4) else if (k - 21) % 4 = 2 then (w + 5, (k - 21) / 4) else (w + 15, (k - 21) / 4))
  else if k < 103 then (w + 17, k - 53) else (w + 18, k - 103)
def ng_cvr (M : ng_M) (w : Nat) (k : Nat) : Int32 := M (ng_loc w k).1 (ng_loc w k).2
theorem ng_loc_bd (w k : Nat) : w ≤ (ng_loc w k).1 ∧ (ng_loc w k).1 ≤ w + 18 := by
  unfold ng_loc
  repeat' split
  all_goals (simp <;> omega)
def ng_bl (k : Nat) : Int := if k = 6 then -99999999 else if k = 10 then -2147483648 else if 11 ≤ k ∧ k < 21 then 1 else if 103 ≤ k then -2147483648 else 0
def ng_bh (k : Nat) : Int := if k = 0 then 199 else if k = 1 then 8 else if k = 2 then 9 else if k = 3 then 12 else if k = 4 then 20 else if k = 5 then 60 else if k = 6 then 99999999 else if k = 7 then 999 else if k = 8 then 50 else if k = 9 then 20 else if k = 10 then 2147483647 else if k < 21 then 9999
  else if k < 53 then (if (k - 21) % 4 = 0 then 6 else if (k - 21) % 4 = 1 then 9999 else if (k - 21) % 4 = 2 then 9 else 9999) else if k < 103 then 255 else 2147483647
def ng_bnd (a : ng_R) : Prop := ∀ k, k < 123 → ng_bl k ≤ (a k).toInt ∧ (a k).toInt ≤ ng_bh k
def ng_txt (a : ng_R) : Prop := (ng_fok (ng_tc a 123) (a 123) ∧ ng_fok (ng_tc a 175) (a 175)) ∧ ng_tv a 123 ∧ ng_tv a 175
def ng_ok (a : ng_R) : Prop := ng_bnd a ∧ ng_txt a
/-- a 'whole' of the class holds a row -/
def ng_rep (M : ng_M) (w : Nat) (a : ng_R) : Prop := (∀ k, k < 123 → ng_cvr M w k = a k) ∧ ng_tr (M (w + 7)) (M (w + 6) 1) a 123 ∧ ng_tr (M (w + 11)) (M (w + 10) 1) a 175
def ng_I1 (M : ng_M) : Prop := ng_rep M 1 (M 74) ∧ ng_ok (M 74)
def ng_I2 (M : ng_M) : Prop := M 0 7 = M 73 3 ∧ (¬ M 73 3 = 0 → ng_rep M 20 (M 75) ∧ ng_ok (M 75))
def ng_I3 (M : ng_M) : Prop := ∀ k, 1 ≤ k → k ≤ 5 → M 72 k = M 77 k
def ng_I4 (M : ng_M) : Prop := M 58 1 = M 73 19 ∧ ∃ n, M 73 19 = nI n ∧ n ≤ 40 ∧ ∀ j, j < n → M 59 j = M 85 j
def ng_I5 (M : ng_M) : Prop := ∀ i, i < 4 → M (64 + 2 * i) 1 = M 86 i ∧ M (64 + 2 * i) 2 = M 87 i ∧ (∀ j, j < 40 → M (65 + 2 * i) j = M 88 (40 * i + j)) ∧ (M 86 i = 0 ∨ M 86 i = 8 ∨ M 86 i = 16 ∨ M 86 i = 32) ∧ ∃ n, M 87 i = nI n ∧ n ≤ 40
def ng_I6 (M : ng_M) : Prop := ∀ k, k < 6 → M 78 k = ([9, 12, 20, 60, 99999999, 999] : List Int32).getD k 0
def ng_inv (M : ng_M) : Prop := ng_I1 M ∧ ng_I2 M ∧ ng_I3 M ∧ ng_I4 M ∧ ng_I5 M ∧ ng_I6 M
theorem ng_cvr_congr {M M' : ng_M} {w : Nat} (h : ∀ k, w ≤ k → k ≤ w + 18 → M' k = M k) (k : Nat) : ng_cvr M' w k = ng_cvr M w k := by
  unfold ng_cvr
  rw [h _ (ng_loc_bd w k).1 (ng_loc_bd w k).2]
theorem ng_rep.congr {M M' : ng_M} {w : Nat} {a : ng_R} (hr : ng_rep M w a) (h : ∀ k, w ≤ k → k ≤ w + 18 → M' k = M k) : ng_rep M' w a := by
  obtain ⟨h1, h2, h3⟩ := hr
  refine ⟨fun k hk => by rw [ng_cvr_congr h]; exact h1 k hk, ?_, ?_⟩
  · rw [h (w + 7) (by omega) (by omega), h (w + 6) (by omega) (by omega)]; exact h2
  · rw [h (w + 11) (by omega) (by omega), h (w + 10) (by omega) (by omega)]; exact h3
theorem ng_I1.congr {M M' : ng_M} (hI : ng_I1 M) (h : ∀ k, 1 ≤ k → k ≤ 19 → M' k = M k) (h74 : M' 74 = M 74) : ng_I1 M' := by
  unfold ng_I1
  rw [h74]
  exact ⟨hI.1.congr (fun k k1 k2 => h k k1 (by omega)), hI.2⟩
theorem ng_I2.congr {M M' : ng_M} (hI : ng_I2 M) (h : ∀ k, 20 ≤ k → k ≤ 38 → M' k = M k) (h0 : M' 0 7 = M 0 7) (h73 : M' 73 3 = M 73 3) (h75 : M' 75 = M 75) : ng_I2 M' := by
  unfold ng_I2
  rw [h0, h73, h75]
  exact ⟨hI.1, fun q => ⟨(hI.2 q).1.congr (fun k k1 k2 => h k k1 (by omega)), (hI.2 q).2⟩⟩
theorem ng_I3.congr {M M' : ng_M} (hI : ng_I3 M) (h1 : M' 72 = M 72) (h2 : M' 77 = M 77) : ng_I3 M' := by
  unfold ng_I3
  rw [h1, h2]
  exact hI
theorem ng_I4.congr {M M' : ng_M} (hI : ng_I4 M) (h1 : M' 58 1 = M 58 1) (h2 : M' 59 = M 59) (h3 : M' 73 19 = M 73 19) (h4 : M' 85 = M 85) : ng_I4 M' := by
  unfold ng_I4
  rw [h1, h2, h3, h4]
  exact hI
theorem ng_I5.congr {M M' : ng_M} (hI : ng_I5 M) (h : ∀ k, 64 ≤ k → k ≤ 71 → M' k = M k) (h1 : M' 86 = M 86) (h2 : M' 87 = M 87) (h3 : M' 88 = M 88) : ng_I5 M' := by
  intro i hi
  rw [h1, h2, h3, h (64 + 2 * i) (by omega) (by omega), h (65 + 2 * i) (by omega) (by omega)]
  exact hI i hi
theorem ng_I6.congr {M M' : ng_M} (hI : ng_I6 M) (h : M' 78 = M 78) : ng_I6 M' := by
  intro k hk
  rw [h]
  exact hI k hk
/-- what years need, out of what holds -/
theorem ng_ok.wfr {a : ng_R} (h : ng_ok a) : ng_wfr a := by
  obtain ⟨hb, ⟨hf1, hf2⟩, hv1, hv2⟩ := h
  have q : ∀ k l u, k < 123 → ng_bl k = l → ng_bh k = u → l ≤ (a k).toInt ∧ (a k).toInt ≤ u := fun k l u hk e1 e2 => by rw [← e1, ← e2]; exact hb k hk
  have q1 := q 1 0 8 (by decide) (by decide) (by decide)
  have q2 := q 2 0 9 (by decide) (by decide) (by decide)
  have n1 : ¬ a 1 < 0 := by rw [ng_lt, ng_0]; omega
  obtain ⟨n, hn, e⟩ := nI_of n1
  have hn8 : n ≤ 8 := by have := nI_toInt hn; rw [← e] at this; omega
  refine ⟨⟨⟨⟨n, e, hn8⟩, ng_vp (by omega) (by omega), hf1, hf2⟩, hv1, hv2⟩, fun j hj => ?_, fun j hj => ⟨?_, ?_, ?_, ?_⟩, q2, q 3 0 12 (by decide) (by decide) (by decide), q 4 0 20 (by decide) (by decide) (by decide), q 5 0 60 (by decide) (by decide) (by decide), q 6 _ _ (by decide) (by decide) (by decide), q 7 0 999 (by decide) (by decide) (by decide)⟩
  · have := hb (11 + j) (by omega)
    simp only [ng_bl, ng_bh] at this
    rw [if_neg (by omega), if_neg (by omega), if_pos (by omega), if_neg (by omega), if_neg (by omega), if_neg (by omega), if_neg (by omega), if_neg (by omega), if_neg (by omega), if_neg (by omega), if_neg (by omega), if_neg (by omega), if_neg (by omega), if_neg (by omega), if_pos (by omega)] at this
    exact this
  all_goals
    first
    | (have := hb (21 + 4 * j) (by omega)
       simp only [ng_bl, ng_bh] at this
       rw [if_neg (by omega), if_neg (by omega), if_neg (by omega), if_neg (by omega), if_neg (by omega), if_neg (by omega), if_neg (by omega), if_neg (by omega), if_neg (by omega), if_neg (by omega), if_neg (by omega), if_neg (by omega), if_neg (by omega), if_neg (by omega), if_neg (by omega), if_neg (by omega), if_pos (by omega), if_pos (by omega)] at this
       exact this)
    | (have := hb (22 + 4 * j) (by omega)
       simp only [ng_bl, ng_bh] at this
       rw [if_neg (by omega), if_neg (by omega), if_neg (by omega), if_neg (by omega), if_neg (by omega), if_neg (by omega), if_neg (by omega), if_neg (by omega), if_neg (by omega), if_neg (by omega), if_neg (by omega), if_neg (by omega), if_neg (by omega), if_neg (by omega), if_neg (by omega), if_neg (by omega), if_pos (by omega), if_neg (by omega), if_pos (by omega)] at this
       exact this)
    | (have := hb (23 + 4 * j) (by omega)
       simp only [ng_bl, ng_bh] at this
       rw [if_neg (by omega), if_neg (by omega), if_neg (by omega), if_neg (by omega), if_neg (by omega), if_neg (by omega), if_neg (by omega), if_neg (by omega), if_neg (by omega), if_neg (by omega), if_neg (by omega), if_neg (by omega), if_neg (by omega), if_neg (by omega), if_neg (by omega), if_neg (by omega), if_pos (by omega), if_neg (by omega), if_neg (by omega), if_pos (by omega)] at this
       exact this)
    | (have := hb (24 + 4 * j) (by omega)
       simp only [ng_bl, ng_bh] at this
       rw [if_neg (by omega), if_neg (by omega), if_neg (by omega), if_neg (by omega), if_neg (by omega), if_neg (by omega), if_neg (by omega), if_neg (by omega), if_neg (by omega), if_neg (by omega), if_neg (by omega), if_neg (by omega), if_neg (by omega), if_neg (by omega), if_neg (by omega), if_neg (by omega), if_pos (by omega), if_neg (by omega), if_neg (by omega), if_neg (by omega)] at this
       exact this)
theorem ng_loc_c : ∀ s, s < 10 → ∀ k, k < 123 → (ng_loc 1 k = (3, s) ↔ k = 11 + s) := by decide +kernel
theorem ng_loc_ki : ∀ s, s < 8 → ∀ k, k < 123 → (ng_loc 1 k = (4, s) ↔ k = 21 + 4 * s) := by decide +kernel
theorem ng_loc_wa : ∀ s, s < 8 → ∀ k, k < 123 → (ng_loc 1 k = (5, s) ↔ k = 22 + 4 * s) := by decide +kernel
theorem ng_loc_ta : ∀ s, s < 8 → ∀ k, k < 123 → (ng_loc 1 k = (6, s) ↔ k = 23 + 4 * s) := by decide +kernel
theorem ng_loc_ha : ∀ s, s < 8 → ∀ k, k < 123 → (ng_loc 1 k = (16, s) ↔ k = 24 + 4 * s) := by decide +kernel
theorem ng_loc_tp : ∀ s, s < 50 → ∀ k, k < 123 → (ng_loc 1 k = (18, s) ↔ k = 53 + s) := by decide +kernel
theorem ng_loc_wt : ∀ s, s < 20 → ∀ k, k < 123 → (ng_loc 1 k = (19, s) ↔ k = 103 + s) := by decide +kernel
theorem ng_loc_st : ∀ f, f < 9 → 3 ≤ f → ∀ k, k < 123 → (ng_loc 1 k = (15, f) ↔ k = f - 1) := by decide +kernel
theorem ng_loc_n : ∀ k, k < 123 → (ng_loc 1 k = (2, 6) ↔ k = 1) := by decide +kernel
theorem ng_loc_w : ∀ k, k < 123 → (ng_loc 1 k = (1, 6) ↔ k = 0) ∧ (ng_loc 1 k = (1, 4) ↔ k = 8) ∧ (ng_loc 1 k = (1, 5) ↔ k = 9) ∧ (ng_loc 1 k = (1, 7) ↔ k = 10) := by decide +kernel
theorem ng_cvr_at {M : ng_M} {w k r j : Nat} (h : ng_loc w k = (r, j)) : ng_cvr M w k = M r j := by rw [ng_cvr, h]
theorem ng_rep.rl {M : ng_M} {a : ng_R} (h : ng_rep M 1 a) : ng_rl M a ∧ ng_sv M 15 a ∧ M 1 6 = a 0 ∧ M 1 4 = a 8 ∧ M 1 5 = a 9 ∧ M 1 7 = a 10 ∧ (∀ j, j < 50 → M 18 j = a (53 + j)) ∧ ∀ j, j < 20 → M 19 j = a (103 + j) := by
  obtain ⟨h1, h2, h3⟩ := h
  have q : ∀ k r j, k < 123 → ng_loc 1 k = (r, j) → M r j = a k := fun k r j hk e => (ng_cvr_at (M := M) e).symm.trans (h1 k hk)
  exact ⟨⟨fun j hj => q _ _ _ (by omega) ((ng_loc_c j hj _ (by omega)).mpr rfl), fun j hj => ⟨q _ _ _ (by omega) ((ng_loc_ki j hj _ (by omega)).mpr rfl), q _ _ _ (by omega) ((ng_loc_wa j hj _ (by omega)).mpr rfl), q _ _ _ (by omega) ((ng_loc_ta j hj _ (by omega)).mpr rfl)⟩, q 1 2 6 (by decide) (by decide), h2, h3⟩,
    ⟨fun j hj => q _ _ _ (by omega) ((ng_loc_ha j hj _ (by omega)).mpr rfl), q 2 15 3 (by decide) (by decide), q 3 15 4 (by decide) (by decide), q 4 15 5 (by decide) (by decide), q 5 15 6 (by decide) (by decide), q 6 15 7 (by decide) (by decide), q 7 15 8 (by decide) (by decide)⟩,
    q 0 1 6 (by decide) (by decide), q 8 1 4 (by decide) (by decide), q 9 1 5 (by decide) (by decide), q 10 1 7 (by decide) (by decide), fun j hj => q _ _ _ (by omega) ((ng_loc_tp j hj _ (by omega)).mpr rfl), fun j hj => q _ _ _ (by omega) ((ng_loc_wt j hj _ (by omega)).mpr rfl)⟩
/-- one number of the row becomes another -/
theorem ng_bnd.upd {a : ng_R} (h : ng_bnd a) {i : Nat} {v : Int32} (h1 : ng_bl i ≤ v.toInt) (h2 : v.toInt ≤ ng_bh i) : ng_bnd (upd a i v) := by
  intro k hk
  by_cases e : k = i
  · subst e; rw [ng_upd_eq]; exact ⟨h1, h2⟩
  · rw [ng_upd_ne e]; exact h k hk
theorem ng_tc_upd {a : ng_R} {i o : Nat} {v : Int32} (hi : i < 123) (ho : 123 ≤ o) : ng_tc (upd a i v) o = ng_tc a o := by
  funext j
  rw [ng_tc, ng_tc, ng_upd_ne (by omega)]
theorem ng_txt.upd {a : ng_R} (h : ng_txt a) {i : Nat} {v : Int32} (hi : i < 123) : ng_txt (upd a i v) := by
  obtain ⟨⟨h1, h2⟩, h3, h4⟩ := h
  refine ⟨⟨?_, ?_⟩, ?_, ?_⟩
  · rw [ng_tc_upd hi (by decide), ng_upd_ne (by omega)]; exact h1
  · rw [ng_tc_upd hi (by decide), ng_upd_ne (by omega)]; exact h2
  · intro j hj; rw [ng_upd_ne (by omega)] at hj; rw [ng_upd_ne (by omega)]; exact h3 j hj
  · intro j hj; rw [ng_upd_ne (by omega)] at hj; rw [ng_upd_ne (by omega)]; exact h4 j hj
theorem ng_ok.upd {a : ng_R} (h : ng_ok a) {i : Nat} {v : Int32} (hi : i < 123) (h1 : ng_bl i ≤ v.toInt) (h2 : v.toInt ≤ ng_bh i) : ng_ok (upd a i v) := ⟨h.1.upd h1 h2, h.2.upd hi⟩
theorem ng_tr.upd {c : Nat → Int32} {L : Int32} {a : ng_R} {o i : Nat} {v : Int32} (h : ng_tr c L a o) (hi : i < 123) (ho : 123 ≤ o) : ng_tr c L (upd a i v) o := by
  obtain ⟨h1, h2⟩ := h
  exact ⟨by rw [ng_upd_ne (by omega)]; exact h1, fun j hj => by rw [ng_tc_upd hi ho]; exact h2 j hj⟩
/-- a cell of the class that is one number of the row -/
theorem ng_rep.upd {M M' : ng_M} {a : ng_R} {i : Nat} {v : Int32} (h : ng_rep M 1 a) (hi : i < 123) (hc : ∀ k, k < 123 → ng_cvr M' 1 k = upd (ng_cvr M 1) i v k) (h7 : M' 7 1 = M 7 1) (h8 : M' 8 = M 8) (h11 : M' 11 1 = M 11 1) (h12 : M' 12 = M 12) : ng_rep M' 1 (upd a i v) := by
  obtain ⟨h1, h2, h3⟩ := h
  refine ⟨fun k hk => ?_, ?_, ?_⟩
  · rw [hc k hk]
    by_cases e : k = i
    · subst e; rw [ng_upd_eq, ng_upd_eq]
    · rw [ng_upd_ne e, ng_upd_ne e]; exact h1 k hk
  · show ng_tr (M' 8) (M' 7 1) _ _
    rw [h7, h8]; exact h2.upd hi (by decide)
  · show ng_tr (M' 12) (M' 11 1) _ _
    rw [h11, h12]; exact h3.upd hi (by decide)
theorem ng_cvr_upd {M : ng_M} {r j i : Nat} {v : Int32} (h : ∀ k, k < 123 → (ng_loc 1 k = (r, j) ↔ k = i)) : ∀ k, k < 123 → ng_cvr (ng_row M r (upd (M r) j v)) 1 k = upd (ng_cvr M 1) i v k := by
  intro k hk
  by_cases e : k = i
  · rw [ng_cvr_at ((h k hk).mpr e), ng_row_eq, ng_upd_eq, e, ng_upd_eq]
  · rw [ng_upd_ne e]
    have ne : ¬ ng_loc 1 k = (r, j) := fun q => e ((h k hk).mp q)
    unfold ng_cvr
    by_cases e1 : (ng_loc 1 k).1 = r
    · have e2 : ¬ (ng_loc 1 k).2 = j := fun q => ne (by rw [← e1, ← q])
      rw [e1, ng_row_eq, ng_upd_ne e2]
    · rw [ng_row_ne e1]
