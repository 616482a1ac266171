/-! ===== stands and wholes are taken over; pairs: image, restore ===== -/
def ng_isT (s : Nat) : Prop := s = 15 ∨ s = 34 ∨ s = 41 ∨ s = 44 ∨ s = 47 ∨ s = 50 ∨ s = 53
theorem ng_T {s : Nat} (h : ng_isT s) : (ng_fld s 1 = some (5, some (s + 1)) ∧ ng_fld s 2 = some (5, some (s + 2)) ∧ ng_fld s 3 = some (5, none) ∧ ng_fld s 4 = some (5, none) ∧ ng_fld s 5 = some (5, none) ∧ ng_fld s 6 = some (5, none) ∧ ng_fld s 7 = some (5, none) ∧ ng_fld s 8 = some (5, none)) ∧ ng_HS[s + 1]? = some (.inr (.inl 8)) ∧ ng_HS[s + 2]? = some (.inr (.inl 8)) ∧ ng_obj s 5 ∧ (15 ≤ s ∧ s ≤ 53) := by
  rcases h with rfl | rfl | rfl | rfl | rfl | rfl | rfl <;> exact ⟨⟨rfl, rfl, rfl, rfl, rfl, rfl, rfl, rfl⟩, rfl, rfl, ⟨_, rfl⟩, by decide⟩
theorem ng_isS.T {s : Nat} (h : ng_isS s) : ng_isT s := by
  rcases h with h | h | h | h | h | h
  · exact Or.inl h
  · exact Or.inr (Or.inr (Or.inl h))
  · exact Or.inr (Or.inr (Or.inr (Or.inl h)))
  · exact Or.inr (Or.inr (Or.inr (Or.inr (Or.inl h))))
  · exact Or.inr (Or.inr (Or.inr (Or.inr (Or.inr (Or.inl h)))))
  · exact Or.inr (Or.inr (Or.inr (Or.inr (Or.inr (Or.inr h)))))
/-- a stand as another one is -/
def ng_took (M : ng_M) (s s2 : Nat) (M' : ng_M) : Prop := ng_off [s, s + 1, s + 2] M M' ∧ (∀ j, j < 8 → M' (s + 1) j = M (s2 + 1) j) ∧ (∀ j, j < 8 → M' (s + 2) j = M (s2 + 2) j) ∧ (∀ f, 3 ≤ f → f ≤ 8 → M' s f = M s2 f)
theorem s_X5_take {X : Nat × (Nat → Int32)} {M : ng_M} {s s2 : Nat} (hs : ng_isT s) (hs2 : ng_isT s2) (hne : s + 2 < s2 ∨ s2 + 2 < s) : ng_EvV X 1 mi_X5_take [.ref s, .ref s2] M (fun M' => ng_took M s s2 M') := by
  obtain ⟨⟨a1, a2, a3, a4, a5, a6, a7, a8⟩, ah, ap, ao, al⟩ := ng_T hs
  obtain ⟨⟨b1, b2, b3, b4, b5, b6, b7, b8⟩, bh, bp, bo, bl⟩ := ng_T hs2
  refine ng_EvV.of (lv := [some (.ref s), some (.ref s2)]) (by decide) (Nat.le_of_ble_eq_true rfl) rfl rfl ?_
  have c0 : (0 : Int32).toNatClampNeg = 0 := by decide
  have c8 : (8 : Int32).toNatClampNeg = 8 := by decide
  refine ng_aload_1 dX5_take_0 ?_
  refine ng_gR dX5_take_1 fl_X5_9 (by first | rfl | assumption) ?_
  refine ng_iconst_0 dX5_take_4 ?_
  refine ng_aload_0 dX5_take_5 ?_
  refine ng_gR dX5_take_6 fl_X5_9 (by first | rfl | assumption) ?_
  refine ng_iconst_0 dX5_take_9 ?_
  refine ng_bipush (v := 8) dX5_take_10 (by decide) ?_
  refine ng_arraycopy dX5_take_12 lk_X5_29 mac_n mac_s li_J10 (by first | rfl | assumption) (by first | rfl | assumption) (by decide) (by decide) (by decide) (by rw [c0, c8]; decide) (by rw [c0, c8]; decide) (by first | decide | exact Nat.le_of_ble_eq_true rfl) ?_
  refine ng_aload_1 dX5_take_15 ?_
  refine ng_gR dX5_take_16 fl_X5_15 (by first | rfl | assumption) ?_
  refine ng_iconst_0 dX5_take_19 ?_
  refine ng_aload_0 dX5_take_20 ?_
  refine ng_gR dX5_take_21 fl_X5_15 (by first | rfl | assumption) ?_
  refine ng_iconst_0 dX5_take_24 ?_
  refine ng_bipush (v := 8) dX5_take_25 (by decide) ?_
  refine ng_arraycopy dX5_take_27 lk_X5_29 mac_n mac_s li_J10 (by first | rfl | assumption) (by first | rfl | assumption) (by decide) (by decide) (by decide) (by rw [c0, c8]; decide) (by rw [c0, c8]; decide) (by first | decide | exact Nat.le_of_ble_eq_true rfl) ?_
  refine ng_aload_0 dX5_take_30 ?_
  refine ng_aload_1 dX5_take_31 ?_
  refine ng_gI dX5_take_32 fl_X5_35 (by first | rfl | assumption) ?_
  refine ng_pI dX5_take_35 fp_X5_35 (by first | rfl | assumption) rfl rfl ?_
  refine ng_aload_0 dX5_take_38 ?_
  refine ng_aload_1 dX5_take_39 ?_
  refine ng_gI dX5_take_40 fl_X5_18 (by first | rfl | assumption) ?_
  refine ng_pI dX5_take_43 fp_X5_18 (by first | rfl | assumption) rfl rfl ?_
  refine ng_aload_0 dX5_take_46 ?_
  refine ng_aload_1 dX5_take_47 ?_
  refine ng_gI dX5_take_48 fl_X5_22 (by first | rfl | assumption) ?_
  refine ng_pI dX5_take_51 fp_X5_22 (by first | rfl | assumption) rfl rfl ?_
  refine ng_aload_0 dX5_take_54 ?_
  refine ng_aload_1 dX5_take_55 ?_
  refine ng_gI dX5_take_56 fl_X5_38 (by first | rfl | assumption) ?_
  refine ng_pI dX5_take_59 fp_X5_38 (by first | rfl | assumption) rfl rfl ?_
  refine ng_aload_0 dX5_take_62 ?_
  refine ng_aload_1 dX5_take_63 ?_
  refine ng_gI dX5_take_64 fl_X5_41 (by first | rfl | assumption) ?_
  refine ng_pI dX5_take_67 fp_X5_41 (by first | rfl | assumption) rfl rfl ?_
  refine ng_aload_0 dX5_take_70 ?_
  refine ng_aload_1 dX5_take_71 ?_
  refine ng_gI dX5_take_72 fl_X5_44 (by first | rfl | assumption) ?_
  refine ng_pI dX5_take_75 fp_X5_44 (by first | rfl | assumption) rfl rfl ?_
  exact ng_return dX5_take_78 ⟨rfl, by
  simp only [c0, c8]
  refine ⟨fun k hk => ?_, fun j hj => ?_, fun j hj => ?_, fun f f3 f8 => ?_⟩
  · simp at hk
    simp [ng_row, hk]
  · simp [ng_row, va_cpy, hj, show ¬ s + 1 = s by omega, show ¬ s + 1 = s + 2 by omega]
  · simp [ng_row, va_cpy, hj, show ¬ s2 + 2 = s + 1 by omega]
  · have e0 : ¬ s2 = s := by omega
    have e1 : ¬ s2 = s + 1 := by omega
    have e2 : ¬ s2 = s + 2 := by omega
    have : f = 3 ∨ f = 4 ∨ f = 5 ∨ f = 6 ∨ f = 7 ∨ f = 8 := by omega
    rcases this with rfl | rfl | rfl | rfl | rfl | rfl <;> simp [ng_row, upd, e0, e1, e2]⟩
theorem ng_sv.took {M M' : ng_M} {s s2 : Nat} {a : ng_R} (h : ng_sv M s2 a) (ht : ng_took M s s2 M') : ng_sv M' s a := by
  obtain ⟨s1, t2, s3, s4, s5, s6, s7⟩ := h
  obtain ⟨-, q1, -, q2⟩ := ht
  exact ⟨fun j hj => (q1 j hj).trans (s1 j hj), (q2 3 (by decide) (by decide)).trans t2, (q2 4 (by decide) (by decide)).trans s3, (q2 5 (by decide) (by decide)).trans s4, (q2 6 (by decide) (by decide)).trans s5, (q2 7 (by decide) (by decide)).trans s6, (q2 8 (by decide) (by decide)).trans s7⟩
