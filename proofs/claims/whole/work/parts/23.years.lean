/-! ===== years: all come; bounds behind a year; the invariant behind it ===== -/
def ng_all : Nat → Bool := fun _ => true
theorem ng_ybo_cm {a : ng_R} {t : Int32} {cm cm' : Nat → Bool} {n : Nat} (h : ∀ i, i < n → cm i = cm' i) : ∀ i, i < n → ∀ x, ng_ybo a t cm i x = ng_ybo a t cm' i x := fun i hi x => by rw [ng_ybo, ng_ybo, h i hi]
theorem ng_yr_cm {a : ng_R} {t b : Int32} {cm cm' : Nat → Bool} (h : ∀ i, i < ng_yn a → cm i = cm' i) : ng_yr a t b cm = ng_yr a t b cm' ∧ ng_ysd a t b cm = ng_ysd a t b cm' ∧ ng_ylf a t b cm = ng_ylf a t b cm' := by
  have hb := ng_ybo_cm (a := a) (t := t) h
  have hl : ng_ylf a t b cm = ng_ylf a t b cm' := by rw [ng_ylf, ng_ylf, ng_lf_congr _ hb]
  have hs : ng_ysd a t b cm = ng_ysd a t b cm' := by rw [ng_ysd, ng_ysd, hl]
  refine ⟨?_, hs, hl⟩
  funext k
  unfold ng_yr
  have e1 : ng_yna a t b cm = ng_yna a t b cm' := by rw [ng_yna, ng_yna, hs, hl]
  have e2 : ng_yke a t b cm = ng_yke a t b cm' := by rw [ng_yke, ng_yke, hs]
  have e3 : ng_ypu a t b cm = ng_ypu a t b cm' := by rw [ng_ypu, ng_ypu, ng_pd_congr _ hb (fun _ _ => rfl)]
  have e4 : ∀ j, ng_yhs a t b cm j = ng_yhs a t b cm' j := fun j => by rw [ng_yhs, ng_yhs]; exact ng_hs_congr hb rfl
  rw [e1, e2, e3, e4]
theorem ng_cm255 : ∀ i, i < 8 → ng_cm 255 i = true := by decide +kernel
theorem ng_yn8 {a : ng_R} (h : ng_yok a) : ng_yn a ≤ 8 := by
  obtain ⟨⟨n, hn, hn8⟩, -⟩ := h
  rw [ng_yn_of hn hn8]; exact hn8
theorem ng_yr_255 {a : ng_R} {t b : Int32} (h : ng_yok a) : ng_yr a t b (ng_cm 255) = ng_yr a t b ng_all ∧ ng_ysd a t b (ng_cm 255) = ng_ysd a t b ng_all ∧ ng_ylf a t b (ng_cm 255) = ng_ylf a t b ng_all := ng_yr_cm (fun i hi => by rw [ng_cm255 i (by have := ng_yn8 h; omega)]; rfl)
theorem ng_yz_false {a : ng_R} {t b : Int32} : ng_yz a t b false = ng_yr a t b ng_all ∧ ng_ysd a t b (ng_cf a false) = ng_ysd a t b ng_all ∧ ng_ylf a t b (ng_cf a false) = ng_ylf a t b ng_all := by
  have h := ng_yr_cm (a := a) (t := t) (b := b) (cm := ng_cf a false) (cm' := ng_all) (fun i _ => by simp [ng_cf, ng_all])
  refine ⟨?_, h.2⟩
  funext k
  rw [ng_yz, ← h.1]
  by_cases e : k = 10
  · rw [if_pos e, show ng_yr a t b (ng_cf a false) k = a k by subst e; simp [ng_yr], e]
    rfl
  · rw [if_neg e]
/-- the bounds, the year's number apart -/
def ng_okY (a : ng_R) : Prop := (∀ k, 1 ≤ k → k < 123 → ng_bl k ≤ (a k).toInt ∧ (a k).toInt ≤ ng_bh k) ∧ ng_txt a
theorem ng_ok.Y {a : ng_R} (h : ng_ok a) : ng_okY a := ⟨fun k _ hk => h.1 k hk, h.2⟩
theorem ng_okY.ok {a : ng_R} (h : ng_okY a) (h0 : 0 ≤ (a 0).toInt) (h1 : (a 0).toInt ≤ 199) : ng_ok a := ⟨fun k hk => by
  by_cases e : k = 0
  · subst e; exact ⟨h0, h1⟩
  · exact h.1 k (by omega) hk, h.2⟩
theorem ng_tc_congr0 {a a' : ng_R} {o : Nat} (h : ∀ k, k ≠ 0 → a' k = a k) : ng_tc a' o = ng_tc a o := by
  funext j
  rw [ng_tc, ng_tc, h _ (by omega)]
theorem ng_wfr_congr0 {a a' : ng_R} (h : ∀ k, k ≠ 0 → a' k = a k) (hw : ng_wfr a) : ng_wfr a' := by
  obtain ⟨⟨⟨⟨n, h1, h2⟩, h3, h4, h5⟩, h6, h7⟩, b1, b2, b3, b4, b5, b6, b7, b8⟩ := hw
  refine ⟨⟨⟨⟨n, by rw [h 1 (by decide)]; exact h1, h2⟩, by rw [h 2 (by decide)]; exact h3, by rw [ng_tc_congr0 h, h 123 (by decide)]; exact h4, by rw [ng_tc_congr0 h, h 175 (by decide)]; exact h5⟩, ?_, ?_⟩, ?_, ?_, ?_, ?_, ?_, ?_, ?_, ?_⟩
  · intro j hj; rw [h 123 (by decide)] at hj; rw [h _ (by omega)]; exact h6 j hj
  · intro j hj; rw [h 175 (by decide)] at hj; rw [h _ (by omega)]; exact h7 j hj
  · intro j hj; rw [h _ (by omega)]; exact b1 j hj
  · intro j hj; rw [h (21 + 4 * j) (by omega), h (22 + 4 * j) (by omega), h (23 + 4 * j) (by omega), h (24 + 4 * j) (by omega)]; exact b2 j hj
  · rw [h 2 (by decide)]; exact b3
  · rw [h 3 (by decide)]; exact b4
  · rw [h 4 (by decide)]; exact b5
  · rw [h 5 (by decide)]; exact b6
  · rw [h 6 (by decide)]; exact b7
  · rw [h 7 (by decide)]; exact b8
theorem ng_okY.wfr {a : ng_R} (h : ng_okY a) : ng_wfr a := by
  have h1 : ng_ok (upd a 0 0) := by
    refine ⟨fun k hk => ?_, h.2.upd (by decide)⟩
    by_cases e : k = 0
    · subst e; rw [ng_upd_eq, ng_0]; decide
    · rw [ng_upd_ne e]; exact h.1 k (by omega) hk
  exact ng_wfr_congr0 (a := upd a 0 0) (fun k hk => (ng_upd_ne hk).symm) h1.wfr
theorem ng_hs_bd {a : ng_R} {t on : Int32} {cm : Nat → Bool} {n j : Nat} (hb : ng_bd a) (hj : j < 8) (hn : n ≤ 8) (h0 : 0 ≤ on.toInt) : 0 ≤ (ng_hs (ng_ybo a t cm) on (fun j => a (24 + 4 * j)) n j).toInt ∧ (ng_hs (ng_ybo a t cm) on (fun j => a (24 + 4 * j)) n j).toInt ≤ 9999 := by
  have l1 := ng_lf_bd (t := t) (cm := cm) hb h0 j (by omega)
  have q := ng_ybo_bd (t := t) (cm := cm) hb hj l1.1
  have h := (hb.2.1 j hj).2.2.2
  unfold ng_hs
  dsimp only
  by_cases c : j < n
  · rw [if_pos c]
    by_cases d : ng_ybo a t cm j (ng_lf (ng_ybo a t cm) on j) ≤ 0
    · rw [if_pos d]; exact h
    · rw [if_neg d, ng_minI, ng_addI (by omega) (by omega), ng_9999]; omega
  · rw [if_neg c]; exact h
/-- behind a year the bounds hold again -/
theorem ng_okY.yr {a : ng_R} {t b : Int32} {cm : Nat → Bool} (h : ng_okY a) (ht : vp_in t 10) (hb0 : 0 ≤ b.toInt) (hb1 : b.toInt ≤ 99) : ng_okY (ng_yr a t b cm) := by
  have hw := h.wfr
  obtain ⟨g1, g2, g3, g4, g5, g6, g7, g8⟩ := id hw.2
  have hn8 := ng_yn8 hw.1.1
  have hon := ng_yon_bd hw.2 hb0 hb1
  have hon0 : 0 ≤ (ng_yon a b).toInt := by omega
  have hsd := ng_ysd_I (t := t) (cm := cm) hw.2 hn8 hb0 hb1
  refine ⟨fun k k1 hk => ?_, ?_⟩
  · by_cases e2 : k = 2
    · subst e2
      have := ng_vp_I ht
      rw [show ng_yr a t b cm 2 = t by simp [ng_yr], show ng_bl 2 = 0 by decide, show ng_bh 2 = 9 by decide]
      omega
    · by_cases e3 : k = 3
      · subst e3
        rw [show ng_yr a t b cm 3 = ng_yna a t b cm by simp [ng_yr], show ng_bl 3 = 0 by decide, show ng_bh 3 = 12 by decide]
        rw [ng_yna, ng_heldI, ng_0, ng_12]; omega
      · by_cases e5 : k = 5
        · subst e5
          rw [show ng_yr a t b cm 5 = ng_yke a t b cm by simp [ng_yr], show ng_bl 5 = 0 by decide, show ng_bh 5 = 60 by decide]
          rw [ng_yke, ng_minI, ng_60, ng_subI (by rw [hon.2, hsd.1]; omega) (by rw [hon.2, hsd.1]; omega), hon.2, hsd.1]; omega
        · by_cases e6 : k = 6
          · subst e6
            rw [show ng_yr a t b cm 6 = ng_ypu a t b cm by simp [ng_yr], show ng_bl 6 = -99999999 by decide, show ng_bh 6 = 99999999 by decide]
            rw [ng_ypu, ng_heldI, show (99999999 : Int32).toInt = 99999999 by decide, show (-99999999 : Int32).toInt = -99999999 by decide]; omega
          · have e0 : ¬ k = 0 := by omega
            have ek : ng_yr a t b cm k = if 24 ≤ k ∧ k < 56 ∧ k % 4 = 0 then ng_yhs a t b cm ((k - 24) / 4) else a k := by
              rw [ng_yr, if_neg e0, if_neg e2, if_neg e3, if_neg e5, if_neg e6]
            rw [ek]
            by_cases c : 24 ≤ k ∧ k < 56 ∧ k % 4 = 0
            · rw [if_pos c]
              have hk4 : k = 24 + 4 * ((k - 24) / 4) := by omega
              have q := ng_hs_bd (t := t) (cm := cm) (on := ng_yon a b) (n := ng_yn a) (j := (k - 24) / 4) hw.2 (by omega) hn8 hon0
              have bb := ng_b_ha ((k - 24) / 4) (by omega)
              rw [← hk4] at bb
              rw [bb.1, bb.2]
              exact q
            · rw [if_neg c]; exact h.1 k k1 hk
  · have ek : ∀ k, 56 ≤ k → ng_yr a t b cm k = a k := fun k hk => by
      rw [ng_yr, if_neg (by omega), if_neg (by omega), if_neg (by omega), if_neg (by omega), if_neg (by omega), if_neg (by omega)]
    have htc : ∀ o, 56 ≤ o → ng_tc (ng_yr a t b cm) o = ng_tc a o := fun o ho => by
      funext j
      rw [ng_tc, ng_tc, ek _ (by omega)]
    obtain ⟨⟨q1, q2⟩, q3, q4⟩ := h.2
    refine ⟨⟨?_, ?_⟩, ?_, ?_⟩
    · rw [htc 123 (by decide), ek 123 (by decide)]; exact q1
    · rw [htc 175 (by decide), ek 175 (by decide)]; exact q2
    · intro j hj; rw [ek 123 (by decide)] at hj; rw [ek _ (by omega)]; exact q3 j hj
    · intro j hj; rw [ek 175 (by decide)] at hj; rw [ek _ (by omega)]; exact q4 j hj
theorem ng_loc_u : ∀ k, k < 123 → ((ng_loc 1 k).1 = 15 ∧ 3 ≤ (ng_loc 1 k).2 ∧ (ng_loc 1 k).2 ≤ 8) ∨ (1 ≤ (ng_loc 1 k).1 ∧ (ng_loc 1 k).1 ≤ 19 ∧ (ng_loc 1 k).1 ∉ [7, 8, 9, 10, 11, 12, 13, 14, 15, 17]) := by decide +kernel
/-- cells that are of no weight have changed -/
theorem ng_rep.junk {M M' : ng_M} {a : ng_R} (h : ng_rep M 1 a) (ho : ∀ k, 1 ≤ k → k ≤ 19 → k ∉ [9, 10, 13, 14, 15, 17] → M' k = M k) (h15 : ∀ f, 3 ≤ f → f ≤ 8 → M' 15 f = M 15 f) : ng_rep M' 1 a := by
  obtain ⟨h1, h2, h3⟩ := h
  refine ⟨fun k hk => ?_, ?_, ?_⟩
  · rw [← h1 k hk]
    unfold ng_cvr
    rcases ng_loc_u k hk with ⟨e, e3, e8⟩ | ⟨e1, e2, e3⟩
    · rw [e]; exact h15 _ e3 e8
    · rw [ho _ e1 e2 (fun q => e3 (by simp at q ⊢; omega))]
  · show ng_tr (M' 8) (M' 7 1) _ _
    rw [ho 8 (by decide) (by decide) (by decide), ho 7 (by decide) (by decide) (by decide)]; exact h2
  · show ng_tr (M' 12) (M' 11 1) _ _
    rw [ho 12 (by decide) (by decide) (by decide), ho 11 (by decide) (by decide) (by decide)]; exact h3
theorem ng_kcase (k : Nat) (hk : k < 123) : k = 0 ∨ k = 1 ∨ k = 8 ∨ k = 9 ∨ k = 10 ∨ (2 ≤ k ∧ k < 8) ∨ (∃ j, j < 10 ∧ k = 11 + j) ∨ (∃ j, j < 8 ∧ (k = 21 + 4 * j ∨ k = 22 + 4 * j ∨ k = 23 + 4 * j ∨ k = 24 + 4 * j)) ∨ (∃ j, j < 50 ∧ k = 53 + j) ∨ ∃ j, j < 20 ∧ k = 103 + j := by
  by_cases h : k < 11
  · omega
  · by_cases h1 : k < 21
    · exact Or.inr (Or.inr (Or.inr (Or.inr (Or.inr (Or.inr (Or.inl ⟨k - 11, by omega, by omega⟩))))))
    · by_cases h2 : k < 53
      · exact Or.inr (Or.inr (Or.inr (Or.inr (Or.inr (Or.inr (Or.inr (Or.inl ⟨(k - 21) / 4, by omega, by omega⟩)))))))
      · by_cases h3 : k < 103
        · exact Or.inr (Or.inr (Or.inr (Or.inr (Or.inr (Or.inr (Or.inr (Or.inr (Or.inl ⟨k - 53, by omega, by omega⟩))))))))
        · exact Or.inr (Or.inr (Or.inr (Or.inr (Or.inr (Or.inr (Or.inr (Or.inr (Or.inr ⟨k - 103, by omega, by omega⟩))))))))
theorem ng_rep.mk {M : ng_M} {a : ng_R} (hr : ng_rl M a) (hs : ng_sv M 15 a) (h0 : M 1 6 = a 0) (h8 : M 1 4 = a 8) (h9 : M 1 5 = a 9) (h10 : M 1 7 = a 10) (ht : ∀ j, j < 50 → M 18 j = a (53 + j)) (hw : ∀ j, j < 20 → M 19 j = a (103 + j)) : ng_rep M 1 a := by
  obtain ⟨r1, r2, r3, r4, r5⟩ := hr
  obtain ⟨s1, s2, s3, s4, s5, s6, s7⟩ := hs
  refine ⟨fun k hk => ?_, r4, r5⟩
  rcases ng_kcase k hk with rfl | rfl | rfl | rfl | rfl | h | ⟨j, hj, rfl⟩ | ⟨j, hj, h⟩ | ⟨j, hj, rfl⟩ | ⟨j, hj, rfl⟩
  · exact h0
  · exact r3
  · exact h8
  · exact h9
  · exact h10
  · have : k = 2 ∨ k = 3 ∨ k = 4 ∨ k = 5 ∨ k = 6 ∨ k = 7 := by omega
    rcases this with rfl | rfl | rfl | rfl | rfl | rfl
    · exact s2
    · exact s3
    · exact s4
    · exact s5
    · exact s6
    · exact s7
  · rw [ng_cvr_at ((ng_loc_c j hj _ hk).mpr rfl)]; exact r1 j hj
  · rcases h with rfl | rfl | rfl | rfl
    · rw [ng_cvr_at ((ng_loc_ki j hj _ hk).mpr rfl)]; exact (r2 j hj).1
    · rw [ng_cvr_at ((ng_loc_wa j hj _ hk).mpr rfl)]; exact (r2 j hj).2.1
    · rw [ng_cvr_at ((ng_loc_ta j hj _ hk).mpr rfl)]; exact (r2 j hj).2.2
    · rw [ng_cvr_at ((ng_loc_ha j hj _ hk).mpr rfl)]; exact s1 j hj
  · rw [ng_cvr_at ((ng_loc_tp j hj _ hk).mpr rfl)]; exact ht j hj
  · rw [ng_cvr_at ((ng_loc_wt j hj _ hk).mpr rfl)]; exact hw j hj
theorem ng_yr_hi {a : ng_R} {t b : Int32} {cm : Nat → Bool} {k : Nat} (h : k = 1 ∨ k = 4 ∨ (7 ≤ k ∧ k < 24) ∨ (24 ≤ k ∧ k % 4 ≠ 0) ∨ 56 ≤ k) : ng_yr a t b cm k = a k := by
  rw [ng_yr, if_neg (by omega), if_neg (by omega), if_neg (by omega), if_neg (by omega), if_neg (by omega), if_neg (by omega)]
