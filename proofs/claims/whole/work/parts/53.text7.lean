/-! ===== texts: the pair ===== -/
theorem ng_loc_t : ∀ k, k < 123 → (ng_loc 1 k).1 ∉ [7, 8, 11, 12] ∧ 1 ≤ (ng_loc 1 k).1 ∧ (ng_loc 1 k).1 ≤ 19 := by decide +kernel
theorem ng_cvr_8 {M M2 : ng_M} (h1 : M2 1 = upd (M 1) 4 0) (ho : ∀ k, 2 ≤ k → k ≤ 19 → k ∉ [7, 8, 11, 12] → M2 k = M k) : ∀ k, k < 123 → ng_cvr M2 1 k = upd (ng_cvr M 1) 8 0 k := by
  intro k hk
  have e := ng_cvr_upd (M := M) (r := 1) (j := 4) (i := 8) (v := 0) (fun k hk => (ng_loc_w k hk).2.1) k hk
  rw [← e]
  unfold ng_cvr
  obtain ⟨l1, l2, l3⟩ := ng_loc_t k hk
  by_cases q : (ng_loc 1 k).1 = 1
  · rw [q, h1, ng_row_eq]
  · rw [ng_row_ne q, ho _ (by omega) l3 l1]
theorem ng_txt_n {a : ng_R} {o : Nat} (h : ng_fok (ng_tc a o) (a o)) : (a o).toNatClampNeg ≤ 50 := by
  obtain ⟨n, hn, h50, -⟩ := h
  rw [hn, nI_clamp (by omega)]
  exact h50
theorem ng_tr_same {c : Nat → Int32} {L : Int32} {a a' : ng_R} {o : Nat} (h : ng_tr c L a o) (h50 : (a o).toNatClampNeg ≤ 50) (e : ∀ k, o ≤ k → k ≤ o + 51 → a' k = a k) : ng_tr c L a' o := by
  obtain ⟨h1, h2⟩ := h
  refine ⟨by rw [e o (by omega) (by omega)]; exact h1, fun j hj => ?_⟩
  rw [h2 j hj, ng_tc, ng_tc, e (o + 1 + j) (by omega) (by rw [h1] at hj; omega)]
theorem ng_fok_same {a a' : ng_R} {o : Nat} (h : ng_fok (ng_tc a o) (a o)) (e : ∀ k, o ≤ k → k ≤ o + 51 → a' k = a k) : ng_fok (ng_tc a' o) (a' o) := by
  have h50 := ng_txt_n h
  obtain ⟨n, hn, n50, hw⟩ := h
  refine ⟨n, by rw [e o (by omega) (by omega)]; exact hn, n50, hw.imp id (fun w => ng_tok_congr (fun j hj => ?_) w)⟩
  rw [ng_tc, ng_tc, e (o + 1 + j) (by omega) (by omega)]
theorem ng_tv_same {a a' : ng_R} {o : Nat} (h : ng_tv a o) (h50 : (a o).toNatClampNeg ≤ 50) (e : ∀ k, o ≤ k → k ≤ o + 51 → a' k = a k) : ng_tv a' o := by
  intro j hj
  rw [e o (by omega) (by omega)] at hj
  rw [e (o + 1 + j) (by omega) (by omega)]
  exact h j hj
/-- a new text stands -/
theorem ng_tx_new {a' : ng_R} {o : Nat} {cs : List Int32} (hv : ng_hv cs) (hn : cs.length ≤ 50) (h0 : a' o = nI cs.length) (h1 : ∀ j, j < cs.length → a' (o + 1 + j) = cs.getD j 0) : ng_fok (ng_tc a' o) (a' o) ∧ ng_tv a' o ∧ ∀ (c : Nat → Int32) (L : Int32), L = nI cs.length → (∀ j, j < cs.length → c j = ng_un (cs.getD j 0)) → ng_tr c L a' o := by
  have hcl : (nI cs.length).toNatClampNeg = cs.length := nI_clamp (by omega)
  refine ⟨⟨cs.length, h0, hn, Or.inr (ng_tok_congr (fun j hj => ?_) (ng_hv_wt hv hn))⟩, fun j hj => ?_, fun c L hL hc => ⟨by rw [hL, h0], fun j hj => ?_⟩⟩
  · rw [ng_tc, h1 j hj]
  · rw [h0, hcl] at hj
    rw [h1 j hj]
    refine hv.1 _ ?_
    rw [List.getD_eq_getElem?_getD, List.getElem?_eq_getElem hj]
    exact List.getElem_mem hj
  · rw [hL, hcl] at hj
    rw [hc j hj, ng_tc, h1 j hj]
theorem ng_text_inv_0 {M M1 M2 : ng_M} {v v2 : Int32} (h : ng_inv M) (h8 : ng_pT8 M 0 7 v M1) (h9 : ng_pT9 M1 0 123 v2 M2) : v2 = v ∧ ng_inv M2 := by
  obtain ⟨t1, t2, t3, t4⟩ := ng_tR_gd (u := 0) h.1.2
  obtain ⟨r1, r2, r3, r4⟩ := h9
  have e74 : M1 74 = M 74 := by
    rcases h8 with z | z
    · exact z.2.2.1 74 (by decide)
    · exact z.2.2.1 74 (by decide)
  have e73 : M1 73 = M 73 := by
    rcases h8 with z | z
    · exact z.2.2.1 73 (by decide)
    · exact z.2.2.1 73 (by decide)
  rw [e74] at r4
  rw [e73] at r2 r3
  obtain ⟨hr1, hr2, hr3⟩ := id h.1.1
  obtain ⟨hb, ⟨hf1, hf2⟩, hv1, hv2⟩ := id h.1.2
  rcases h8 with ⟨k1, k2, k3, k4, k5, k6⟩ | ⟨k1, k2, k3, k4⟩
  · rcases r4 with ⟨q1, q2, q3, q4, q5⟩ | ⟨q1, -⟩
    · refine ⟨by rw [k2, q2], ng_inv_I1 h ⟨⟨fun k hk => ?_, ?_, ?_⟩, ⟨fun k hk => ?_, ⟨?_, ?_⟩, ?_, ?_⟩⟩ (fun k hk => ?_) r2 r3⟩
      · rw [ng_cvr_8 (M := M) (by rw [r1 1 (by decide), k4]) (fun j j1 j2 j3 => by simp at j3; rw [r1 j (by simp; omega), k3 j (by simp; omega)]) k hk, q3 k (by omega)]
        by_cases e : k = 8
        · subst e; rw [ng_upd_eq, ng_upd_eq]
        · rw [ng_upd_ne e, ng_upd_ne e]; exact hr1 k hk
      · exact (ng_tx_new (t4 k1.1) t3 q4 q5).2.2 _ _ (by show M2 7 1 = _; rw [r1 7 (by decide), k5]) (fun j hj => by show M2 8 j = _; rw [r1 8 (by decide), k6 j hj])
      · show ng_tr (M2 12) (M2 11 1) _ _
        rw [r1 12 (by decide), r1 11 (by decide), k3 12 (by decide), k3 11 (by decide)]
        exact ng_tr_same hr3 (ng_txt_n hf2) (fun k g1 g2 => by rw [q3 k (by omega), ng_upd_ne (by omega)])
      · rw [q3 k (by omega)]
        exact hb.upd (i := 8) (v := 0) (by decide) (by decide) k hk
      · exact (ng_tx_new (t4 k1.1) t3 q4 q5).1
      · exact ng_fok_same hf2 (fun k g1 g2 => by rw [q3 k (by omega), ng_upd_ne (by omega)])
      · exact (ng_tx_new (t4 k1.1) t3 q4 q5).2.1
      · exact ng_tv_same hv2 (ng_txt_n hf2) (fun k g1 g2 => by rw [q3 k (by omega), ng_upd_ne (by omega)])
      · unfold ng_oth at hk
        rw [r1 k (by simp; omega), k3 k (by simp; omega)]
    · exact absurd k1 q1
  · rcases r4 with ⟨q1, -⟩ | ⟨q1, q2, q3⟩
    · exact absurd q1 k1
    · refine ⟨by rw [k2, q2], ng_inv_I1 h ⟨?_, ?_⟩ (fun k hk => ?_) r2 r3⟩
      · rw [q3]
        exact h.1.1.upd (by decide) (ng_cvr_8 (M := M) (by rw [r1 1 (by decide), k4]) (fun j j1 j2 j3 => by rw [r1 j (by simp; omega), k3 j (by simp; omega)])) (by rw [r1 7 (by decide), k3 7 (by decide)]) (by rw [r1 8 (by decide), k3 8 (by decide)]) (by rw [r1 11 (by decide), k3 11 (by decide)]) (by rw [r1 12 (by decide), k3 12 (by decide)])
      · rw [q3]
        exact h.1.2.upd (by decide) (by decide) (by decide)
      · unfold ng_oth at hk
        rw [r1 k (by simp; omega), k3 k (by simp; omega)]
theorem ng_text_inv_1 {M M1 M2 : ng_M} {v v2 : Int32} (h : ng_inv M) (h8 : ng_pT8 M 1 11 v M1) (h9 : ng_pT9 M1 1 175 v2 M2) : v2 = v ∧ ng_inv M2 := by
  obtain ⟨t1, t2, t3, t4⟩ := ng_tR_gd (u := 1) h.1.2
  obtain ⟨r1, r2, r3, r4⟩ := h9
  have e74 : M1 74 = M 74 := by
    rcases h8 with z | z
    · exact z.2.2.1 74 (by decide)
    · exact z.2.2.1 74 (by decide)
  have e73 : M1 73 = M 73 := by
    rcases h8 with z | z
    · exact z.2.2.1 73 (by decide)
    · exact z.2.2.1 73 (by decide)
  rw [e74] at r4
  rw [e73] at r2 r3
  obtain ⟨hr1, hr2, hr3⟩ := id h.1.1
  obtain ⟨hb, ⟨hf1, hf2⟩, hv1, hv2⟩ := id h.1.2
  rcases h8 with ⟨k1, k2, k3, k4, k5, k6⟩ | ⟨k1, k2, k3, k4⟩
  · rcases r4 with ⟨q1, q2, q3, q4, q5⟩ | ⟨q1, -⟩
    · refine ⟨by rw [k2, q2], ng_inv_I1 h ⟨⟨fun k hk => ?_, ?_, ?_⟩, ⟨fun k hk => ?_, ⟨?_, ?_⟩, ?_, ?_⟩⟩ (fun k hk => ?_) r2 r3⟩
      · rw [ng_cvr_8 (M := M) (by rw [r1 1 (by decide), k4]) (fun j j1 j2 j3 => by simp at j3; rw [r1 j (by simp; omega), k3 j (by simp; omega)]) k hk, q3 k (by omega)]
        by_cases e : k = 8
        · subst e; rw [ng_upd_eq, ng_upd_eq]
        · rw [ng_upd_ne e, ng_upd_ne e]; exact hr1 k hk
      · show ng_tr (M2 8) (M2 7 1) _ _
        rw [r1 8 (by decide), r1 7 (by decide), k3 8 (by decide), k3 7 (by decide)]
        exact ng_tr_same hr2 (ng_txt_n hf1) (fun k g1 g2 => by rw [q3 k (by omega), ng_upd_ne (by omega)])
      · exact (ng_tx_new (t4 k1.1) t3 q4 q5).2.2 _ _ (by show M2 11 1 = _; rw [r1 11 (by decide), k5]) (fun j hj => by show M2 12 j = _; rw [r1 12 (by decide), k6 j hj])
      · rw [q3 k (by omega)]
        exact hb.upd (i := 8) (v := 0) (by decide) (by decide) k hk
      · exact ng_fok_same hf1 (fun k g1 g2 => by rw [q3 k (by omega), ng_upd_ne (by omega)])
      · exact (ng_tx_new (t4 k1.1) t3 q4 q5).1
      · exact ng_tv_same hv1 (ng_txt_n hf1) (fun k g1 g2 => by rw [q3 k (by omega), ng_upd_ne (by omega)])
      · exact (ng_tx_new (t4 k1.1) t3 q4 q5).2.1
      · unfold ng_oth at hk
        rw [r1 k (by simp; omega), k3 k (by simp; omega)]
    · exact absurd k1 q1
  · rcases r4 with ⟨q1, -⟩ | ⟨q1, q2, q3⟩
    · exact absurd q1 k1
    · refine ⟨by rw [k2, q2], ng_inv_I1 h ⟨?_, ?_⟩ (fun k hk => ?_) r2 r3⟩
      · rw [q3]
        exact h.1.1.upd (by decide) (ng_cvr_8 (M := M) (by rw [r1 1 (by decide), k4]) (fun j j1 j2 j3 => by rw [r1 j (by simp; omega), k3 j (by simp; omega)])) (by rw [r1 7 (by decide), k3 7 (by decide)]) (by rw [r1 8 (by decide), k3 8 (by decide)]) (by rw [r1 11 (by decide), k3 11 (by decide)]) (by rw [r1 12 (by decide), k3 12 (by decide)])
      · rw [q3]
        exact h.1.2.upd (by decide) (by decide) (by decide)
      · unfold ng_oth at hk
        rw [r1 k (by simp; omega), k3 k (by simp; omega)]
theorem c_text_e {X : Nat × (Nat → Int32)} {M : ng_M} {u : Int32} (hu : ng_in u 0 1 = false) : ng_EvI X 52 mi_X8_text [.ref 0, .int u] M (fun r M1 => r = ng_er 1 ∧ M1 = ng_cfl M 1) := by
  refine ng_EvI.of (lv := [some (.ref 0), some (.int u), none]) (ty := .int) (by decide) (Nat.le_of_ble_eq_true rfl) rfl rfl (fun _ _ _ => rfl) ?_
  refine ng_iload_1 dX8_text_0 ?_
  refine ng_iconst_0 dX8_text_1 ?_
  refine ng_iconst_1 dX8_text_2 ?_
  refine ng_callS_3x (y2 := mi_X8_isWithin) dX8_text_3 lk_X8_61 ms_X8_isWithin my_X8_isWithin (by first | decide | exact Nat.le_of_ble_eq_true rfl) (s_X8_isWithin) (by decide) ?_
  refine ng_ifb_ne 16 dX8_text_6 (by decide +kernel) (fun h6 => ?_) (fun h6 => ?_)
  · exact absurd h6 (by rw [hu]; decide)
  · refine ng_aload_0 dX8_text_9 ?_
    refine ng_ldc dX8_text_10 kc_X8_65 ?_
    refine ng_callV_1x (y2 := mi_X8_fails) dX8_text_12 lk_X8_66 ms_X8_fails my_X8_fails (by first | exact ⟨_, rfl⟩ | assumption | exact ng_fld_obj (f := 0) (by assumption)) mc_X8 (by first | decide | exact Nat.le_of_ble_eq_true rfl) (s_X8_fails (k := 1) (by decide) (by decide) (by decide)) (by decide) ?_
    exact ng_ireturn dX8_text_15 ⟨_, rfl, by decide, rfl⟩
theorem r_text_e {X : Nat × (Nat → Int32)} {M : ng_M} {u : Int32} (hu : ng_in u 0 1 = false) : ng_EvI X 42 mi_X9_text [.ref 73, .int u] M (fun r M1 => r = ng_er 1 ∧ M1 = ng_rfl M 1) := by
  refine ng_EvI.of (lv := [some (.ref 73), some (.int u), none]) (ty := .int) (by decide) (Nat.le_of_ble_eq_true rfl) rfl rfl (fun _ _ _ => rfl) ?_
  refine ng_iload_1 dX9_text_0 ?_
  refine ng_iconst_0 dX9_text_1 ?_
  refine ng_iconst_1 dX9_text_2 ?_
  refine ng_callS_3x (y2 := mi_X9_within) dX9_text_3 lk_X9_80 ms_X9_within my_X9_within (by first | decide | exact Nat.le_of_ble_eq_true rfl) (s_X9_within) (by decide) ?_
  refine ng_ifb_ne 16 dX9_text_6 (by decide +kernel) (fun h6 => ?_) (fun h6 => ?_)
  · exact absurd h6 (by rw [hu]; decide)
  · refine ng_aload_0 dX9_text_9 ?_
    refine ng_ldc dX9_text_10 kc_X9_91 ?_
    refine ng_callV_1x (y2 := mi_X9_finding) dX9_text_12 lk_X9_92 ms_X9_finding my_X9_finding (by first | exact ⟨_, rfl⟩ | assumption | exact ng_fld_obj (f := 0) (by assumption)) mc_X9 (by first | decide | exact Nat.le_of_ble_eq_true rfl) (s_X9_finding (k := 1) (by decide) (by decide) (by decide)) (by decide) ?_
    exact ng_ireturn dX9_text_15 ⟨_, rfl, by decide, rfl⟩
theorem pr_text {X : Nat × (Nat → Int32)} {M : ng_M} {u : Int32} (h : ng_inv M) : ng_pair X mi_X8_text mi_X9_text [.int u] M := by
  cases hu : ng_in u 0 1 with
  | false =>
    refine ng_pair.of (c_text_e hu) (by decide) (by decide) (fun v M1 _ => r_text_e hu) (fun v M1 h1 v2 M2 h2 => ?_)
    rw [h2.1, h2.2, h1.1, h1.2]
    exact ⟨rfl, ng_inv_err h⟩
  | true =>
    have q := ng_vin (n := 2) hu (by decide)
    have e := ng_nat q.1
    have e2 : u = 0 ∨ u = 1 := by
      have : u.toNatClampNeg = 0 ∨ u.toNatClampNeg = 1 := by omega
      rcases this with z | z
      · rw [z] at e; exact Or.inl e
      · rw [z] at e; exact Or.inr e
    rcases e2 with rfl | rfl
    · refine ng_pair.of (c_text_0 h.1) (by decide) (by decide) (fun v M1 h1 => r_text_0 ?_) (fun v M1 h1 v2 M2 h2 => ng_text_inv_0 h h1 h2)
      have e74 : M1 74 = M 74 := by
        rcases h1 with z | z
        · exact z.2.2.1 74 (by decide)
        · exact z.2.2.1 74 (by decide)
      rw [e74]
      exact h.1.2
    · refine ng_pair.of (c_text_1 h.1) (by decide) (by decide) (fun v M1 h1 => r_text_1 ?_) (fun v M1 h1 v2 M2 h2 => ng_text_inv_1 h h1 h2)
      have e74 : M1 74 = M 74 := by
        rcases h1 with z | z
        · exact z.2.2.1 74 (by decide)
        · exact z.2.2.1 74 (by decide)
      rw [e74]
      exact h.1.2
