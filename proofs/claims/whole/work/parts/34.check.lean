/-! ===== pairs: at, check ===== -/
theorem ng_pair.B {X : Nat × (Nat → Int32)} {M M8 : ng_M} {a' : ng_R} {y8 y9 : ng_Y} {as : List Value} {A : Nat ⊕ Int32} {d8 d9 : Nat} (h : ng_inv (ng_row M8 74 a')) (h8 : ng_EvI X d8 y8 (.ref 0 :: as) M (ng_a8 M8 A)) (hd8 : d8 ≤ 60) (hd9 : d9 ≤ 60) (h9 : ∀ M1, (∀ k, 73 ≤ k → M1 k = M8 k) → ng_EvI X d9 y9 (.ref 73 :: as) M1 (ng_a9 (ng_row M1 74 a') A)) : ng_pair X y8 y9 as M := by
  refine (h8.up hd8).imp (fun r1 M1 h1 => ?_)
  have hk : ∀ k, 73 ≤ k → M1 k = M8 k := by
    intro k hk
    obtain ⟨M', o, q⟩ := h1
    have e : M' k = M8 k := o k (by unfold ng_cj; omega)
    cases A with
    | inl j => rw [q.2, ng_cfl, ng_row_ne (by omega)]; exact e
    | inr v => rw [q.2]; exact e
  refine ((h9 M1 hk).up hd9).imp (fun r2 M2 h2 => ?_)
  obtain ⟨M', o, q⟩ := h1
  obtain ⟨M'', o2, q2⟩ := h2
  have e73 : ng_row M1 74 a' 73 = M8 73 := by rw [ng_row_ne (by decide)]; exact hk 73 (by decide)
  have f73 : ng_row M8 74 a' 73 = M8 73 := ng_row_ne (by decide)
  cases A with
  | inr v =>
    refine ⟨by rw [q2.1, q.1], ?_⟩
    rw [q2.2]
    refine ng_inv_j h (fun k k1 k2 => ?_) ?_ ?_
    · rw [o2.1 k k2]
      by_cases e : k = 74
      · subst e; rw [ng_row_eq, ng_row_eq]
      · rw [ng_row_ne e, ng_row_ne e, q.2, o k k1]
    · rw [o2.2.1, e73, f73]
    · rw [o2.2.2, e73, f73]
  | inl e =>
    refine ⟨by rw [q2.1, q.1], ?_⟩
    have hx : ng_inv (ng_row M'' 72 (M8 72)) := by
      refine ng_inv_j h (fun k k1 k2 => ?_) ?_ ?_
      · by_cases e : k = 72
        · subst e; rw [ng_row_eq, ng_row_ne (by decide)]
        · rw [ng_row_ne e, o2.1 k k2]
          by_cases e4 : k = 74
          · subst e4; rw [ng_row_eq, ng_row_eq]
          · rw [ng_row_ne e4, ng_row_ne e4, q.2, ng_cfl, ng_row_ne e, o k k1]
      · rw [ng_row_ne (by decide), o2.2.1, e73, f73]
      · rw [ng_row_ne (by decide), o2.2.2, e73, f73]
    have e72 : M'' 72 = upd (M8 72) e (M8 72 e + 1) := by
      rw [o2.1 72 (by decide), ng_row_ne (by decide), q.2, ng_cfl, ng_row_eq, o 72 (by decide)]
    have : M2 = ng_rfl (ng_cfl (ng_row M'' 72 (M8 72)) e) e := by
      rw [q2.2]
      funext j
      by_cases j7 : j = 77
      · subst j7
        simp [ng_rfl, ng_cfl, ng_row]
      · rw [ng_rfl, ng_row_ne j7, ng_rfl, ng_row_ne j7]
        by_cases j2 : j = 72
        · subst j2; rw [e72, ng_cfl, ng_row_eq, ng_row_eq]
        · rw [ng_cfl, ng_row_ne j2, ng_row_ne j2]
    rw [this]
    exact ng_inv_err hx
theorem s_X5_appA {X : Nat × (Nat → Int32)} {M : ng_M} {s : Nat} {a : ng_R} (hs : ng_isS s) (hr : ng_rl M a) (hv : ng_sv M s a) (hok : ng_okY a) : ng_EvV X 4 mi_X5_appraise [.ref s] M (fun M' => ng_off [9, 10, s + 2] M M' ∧ ng_rl M' a ∧ ng_sv M' s a ∧ ∀ j, j < ng_yn a → M' (s + 2) j = ng_ypl a j) := by
  obtain ⟨n, hn, hn8⟩ := hok.wfr.1.1.1
  have hl := (ng_S hs).2.2.2.2
  have h2 := hok.wfr.1.1.2.1
  obtain ⟨v1, v2, v3, v4, v5, v6, v7⟩ := id hv
  refine (s_X5_appraise hs (hr.2.2.1.trans hn) hn8 (ng_tr_fok hr.2.2.2.1 hok.wfr.1.1.2.2.1) (by rw [v2]; exact h2)).imp (fun M' h => ?_)
  refine ⟨h.1, hr.kept (fun k hk => h.1 k (by simp at hk ⊢; omega)) (fun _ _ => rfl), ?_, fun j hj => ?_⟩
  · unfold ng_sv
    rw [h.1 s (by simp; omega), h.1 (s + 1) (by simp; omega)]
    exact hv
  · rw [ng_yn_of hn hn8] at hj
    rw [h.2 j hj, ng_pls, ng_ypl, ng_tr_pw hr.2.2.2.1, v2, v3, v1 j (by omega), (hr.2.1 j (by omega)).2.1, hr.1 _ (ng_vp_lt h2)]
theorem s_X5_worthA {X : Nat × (Nat → Int32)} {M : ng_M} {s i : Nat} {a : ng_R} {b t : Int32} (hs : ng_isS s) (hr : ng_rl M a) (hv : ng_sv M s a) (hb : b = nI i) (hi : i < 8) (hp : M (s + 2) i = ng_ypl a i) : ng_EvX X 1 mi_X5_worth [.ref s, .int b, .int t] M (some (.int (ng_worth (a (21 + 4 * i)) (ng_ypl a i) (a (24 + 4 * i)) (a 3) (a 2) t))) M := by
  have hc : b.toNatClampNeg = i := by rw [hb, nI_clamp (by omega)]
  refine (s_X5_worth (t := t) hs (by rw [hb]; exact vp_in_nI hi (by omega))).cast ?_ rfl
  rw [hc, hp, (hr.2.1 i hi).1, hv.1 i hi, hv.2.2.1, hv.2.1]
theorem s_X5_dueA {X : Nat × (Nat → Int32)} {M : ng_M} {s i : Nat} {a : ng_R} {b t : Int32} (hs : ng_isS s) (hr : ng_rl M a) (hb : b = nI i) (hi : i < 8) (ht : vp_in t 10) : ng_EvX X 1 mi_X5_due [.ref s, .int b, .int t] M (some (.int (ng_ydu a t i))) M := by
  have hc : b.toNatClampNeg = i := by rw [hb, nI_clamp (by omega)]
  refine (s_X5_due hs (by rw [hb]; exact vp_in_nI hi (by omega)) ht).cast ?_ rfl
  rw [hc, (hr.2.1 i hi).1, hr.1 _ (ng_vp_lt ht), ng_ydu]
theorem s_X5_buysA {X : Nat × (Nat → Int32)} {M : ng_M} {s i : Nat} {a : ng_R} {b t lf : Int32} (hs : ng_isS s) (hr : ng_rl M a) (hv : ng_sv M s a) (hb : b = nI i) (hi : i < 8) (ht : vp_in t 10) (hp : M (s + 2) i = ng_ypl a i) : ng_EvX X 2 mi_X5_buys [.ref s, .int b, .int t, .int lf] M (some (.int (ng_ybu a t i lf))) M := by
  have hc : b.toNatClampNeg = i := by rw [hb, nI_clamp (by omega)]
  refine (s_X5_buys (lf := lf) hs (by rw [hb]; exact vp_in_nI hi (by omega)) ht).cast ?_ rfl
  rw [hc, hp, (hr.2.1 i hi).1, (hr.2.1 i hi).2.2, hr.1 _ (ng_vp_lt ht), hv.1 i hi, hv.2.2.1, hv.2.1, ng_ybu]
def ng_atv (a : ng_R) (i : Nat) (t w lf : Int32) : Int32 := if w = 0 then ng_worth (a (21 + 4 * i)) (ng_ypl a i) (a (24 + 4 * i)) (a 3) (a 2) t else if w = 1 then ng_ydu a t i else ng_ybu a t i lf
abbrev ok_at (N b t w lf : Int32) : Bool := ng_in b 0 (N - 1) && (ng_in t 0 9 && (ng_in w 0 2 && ng_in lf 0 99))
theorem ng_isS15 : ng_isS 15 := Or.inl rfl
theorem sw_X8_at_63 {X : Nat × (Nat → Int32)} {d : Nat} {lv : ng_L} {st : List Value} {M : ng_M} {F : Option Value → ng_M → Prop} {x : Int32} (k0 : x = 0 → ng_Go X mi_X8_at d 88 lv st M F) (k1 : x = 1 → ng_Go X mi_X8_at d 96 lv st M F) (kd : ¬ x = 0 → ¬ x = 1 → ng_Go X mi_X8_at d 104 lv st M F) : ng_Go X mi_X8_at d 63 lv (.int x :: st) M F := by
  by_cases h0 : x = 0
  · subst h0
    intro l D cA ad A p e R s m args below meth c cells slots Q C fin H locs ls hP hS hl
    exact lv_lookup (tgt := 88) C.1.1 C.1.2.1 dX8_at_63 (by decide +kernel) rfl (by decide +kernel) (k0 rfl l D cA ad A p e R s m args below meth c cells slots Q C fin H locs ls hP hS hl)
  by_cases h1 : x = 1
  · subst h1
    intro l D cA ad A p e R s m args below meth c cells slots Q C fin H locs ls hP hS hl
    exact lv_lookup (tgt := 96) C.1.1 C.1.2.1 dX8_at_63 (by decide +kernel) rfl (by decide +kernel) (k1 rfl l D cA ad A p e R s m args below meth c cells slots Q C fin H locs ls hP hS hl)
  intro l D cA ad A p e R s m args below meth c cells slots Q C fin H locs ls hP hS hl
  have g0 := lv_neT h0 (show (0 : Int32).toInt = 0 from by decide)
  have g1 := lv_neT h1 (show (1 : Int32).toInt = 1 from by decide)
  refine lv_lookup (tgt := 104) (off := 41) C.1.1 C.1.2.1 dX8_at_63 (by decide +kernel) ?_ (by decide) (kd h0 h1 l D cA ad A p e R s m args below meth c cells slots Q C fin H locs ls hP hS hl)
  show Op.lookupswitch.offset [((0 : Int), (25 : Int)), ((1 : Int), (33 : Int))] _ _ = _
  rw [lv_osw h0 (show (0 : Int32).toInt = 0 from by decide), lv_osw h1 (show (1 : Int32).toInt = 1 from by decide)]
  rfl
theorem c_at {X : Nat × (Nat → Int32)} {M : ng_M} {b t w lf : Int32} (h : ng_I1 M) : ng_EvI X 5 mi_X8_at [.ref 0, .int b, .int t, .int w, .int lf] M (fun r M1 => ng_a8 M (if ok_at (M 74 1) b t w lf then .inr (ng_atv (M 74) b.toNatClampNeg t w lf) else .inl 1) r M1) := by
  refine ng_EvI.of (lv := [some (.ref 0), some (.int b), some (.int t), some (.int w), some (.int lf), none]) (ty := .int) (by decide) (Nat.le_of_ble_eq_true rfl) rfl rfl (fun _ _ _ => rfl) ?_
  have hI := h.1.rl
  obtain ⟨n, hn, hn8⟩ := h.2.wfr.1.1.1
  have e1 : M 2 6 = M 74 1 := hI.1.2.2.1
  refine ng_aload_0 dX8_at_0 ?_
  refine ng_gR dX8_at_1 fl_X8_12 (by first | rfl | assumption) ?_
  refine ng_gR dX8_at_4 fl_X8_21 (by first | rfl | assumption) ?_
  refine ng_iload_1 dX8_at_7 ?_
  refine ng_callV_1x (y2 := mi_X3_isBuyer) dX8_at_8 lk_X8_102 ms_X3_isBuyer my_X3_isBuyer (by first | exact ⟨_, rfl⟩ | assumption | exact ng_fld_obj (f := 0) (by assumption)) mc_X3 (by first | decide | exact Nat.le_of_ble_eq_true rfl) (s_X3_isBuyer) (by decide) ?_
  rw [e1]
  refine ng_ifb_eq 41 dX8_at_11 (by decide +kernel) (fun h11 => ?_) (fun h11 => ?_)
  · refine ng_aload_0 dX8_at_41 ?_
    refine ng_ldc dX8_at_42 kc_X8_65 ?_
    refine ng_callV_1x (y2 := mi_X8_fails) dX8_at_44 lk_X8_66 ms_X8_fails my_X8_fails (by first | exact ⟨_, rfl⟩ | assumption | exact ng_fld_obj (f := 0) (by assumption)) mc_X8 (by first | decide | exact Nat.le_of_ble_eq_true rfl) (s_X8_fails (k := 1) (by decide) (by decide) (by decide)) (by decide) ?_
    exact ng_ireturn dX8_at_47 ⟨_, rfl, by rw [if_neg (by simp_all [ok_at])]; exact ⟨M, fun _ _ => rfl, by decide, rfl⟩⟩
  · refine ng_iload_2 dX8_at_14 ?_
    refine ng_callS_1x (y2 := mi_X8_isStep) dX8_at_15 lk_X8_57 ms_X8_isStep my_X8_isStep (by first | decide | exact Nat.le_of_ble_eq_true rfl) (s_X8_isStep) (by decide) ?_
    refine ng_ifb_eq 41 dX8_at_18 (by decide +kernel) (fun h18 => ?_) (fun h18 => ?_)
    · refine ng_aload_0 dX8_at_41 ?_
      refine ng_ldc dX8_at_42 kc_X8_65 ?_
      refine ng_callV_1x (y2 := mi_X8_fails) dX8_at_44 lk_X8_66 ms_X8_fails my_X8_fails (by first | exact ⟨_, rfl⟩ | assumption | exact ng_fld_obj (f := 0) (by assumption)) mc_X8 (by first | decide | exact Nat.le_of_ble_eq_true rfl) (s_X8_fails (k := 1) (by decide) (by decide) (by decide)) (by decide) ?_
      exact ng_ireturn dX8_at_47 ⟨_, rfl, by rw [if_neg (by simp_all [ok_at])]; exact ⟨M, fun _ _ => rfl, by decide, rfl⟩⟩
    · refine ng_iload_3 dX8_at_21 ?_
      refine ng_iconst_0 dX8_at_22 ?_
      refine ng_iconst_2 dX8_at_23 ?_
      refine ng_callS_3x (y2 := mi_X8_isWithin) dX8_at_24 lk_X8_61 ms_X8_isWithin my_X8_isWithin (by first | decide | exact Nat.le_of_ble_eq_true rfl) (s_X8_isWithin) (by decide) ?_
      refine ng_ifb_eq 41 dX8_at_27 (by decide +kernel) (fun h27 => ?_) (fun h27 => ?_)
      · refine ng_aload_0 dX8_at_41 ?_
        refine ng_ldc dX8_at_42 kc_X8_65 ?_
        refine ng_callV_1x (y2 := mi_X8_fails) dX8_at_44 lk_X8_66 ms_X8_fails my_X8_fails (by first | exact ⟨_, rfl⟩ | assumption | exact ng_fld_obj (f := 0) (by assumption)) mc_X8 (by first | decide | exact Nat.le_of_ble_eq_true rfl) (s_X8_fails (k := 1) (by decide) (by decide) (by decide)) (by decide) ?_
        exact ng_ireturn dX8_at_47 ⟨_, rfl, by rw [if_neg (by simp_all [ok_at])]; exact ⟨M, fun _ _ => rfl, by decide, rfl⟩⟩
      · refine ng_iload_4 dX8_at_30 ?_
        refine ng_iconst_0 dX8_at_32 ?_
        refine ng_bipush (v := 99) dX8_at_33 (by decide) ?_
        refine ng_callS_3x (y2 := mi_X8_isWithin) dX8_at_35 lk_X8_61 ms_X8_isWithin my_X8_isWithin (by first | decide | exact Nat.le_of_ble_eq_true rfl) (s_X8_isWithin) (by decide) ?_
        refine ng_ifb_ne 48 dX8_at_38 (by decide +kernel) (fun h38 => ?_) (fun h38 => ?_)
        · obtain ⟨q1, q2, q3⟩ := ng_vp_n h11 hn hn8
          have ht := (ng_vin h18 (n := 10) (by decide)).1
          have hkk : ok_at (M 74 1) b t w lf = true := by simp [ok_at, h11, h18, h27, h38]
          refine ng_aload_0 dX8_at_48 ?_
          refine ng_gR dX8_at_49 fl_X8_12 (by first | rfl | assumption) ?_
          refine ng_gR dX8_at_52 fl_X8_81 (by first | rfl | assumption) ?_
          refine ng_astore_5 dX8_at_55 (by first | rfl | assumption) ?_
          refine ng_aload_5 dX8_at_57 ?_
          refine ng_callV_0w (y2 := mi_X5_appraise) dX8_at_59 lk_X8_142 ms_X5_appraise my_X5_appraise (by first | exact ⟨_, rfl⟩ | assumption | exact ng_fld_obj (f := 0) (by assumption)) mc_X5 (by first | decide | exact Nat.le_of_ble_eq_true rfl) (s_X5_appA ng_isS15 hI.1 hI.2.1 h.2.Y) (by decide) (fun M2 hf => ?_)
          obtain ⟨f1, f2, f3, f4⟩ := hf
          have f5 := f4 b.toNatClampNeg (by rw [ng_yn_of hn hn8]; exact q2)
          refine ng_iload_3 dX8_at_62 ?_
          refine sw_X8_at_63 (fun h63 => ?_) (fun h63 => ?_) (fun h63n0 h63n1 => ?_)
          · refine ng_aload_5 dX8_at_88 ?_
            refine ng_iload_1 dX8_at_90 ?_
            refine ng_iload_2 dX8_at_91 ?_
            refine ng_callV_2x (y2 := mi_X5_worth) dX8_at_92 lk_X8_145 ms_X5_worth my_X5_worth (by first | exact ⟨_, rfl⟩ | assumption | exact ng_fld_obj (f := 0) (by assumption)) mc_X5 (by first | decide | exact Nat.le_of_ble_eq_true rfl) (s_X5_worthA ng_isS15 f2 f3 q3 (by omega) f5) (by decide) ?_
            exact ng_ireturn dX8_at_95 ⟨_, rfl, by rw [if_pos hkk, ng_atv, if_pos h63]; exact ⟨M2, ng_out.of f1 (by decide), rfl, rfl⟩⟩
          · refine ng_aload_5 dX8_at_96 ?_
            refine ng_iload_1 dX8_at_98 ?_
            refine ng_iload_2 dX8_at_99 ?_
            refine ng_callV_2x (y2 := mi_X5_due) dX8_at_100 lk_X8_149 ms_X5_due my_X5_due (by first | exact ⟨_, rfl⟩ | assumption | exact ng_fld_obj (f := 0) (by assumption)) mc_X5 (by first | decide | exact Nat.le_of_ble_eq_true rfl) (s_X5_dueA ng_isS15 f2 q3 (by omega) ht) (by decide) ?_
            exact ng_ireturn dX8_at_103 ⟨_, rfl, by rw [if_pos hkk, ng_atv, if_neg (by rw [h63]; decide), if_pos h63]; exact ⟨M2, ng_out.of f1 (by decide), rfl, rfl⟩⟩
          · refine ng_aload_5 dX8_at_104 ?_
            refine ng_iload_1 dX8_at_106 ?_
            refine ng_iload_2 dX8_at_107 ?_
            refine ng_iload_4 dX8_at_108 ?_
            refine ng_callV_3x (y2 := mi_X5_buys) dX8_at_110 lk_X8_152 ms_X5_buys my_X5_buys (by first | exact ⟨_, rfl⟩ | assumption | exact ng_fld_obj (f := 0) (by assumption)) mc_X5 (by first | decide | exact Nat.le_of_ble_eq_true rfl) (s_X5_buysA ng_isS15 f2 f3 q3 (by omega) ht f5) (by decide) ?_
            exact ng_ireturn dX8_at_113 ⟨_, rfl, by rw [if_pos hkk, ng_atv, if_neg h63n0, if_neg h63n1]; exact ⟨M2, ng_out.of f1 (by decide), rfl, rfl⟩⟩
        · refine ng_aload_0 dX8_at_41 ?_
          refine ng_ldc dX8_at_42 kc_X8_65 ?_
          refine ng_callV_1x (y2 := mi_X8_fails) dX8_at_44 lk_X8_66 ms_X8_fails my_X8_fails (by first | exact ⟨_, rfl⟩ | assumption | exact ng_fld_obj (f := 0) (by assumption)) mc_X8 (by first | decide | exact Nat.le_of_ble_eq_true rfl) (s_X8_fails (k := 1) (by decide) (by decide) (by decide)) (by decide) ?_
          exact ng_ireturn dX8_at_47 ⟨_, rfl, by rw [if_neg (by simp_all [ok_at])]; exact ⟨M, fun _ _ => rfl, by decide, rfl⟩⟩
theorem r_at {X : Nat × (Nat → Int32)} {M : ng_M} {b t w lf : Int32} (h : ng_ok (M 74)) : ng_EvI X 7 mi_X9_at [.ref 73, .int b, .int t, .int w, .int lf] M (fun r M1 => ng_a9 M (if ok_at (M 74 1) b t w lf then .inr (ng_atv (M 74) b.toNatClampNeg t w lf) else .inl 1) r M1) := by
  refine ng_EvI.of (lv := [some (.ref 73), some (.int b), some (.int t), some (.int w), some (.int lf)]) (ty := .int) (by decide) (Nat.le_of_ble_eq_true rfl) rfl rfl (fun _ _ _ => rfl) ?_
  obtain ⟨n, hn, hn8⟩ := h.wfr.1.1.1
  refine ng_aload_0 dX9_at_0 ?_
  refine ng_iload_1 dX9_at_1 ?_
  refine ng_callV_1x (y2 := mi_X9_is) dX9_at_2 lk_X9_105 ms_X9_is my_X9_is (by first | exact ⟨_, rfl⟩ | assumption | exact ng_fld_obj (f := 0) (by assumption)) mc_X9 (by first | decide | exact Nat.le_of_ble_eq_true rfl) (s_X9_is) (by decide) ?_
  refine ng_ifb_eq 35 dX9_at_5 (by decide +kernel) (fun h5 => ?_) (fun h5 => ?_)
  · refine ng_aload_0 dX9_at_35 ?_
    refine ng_ldc dX9_at_36 kc_X9_91 ?_
    refine ng_callV_1x (y2 := mi_X9_finding) dX9_at_38 lk_X9_92 ms_X9_finding my_X9_finding (by first | exact ⟨_, rfl⟩ | assumption | exact ng_fld_obj (f := 0) (by assumption)) mc_X9 (by first | decide | exact Nat.le_of_ble_eq_true rfl) (s_X9_finding (k := 1) (by decide) (by decide) (by decide)) (by decide) ?_
    exact ng_ireturn dX9_at_41 ⟨_, rfl, by rw [if_neg (by simp_all [ok_at])]; exact ⟨M, ng_rout.rf, by decide, rfl⟩⟩
  · refine ng_iload_2 dX9_at_8 ?_
    refine ng_callS_1x (y2 := mi_X9_isStep) dX9_at_9 lk_X9_84 ms_X9_isStep my_X9_isStep (by first | decide | exact Nat.le_of_ble_eq_true rfl) (s_X9_isStep) (by decide) ?_
    refine ng_ifb_eq 35 dX9_at_12 (by decide +kernel) (fun h12 => ?_) (fun h12 => ?_)
    · refine ng_aload_0 dX9_at_35 ?_
      refine ng_ldc dX9_at_36 kc_X9_91 ?_
      refine ng_callV_1x (y2 := mi_X9_finding) dX9_at_38 lk_X9_92 ms_X9_finding my_X9_finding (by first | exact ⟨_, rfl⟩ | assumption | exact ng_fld_obj (f := 0) (by assumption)) mc_X9 (by first | decide | exact Nat.le_of_ble_eq_true rfl) (s_X9_finding (k := 1) (by decide) (by decide) (by decide)) (by decide) ?_
      exact ng_ireturn dX9_at_41 ⟨_, rfl, by rw [if_neg (by simp_all [ok_at])]; exact ⟨M, ng_rout.rf, by decide, rfl⟩⟩
    · refine ng_iload_3 dX9_at_15 ?_
      refine ng_iconst_0 dX9_at_16 ?_
      refine ng_iconst_2 dX9_at_17 ?_
      refine ng_callS_3x (y2 := mi_X9_within) dX9_at_18 lk_X9_80 ms_X9_within my_X9_within (by first | decide | exact Nat.le_of_ble_eq_true rfl) (s_X9_within) (by decide) ?_
      refine ng_ifb_eq 35 dX9_at_21 (by decide +kernel) (fun h21 => ?_) (fun h21 => ?_)
      · refine ng_aload_0 dX9_at_35 ?_
        refine ng_ldc dX9_at_36 kc_X9_91 ?_
        refine ng_callV_1x (y2 := mi_X9_finding) dX9_at_38 lk_X9_92 ms_X9_finding my_X9_finding (by first | exact ⟨_, rfl⟩ | assumption | exact ng_fld_obj (f := 0) (by assumption)) mc_X9 (by first | decide | exact Nat.le_of_ble_eq_true rfl) (s_X9_finding (k := 1) (by decide) (by decide) (by decide)) (by decide) ?_
        exact ng_ireturn dX9_at_41 ⟨_, rfl, by rw [if_neg (by simp_all [ok_at])]; exact ⟨M, ng_rout.rf, by decide, rfl⟩⟩
      · refine ng_iload_4 dX9_at_24 ?_
        refine ng_iconst_0 dX9_at_26 ?_
        refine ng_bipush (v := 99) dX9_at_27 (by decide) ?_
        refine ng_callS_3x (y2 := mi_X9_within) dX9_at_29 lk_X9_80 ms_X9_within my_X9_within (by first | decide | exact Nat.le_of_ble_eq_true rfl) (s_X9_within) (by decide) ?_
        refine ng_ifb_ne 42 dX9_at_32 (by decide +kernel) (fun h32 => ?_) (fun h32 => ?_)
        · obtain ⟨q1, q2, q3⟩ := ng_vp_n h5 hn hn8
          have ht := (ng_vin h12 (n := 10) (by decide)).1
          have hlf := ng_inT.mp h32
          rw [ng_0] at hlf
          have hkk : ok_at (M 74 1) b t w lf = true := by simp [ok_at, h5, h12, h21, h32]
          refine ng_iload_3 dX9_at_42 ?_
          refine ng_if_ne 55 dX9_at_43 (by decide +kernel) (fun h43 => ?_) (fun h43 => ?_)
          · refine ng_iload_3 dX9_at_55 ?_
            refine ng_iconst_1 dX9_at_56 ?_
            refine ng_icmp_ne 69 dX9_at_57 (by decide +kernel) (fun h57 => ?_) (fun h57 => ?_)
            · refine ng_aload_0 dX9_at_69 ?_
              refine ng_iload_1 dX9_at_70 ?_
              refine ng_iload_2 dX9_at_71 ?_
              refine ng_iload_4 dX9_at_72 ?_
              refine ng_callV_3i (y2 := mi_X9_buysOf) dX9_at_74 lk_X9_135 ms_X9_buysOf my_X9_buysOf (by first | exact ⟨_, rfl⟩ | assumption | exact ng_fld_obj (f := 0) (by assumption)) mc_X9 (by first | decide | exact Nat.le_of_ble_eq_true rfl) (s_X9_buysOf h.wfr q3 (by omega) ht hlf.1) (by decide) (fun v M2 hv => ?_)
              exact ng_ireturn dX9_at_77 ⟨_, rfl, by
  rw [if_pos hkk, ng_atv]
  first
  | (rw [if_pos h43]; exact ⟨M2, ng_rout.of hv.2 (by decide) (by decide), hv.1, rfl⟩)
  | (rw [if_neg h43, if_pos h57]; exact ⟨M, ng_rout.rf, rfl, rfl⟩)
  | (rw [if_neg h43, if_neg h57]; exact ⟨M2, ng_rout.of hv.2 (by decide) (by decide), hv.1, rfl⟩)⟩
            · refine ng_aload_0 dX9_at_60 ?_
              refine ng_iload_1 dX9_at_61 ?_
              refine ng_iload_2 dX9_at_62 ?_
              refine ng_callV_2x (y2 := mi_X9_dueOf) dX9_at_63 lk_X9_126 ms_X9_dueOf my_X9_dueOf (by first | exact ⟨_, rfl⟩ | assumption | exact ng_fld_obj (f := 0) (by assumption)) mc_X9 (by first | decide | exact Nat.le_of_ble_eq_true rfl) (s_X9_dueOf q3 (by omega) ht) (by decide) ?_
              refine ng_goto 77 dX9_at_66 (by decide +kernel) ?_
              exact ng_ireturn dX9_at_77 ⟨_, rfl, by
  rw [if_pos hkk, ng_atv]
  first
  | (rw [if_pos h43]; exact ⟨M2, ng_rout.of hv.2 (by decide) (by decide), hv.1, rfl⟩)
  | (rw [if_neg h43, if_pos h57]; exact ⟨M, ng_rout.rf, rfl, rfl⟩)
  | (rw [if_neg h43, if_neg h57]; exact ⟨M2, ng_rout.of hv.2 (by decide) (by decide), hv.1, rfl⟩)⟩
          · refine ng_aload_0 dX9_at_46 ?_
            refine ng_iload_1 dX9_at_47 ?_
            refine ng_iload_2 dX9_at_48 ?_
            refine ng_callV_2i (y2 := mi_X9_worthOf) dX9_at_49 lk_X9_129 ms_X9_worthOf my_X9_worthOf (by first | exact ⟨_, rfl⟩ | assumption | exact ng_fld_obj (f := 0) (by assumption)) mc_X9 (by first | decide | exact Nat.le_of_ble_eq_true rfl) (s_X9_worthOf h.wfr.1 q3 (by omega)) (by decide) (fun v M2 hv => ?_)
            refine ng_goto 77 dX9_at_52 (by decide +kernel) ?_
            exact ng_ireturn dX9_at_77 ⟨_, rfl, by
  rw [if_pos hkk, ng_atv]
  first
  | (rw [if_pos h43]; exact ⟨M2, ng_rout.of hv.2 (by decide) (by decide), hv.1, rfl⟩)
  | (rw [if_neg h43, if_pos h57]; exact ⟨M, ng_rout.rf, rfl, rfl⟩)
  | (rw [if_neg h43, if_neg h57]; exact ⟨M2, ng_rout.of hv.2 (by decide) (by decide), hv.1, rfl⟩)⟩
        · refine ng_aload_0 dX9_at_35 ?_
          refine ng_ldc dX9_at_36 kc_X9_91 ?_
          refine ng_callV_1x (y2 := mi_X9_finding) dX9_at_38 lk_X9_92 ms_X9_finding my_X9_finding (by first | exact ⟨_, rfl⟩ | assumption | exact ng_fld_obj (f := 0) (by assumption)) mc_X9 (by first | decide | exact Nat.le_of_ble_eq_true rfl) (s_X9_finding (k := 1) (by decide) (by decide) (by decide)) (by decide) ?_
          exact ng_ireturn dX9_at_41 ⟨_, rfl, by rw [if_neg (by simp_all [ok_at])]; exact ⟨M, ng_rout.rf, by decide, rfl⟩⟩
theorem pr_at {X : Nat × (Nat → Int32)} {M : ng_M} {b t w lf : Int32} (h : ng_inv M) : ng_pair X mi_X8_at mi_X9_at [.int b, .int t, .int w, .int lf] M :=
  ng_pair.A h (c_at h.1) (by decide) (d9 := 7) (by decide) (fun M1 e => by rw [← e 74 (by decide)]; exact r_at (by rw [e 74 (by decide)]; exact h.1.2))
/-! check -/
def ng_unl (W bo : Nat → Int32) (K : Nat) : Nat → Nat → Int32
  | 0, k => if K = k then 0 else nI (1 + k)
  | m + 1, k => if k < K ∧ W k = bo k then ng_unl W bo K m (k + 1) else nI (1 + k)
theorem ng_nI_le {i n : Nat} (hi : i < 1000) (hn : n < 1000) : nI i ≤ nI n ↔ i ≤ n := by
  rw [ng_le, nI_toInt (by omega), nI_toInt (by omega)]
  omega
theorem ng_nI_inj {i n : Nat} (h : nI i = nI n) (hi : i < 1000) (hn : n < 1000) : i = n := by
  have := congrArg Int32.toInt h
  rw [nI_toInt (by omega), nI_toInt (by omega)] at this
  omega
theorem ng_yon0 {a : ng_R} (h : ng_okY a) : ng_yon a 0 = a 5 + a 4 := by
  have f := (ng_yon_bd (b := 0) h.wfr.2 (by decide) (by decide)).1
  obtain ⟨g1, g2⟩ := ng_pots h
  rw [ng_0] at f
  apply ng_i_eq
  rw [f, g1]
  omega
abbrev ng_bt (a : ng_R) (t : Int32) (j : Nat) : Int32 := ng_ybo a t ng_all j (ng_lf (ng_ybo a t ng_all) (ng_yon a 0) j)
theorem ng_bt_sub {a : ng_R} {t : Int32} {j : Nat} (h : ng_okY a) (hj : j < 8) : ng_lf (ng_ybo a t ng_all) (ng_yon a 0) j - ng_bt a t j = ng_lf (ng_ybo a t ng_all) (ng_yon a 0) (j + 1) := by
  have h0 : 0 ≤ (ng_yon a 0).toInt := by rw [ng_yon0 h]; exact (ng_pots h).2
  have hb := h.wfr.2
  have l1 := ng_lf_bd (t := t) (cm := ng_all) hb h0 j (by omega)
  have b1 := ng_ybo_bd (t := t) (cm := ng_all) (i := j) (lf := ng_lf (ng_ybo a t ng_all) (ng_yon a 0) j) hb hj l1.1
  show _ = (if ng_bt a t j ≤ 0 then _ else _)
  split
  · rename_i q
    rw [ng_le, ng_0] at q
    have e : ng_bt a t j = 0 := by apply ng_i_eq; rw [ng_0]; have b2 := b1.1; change 0 ≤ (ng_bt a t j).toInt at b2; omega
    rw [e, Int32.sub_zero]
  · rfl
theorem l_X8_firstUnlike {X : Nat × (Nat → Int32)} {M : ng_M} {a : ng_R} {t : Int32} {n K : Nat} (hr : ng_rl M a) (hv : ng_sv M 15 a) (hok : ng_okY a) (ht : vp_in t 10) (hp : ∀ j, j < n → M 17 j = ng_ypl a j) (hw : ∀ j, j < 20 → M 19 j = a (103 + j)) (hn8 : n ≤ 8) (hK : K ≤ 20) : ∀ (m i : Nat) (x7 : Option Value), i + m = n → i ≤ K →
    ng_Go X mi_X8_firstUnlike 5 33 [some (.ref 0), some (.int t), some (.int (nI K)), some (.ref 15), some (.int (ng_lf (ng_ybo a t ng_all) (ng_yon a 0) i)), some (.int (nI n)), some (.int (nI i)), x7] [] M (fun r' M' => ∃ v, r' = some (.int v) ∧ v = ng_unl (fun j => a (103 + j)) (ng_bt a t) K m i ∧ M' = M) := by
  intro m
  induction m with
  | zero =>
    intro i x7 hi hik
    have hi2 : i = n := by omega
    subst hi2
    refine ng_iload_6 dX8_firstUnlike_33 ?_
    refine ng_iload_5 dX8_firstUnlike_35 ?_
    refine ng_icmp_ge 90 dX8_firstUnlike_37 (by decide +kernel) (fun h37 => ?_) (fun h37 => ?_)
    · refine ng_iload_2 dX8_firstUnlike_90 ?_
      refine ng_iload_5 dX8_firstUnlike_91 ?_
      refine ng_icmp_le 103 dX8_firstUnlike_93 (by decide +kernel) (fun h93 => ?_) (fun h93 => ?_)
      · refine ng_iconst_0 dX8_firstUnlike_103 ?_
        exact ng_ireturn dX8_firstUnlike_104 ⟨_, rfl, by
  rw [ng_nI_le (by omega) (by omega)] at h93
  rw [ng_unl]
  first
  | rw [if_pos (by omega)]
  | (rw [if_neg (by omega)]; exact nI_add 1 i), rfl⟩
      · refine ng_iconst_1 dX8_firstUnlike_96 ?_
        refine ng_iload_5 dX8_firstUnlike_97 ?_
        refine ng_iadd dX8_firstUnlike_99 ?_
        refine ng_goto 104 dX8_firstUnlike_100 (by decide +kernel) ?_
        exact ng_ireturn dX8_firstUnlike_104 ⟨_, rfl, by
  rw [ng_nI_le (by omega) (by omega)] at h93
  rw [ng_unl]
  first
  | rw [if_pos (by omega)]
  | (rw [if_neg (by omega)]; exact nI_add 1 i), rfl⟩
    · exact absurd (Int32.le_refl _) h37
  | succ m ih =>
    intro i x7 hi hik
    have hvi : vp_in (nI i) 20 := vp_in_nI (by omega) (by omega)
    refine ng_iload_6 dX8_firstUnlike_33 ?_
    refine ng_iload_5 dX8_firstUnlike_35 ?_
    refine ng_icmp_ge 90 dX8_firstUnlike_37 (by decide +kernel) (fun h37 => ?_) (fun h37 => ?_)
    · exact absurd h37 (nI_ge (by omega) (by omega))
    · refine ng_aload_3 dX8_firstUnlike_40 ?_
      refine ng_iload_6 dX8_firstUnlike_41 ?_
      refine ng_iload_1 dX8_firstUnlike_43 ?_
      refine ng_iload_4 dX8_firstUnlike_44 ?_
      refine ng_callV_3x (y2 := mi_X5_buys) dX8_firstUnlike_46 lk_X8_152 ms_X5_buys my_X5_buys (by first | exact ⟨_, rfl⟩ | assumption | exact ng_fld_obj (f := 0) (by assumption)) mc_X5 (by first | decide | exact Nat.le_of_ble_eq_true rfl) (s_X5_buysA ng_isS15 hr hv rfl (by omega) ht (hp i (by omega))) (by decide) ?_
      refine ng_istore_7 dX8_firstUnlike_49 (by first | rfl | assumption) ?_
      refine ng_iload_6 dX8_firstUnlike_51 ?_
      refine ng_iload_2 dX8_firstUnlike_53 ?_
      refine ng_icmp_ge 72 dX8_firstUnlike_54 (by decide +kernel) (fun h54 => ?_) (fun h54 => ?_)
      · refine ng_iconst_1 dX8_firstUnlike_72 ?_
        refine ng_iload_6 dX8_firstUnlike_73 ?_
        refine ng_iadd dX8_firstUnlike_75 ?_
        exact ng_ireturn dX8_firstUnlike_76 ⟨_, rfl, by
  rw [ng_nI_le (by omega) (by omega)] at h54
  rw [ng_unl]
  first
  | (rw [if_neg (fun q => by omega)]; exact nI_add 1 i)
  | (rw [if_neg (fun q => h69 q.2)]; exact nI_add 1 i), rfl⟩
      · refine ng_aload_0 dX8_firstUnlike_57 ?_
        refine ng_gR dX8_firstUnlike_58 fl_X8_12 (by first | rfl | assumption) ?_
        refine ng_gR dX8_firstUnlike_61 fl_X8_297 (by first | rfl | assumption) ?_
        refine ng_iload_6 dX8_firstUnlike_64 ?_
        refine ng_ialdL (j := i) dX8_firstUnlike_66 (by first | rfl | assumption) (by first | assumption | (unfold vp_in; decide)) (by first | assumption | exact nI_clamp (by omega)) ?_
        refine ng_iload_7 dX8_firstUnlike_67 ?_
        rw [hw i (by omega)]
        refine ng_icmp_eq 77 dX8_firstUnlike_69 (by decide +kernel) (fun h69 => ?_) (fun h69 => ?_)
        · refine ng_iload_4 dX8_firstUnlike_77 ?_
          refine ng_iload_7 dX8_firstUnlike_79 ?_
          refine ng_isub dX8_firstUnlike_81 ?_
          refine ng_istore_4 dX8_firstUnlike_82 (by first | rfl | assumption) ?_
          refine ng_iinc_6 (w := 1) dX8_firstUnlike_84 (by decide) rfl ?_
          refine ng_goto 33 dX8_firstUnlike_87 (by decide +kernel) ?_
          rw [ng_nI_le (by omega) (by omega)] at h54
          rw [ng_unl, if_pos ⟨by omega, h69⟩, nI_1]
          have z := ih (i + 1) (some (.int (ng_bt a t i))) (by omega) (by omega)
          rw [← ng_bt_sub hok (by omega)] at z
          exact z
        · refine ng_iconst_1 dX8_firstUnlike_72 ?_
          refine ng_iload_6 dX8_firstUnlike_73 ?_
          refine ng_iadd dX8_firstUnlike_75 ?_
          exact ng_ireturn dX8_firstUnlike_76 ⟨_, rfl, by
  rw [ng_nI_le (by omega) (by omega)] at h54
  rw [ng_unl]
  first
  | (rw [if_neg (fun q => by omega)]; exact nI_add 1 i)
  | (rw [if_neg (fun q => h69 q.2)]; exact nI_add 1 i), rfl⟩
theorem s_X8_firstUnlike {X : Nat × (Nat → Int32)} {M : ng_M} {a : ng_R} {t k : Int32} {n K : Nat} (hr : ng_rl M a) (hv : ng_sv M 15 a) (hok : ng_okY a) (ht : vp_in t 10) (hw : ∀ j, j < 20 → M 19 j = a (103 + j)) (hn : a 1 = nI n) (hn8 : n ≤ 8) (hk : k = nI K) (hK : K ≤ 20) : ng_EvI X 5 mi_X8_firstUnlike [.ref 0, .int t, .int k] M (fun r M1 => r = ng_unl (fun j => a (103 + j)) (ng_bt a t) K n 0 ∧ ng_off [9, 10, 17] M M1) := by
  refine ng_EvI.of (lv := [some (.ref 0), some (.int t), some (.int k), none, none, none, none, none]) (ty := .int) (by decide) (Nat.le_of_ble_eq_true rfl) rfl rfl (fun _ _ _ => rfl) ?_
  subst hk
  refine ng_aload_0 dX8_firstUnlike_0 ?_
  refine ng_gR dX8_firstUnlike_1 fl_X8_12 (by first | rfl | assumption) ?_
  refine ng_gR dX8_firstUnlike_4 fl_X8_81 (by first | rfl | assumption) ?_
  refine ng_astore_3 dX8_firstUnlike_7 (by first | rfl | assumption) ?_
  refine ng_aload_3 dX8_firstUnlike_8 ?_
  refine ng_callV_0w (y2 := mi_X5_appraise) dX8_firstUnlike_9 lk_X8_142 ms_X5_appraise my_X5_appraise (by first | exact ⟨_, rfl⟩ | assumption | exact ng_fld_obj (f := 0) (by assumption)) mc_X5 (by first | decide | exact Nat.le_of_ble_eq_true rfl) (s_X5_appA ng_isS15 hr hv hok) (by decide) (fun M2 hf => ?_)
  obtain ⟨f1, f2, f3, f4⟩ := hf
  rw [ng_yn_of hn hn8] at f4
  have e19 : M2 19 = M 19 := f1 19 (by decide)
  have e26 : M2 2 6 = nI n := f2.2.2.1.trans hn
  refine ng_aload_3 dX8_firstUnlike_12 ?_
  refine ng_callV_0x (y2 := mi_X5_pots) dX8_firstUnlike_13 lk_X8_303 ms_X5_pots my_X5_pots (by first | exact ⟨_, rfl⟩ | assumption | exact ng_fld_obj (f := 0) (by assumption)) mc_X5 (by first | decide | exact Nat.le_of_ble_eq_true rfl) ((s_X5_pots ng_isS15).cast (by rw [f3.2.2.2.2.1, f3.2.2.2.1, ← ng_yon0 hok]) rfl) (by decide) ?_
  refine ng_istore_4 dX8_firstUnlike_16 (by first | rfl | assumption) ?_
  refine ng_aload_0 dX8_firstUnlike_18 ?_
  refine ng_gR dX8_firstUnlike_19 fl_X8_12 (by first | rfl | assumption) ?_
  refine ng_gR dX8_firstUnlike_22 fl_X8_21 (by first | rfl | assumption) ?_
  refine ng_gI dX8_firstUnlike_25 fl_X8_239 (by first | rfl | assumption) ?_
  rw [e26]
  refine ng_istore_5 dX8_firstUnlike_28 (by first | rfl | assumption) ?_
  refine ng_iconst_0 dX8_firstUnlike_30 ?_
  refine ng_istore_6 dX8_firstUnlike_31 (by first | rfl | assumption) ?_
  refine (l_X8_firstUnlike f2 f3 hok ht f4 (fun j hj => by rw [e19]; exact hw j hj) hn8 hK n 0 _ (by omega) (by omega)).imp (fun r M3 q => ?_)
  obtain ⟨v, q1, q2, q3⟩ := q
  exact ⟨v, q1, q2, by rw [q3]; exact f1⟩
def ng_chk (a : ng_R) (K : Nat) (t : Int32) : Nat ⊕ Int32 := if ng_in t 0 9 then .inr (ng_unl (fun j => a (103 + j)) (ng_bt a t) K (ng_yn a) 0) else .inl 1
theorem c_check {X : Nat × (Nat → Int32)} {M : ng_M} {t : Int32} {K : Nat} (h : ng_I1 M) (hK : M 74 9 = nI K) (hK20 : K ≤ 20) : ng_EvI X 6 mi_X8_check [.ref 0, .int t] M (fun r M1 => ng_a8 (ng_row M 1 (upd (M 1) 5 0)) (ng_chk (upd (M 74) 9 0) K t) r M1) := by
  refine ng_EvI.of (lv := [some (.ref 0), some (.int t), none]) (ty := .int) (by decide) (Nat.le_of_ble_eq_true rfl) rfl rfl (fun _ _ _ => rfl) ?_
  have hrep : ng_rep (ng_row M 1 (upd (M 1) 5 0)) 1 (upd (M 74) 9 0) := ng_rset h.1 (by decide) (fun k hk => (ng_loc_w k hk).2.2.1) (by decide)
  have hok : ng_ok (upd (M 74) 9 0) := h.2.upd (by decide) (by decide) (by decide)
  have hI := hrep.rl
  obtain ⟨n, hn, hn8⟩ := hok.wfr.1.1.1
  have e5 : M 1 5 = nI K := h.1.rl.2.2.2.2.1.trans hK
  unfold ng_chk
  rw [ng_yn_of hn hn8]
  refine ng_aload_0 dX8_check_0 ?_
  refine ng_gR dX8_check_1 fl_X8_12 (by first | rfl | assumption) ?_
  refine ng_gI dX8_check_4 fl_X8_294 (by first | rfl | assumption) ?_
  rw [e5]
  refine ng_istore_2 dX8_check_7 (by first | rfl | assumption) ?_
  refine ng_aload_0 dX8_check_8 ?_
  refine ng_gR dX8_check_9 fl_X8_12 (by first | rfl | assumption) ?_
  refine ng_iconst_0 dX8_check_12 ?_
  refine ng_pI dX8_check_13 fp_X8_294 (by first | rfl | assumption) rfl rfl ?_
  refine ng_iload_1 dX8_check_16 ?_
  refine ng_callS_1x (y2 := mi_X8_isStep) dX8_check_17 lk_X8_57 ms_X8_isStep my_X8_isStep (by first | decide | exact Nat.le_of_ble_eq_true rfl) (s_X8_isStep) (by decide) ?_
  refine ng_ifb_eq 32 dX8_check_20 (by decide +kernel) (fun h20 => ?_) (fun h20 => ?_)
  · refine ng_aload_0 dX8_check_32 ?_
    refine ng_ldc dX8_check_33 kc_X8_65 ?_
    refine ng_callV_1x (y2 := mi_X8_fails) dX8_check_35 lk_X8_66 ms_X8_fails my_X8_fails (by first | exact ⟨_, rfl⟩ | assumption | exact ng_fld_obj (f := 0) (by assumption)) mc_X8 (by first | decide | exact Nat.le_of_ble_eq_true rfl) (s_X8_fails (k := 1) (by decide) (by decide) (by decide)) (by decide) ?_
    exact ng_ireturn dX8_check_38 ⟨_, rfl, by
  first
  | (rw [if_pos h20]; exact ⟨M2, ng_out.of hf.2 (by decide), hf.1, rfl⟩)
  | (rw [if_neg (by rw [h20]; decide)]; exact ⟨_, ng_out.rf, by decide, rfl⟩)⟩
  · refine ng_aload_0 dX8_check_23 ?_
    refine ng_iload_1 dX8_check_24 ?_
    refine ng_iload_2 dX8_check_25 ?_
    refine ng_callV_2i (y2 := mi_X8_firstUnlike) dX8_check_26 lk_X8_300 ms_X8_firstUnlike my_X8_firstUnlike (by first | exact ⟨_, rfl⟩ | assumption | exact ng_fld_obj (f := 0) (by assumption)) mc_X8 (by first | decide | exact Nat.le_of_ble_eq_true rfl) (s_X8_firstUnlike hI.1 hI.2.1 hok.Y (ng_vin h20 (n := 10) (by decide)).1 hI.2.2.2.2.2.2.2 hn hn8 rfl hK20) (by decide) (fun v M2 hf => ?_)
    refine ng_goto 38 dX8_check_29 (by decide +kernel) ?_
    exact ng_ireturn dX8_check_38 ⟨_, rfl, by
  first
  | (rw [if_pos h20]; exact ⟨M2, ng_out.of hf.2 (by decide), hf.1, rfl⟩)
  | (rw [if_neg (by rw [h20]; decide)]; exact ⟨_, ng_out.rf, by decide, rfl⟩)⟩
theorem l_X9_check {X : Nat × (Nat → Int32)} {M : ng_M} {bo : Nat → Int32} {t : Int32} {n K : Nat} {x3 : Int32} (hn : M 74 1 = nI n) (hn8 : n ≤ 8) (hK : K ≤ 20) (hb : ∀ j, j < n → M 83 j = bo j) : ∀ (m i : Nat), i + m = n →
    ng_Go X mi_X9_check 8 63 [some (.ref 73), some (.int t), some (.int (nI K)), some (.int x3), some (.int (nI i))] [] M (fun r' M' => ∃ v, r' = some (.int v) ∧ v = ng_unl (fun j => M 74 (103 + j)) bo K m i ∧ M' = M) := by
  intro m
  induction m with
  | zero =>
    intro i hi
    have hi2 : i = n := by omega
    subst hi2
    refine ng_iload_4 dX9_check_63 ?_
    refine ng_iload_2 dX9_check_65 ?_
    refine ng_icmp_ge 106 dX9_check_66 (by decide +kernel) (fun h66 => ?_) (fun h66 => ?_)
    · refine ng_iload_4 dX9_check_106 ?_
      refine ng_iload_2 dX9_check_108 ?_
      refine ng_icmp_ne 127 dX9_check_109 (by decide +kernel) (fun h109 => ?_) (fun h109 => ?_)
      · refine ng_iconst_1 dX9_check_127 ?_
        refine ng_iload_4 dX9_check_128 ?_
        refine ng_iadd dX9_check_130 ?_
        exact ng_ireturn dX9_check_131 ⟨_, rfl, by
  rw [ng_unl]
  first
  | (rw [if_pos (ng_nI_inj h109 (by omega) (by omega)).symm]; done)
  | (rw [if_neg (fun q => h109 (by rw [q]))]; exact nI_add 1 i), rfl⟩
      · refine ng_iload_4 dX9_check_112 ?_
        refine ng_aload_0 dX9_check_114 ?_
        refine ng_gR dX9_check_115 fl_X9_9 (by first | rfl | assumption) ?_
        refine ng_iconst_1 dX9_check_118 ?_
        refine ng_ialdL (j := 1) dX9_check_119 (by first | rfl | assumption) (by first | assumption | (unfold vp_in; decide)) (by decide) ?_
        refine ng_icmp_ne 127 dX9_check_120 (by decide +kernel) (fun h120 => ?_) (fun h120 => ?_)
        · exact absurd hn.symm h120
        · refine ng_iconst_0 dX9_check_123 ?_
          refine ng_goto 131 dX9_check_124 (by decide +kernel) ?_
          exact ng_ireturn dX9_check_131 ⟨_, rfl, by
  rw [ng_unl]
  first
  | (rw [if_pos (ng_nI_inj h109 (by omega) (by omega)).symm]; done)
  | (rw [if_neg (fun q => h109 (by rw [q]))]; exact nI_add 1 i), rfl⟩
    · refine ng_iload_4 dX9_check_69 ?_
      refine ng_aload_0 dX9_check_71 ?_
      refine ng_gR dX9_check_72 fl_X9_9 (by first | rfl | assumption) ?_
      refine ng_iconst_1 dX9_check_75 ?_
      refine ng_ialdL (j := 1) dX9_check_76 (by first | rfl | assumption) (by first | assumption | (unfold vp_in; decide)) (by decide) ?_
      refine ng_icmp_ge 106 dX9_check_77 (by decide +kernel) (fun h77 => ?_) (fun h77 => ?_)
      · refine ng_iload_4 dX9_check_106 ?_
        refine ng_iload_2 dX9_check_108 ?_
        refine ng_icmp_ne 127 dX9_check_109 (by decide +kernel) (fun h109 => ?_) (fun h109 => ?_)
        · refine ng_iconst_1 dX9_check_127 ?_
          refine ng_iload_4 dX9_check_128 ?_
          refine ng_iadd dX9_check_130 ?_
          exact ng_ireturn dX9_check_131 ⟨_, rfl, by
  rw [ng_unl]
  first
  | (rw [if_pos (ng_nI_inj h109 (by omega) (by omega)).symm]; done)
  | (rw [if_neg (fun q => h109 (by rw [q]))]; exact nI_add 1 i), rfl⟩
        · refine ng_iload_4 dX9_check_112 ?_
          refine ng_aload_0 dX9_check_114 ?_
          refine ng_gR dX9_check_115 fl_X9_9 (by first | rfl | assumption) ?_
          refine ng_iconst_1 dX9_check_118 ?_
          refine ng_ialdL (j := 1) dX9_check_119 (by first | rfl | assumption) (by first | assumption | (unfold vp_in; decide)) (by decide) ?_
          refine ng_icmp_ne 127 dX9_check_120 (by decide +kernel) (fun h120 => ?_) (fun h120 => ?_)
          · exact absurd hn.symm h120
          · refine ng_iconst_0 dX9_check_123 ?_
            refine ng_goto 131 dX9_check_124 (by decide +kernel) ?_
            exact ng_ireturn dX9_check_131 ⟨_, rfl, by
  rw [ng_unl]
  first
  | (rw [if_pos (ng_nI_inj h109 (by omega) (by omega)).symm]; done)
  | (rw [if_neg (fun q => h109 (by rw [q]))]; exact nI_add 1 i), rfl⟩
      · exact absurd (by rw [hn]; exact Int32.le_refl _) h77
  | succ m ih =>
    intro i hi
    have hx : 103 + nI i = nI (103 + i) := nI_add 103 i
    have hvi : vp_in (nI i) 8 := vp_in_nI (by omega) (by omega)
    refine ng_iload_4 dX9_check_63 ?_
    refine ng_iload_2 dX9_check_65 ?_
    refine ng_icmp_ge 106 dX9_check_66 (by decide +kernel) (fun h66 => ?_) (fun h66 => ?_)
    · refine ng_iload_4 dX9_check_106 ?_
      refine ng_iload_2 dX9_check_108 ?_
      refine ng_icmp_ne 127 dX9_check_109 (by decide +kernel) (fun h109 => ?_) (fun h109 => ?_)
      · refine ng_iconst_1 dX9_check_127 ?_
        refine ng_iload_4 dX9_check_128 ?_
        refine ng_iadd dX9_check_130 ?_
        exact ng_ireturn dX9_check_131 ⟨_, rfl, by
  rw [ng_unl]
  first
  | (rw [if_neg (fun q => h97 q.2)]; exact nI_add 1 i)
  | (rw [ng_nI_le (by omega) (by omega)] at h66; rw [if_neg (fun q => by omega)]; exact nI_add 1 i), rfl⟩
      · refine ng_iload_4 dX9_check_112 ?_
        refine ng_aload_0 dX9_check_114 ?_
        refine ng_gR dX9_check_115 fl_X9_9 (by first | rfl | assumption) ?_
        refine ng_iconst_1 dX9_check_118 ?_
        refine ng_ialdL (j := 1) dX9_check_119 (by first | rfl | assumption) (by first | assumption | (unfold vp_in; decide)) (by decide) ?_
        refine ng_icmp_ne 127 dX9_check_120 (by decide +kernel) (fun h120 => ?_) (fun h120 => ?_)
        · refine ng_iconst_1 dX9_check_127 ?_
          refine ng_iload_4 dX9_check_128 ?_
          refine ng_iadd dX9_check_130 ?_
          exact ng_ireturn dX9_check_131 ⟨_, rfl, by
  rw [ng_unl]
  first
  | (rw [if_neg (fun q => h97 q.2)]; exact nI_add 1 i)
  | (rw [ng_nI_le (by omega) (by omega)] at h66; rw [if_neg (fun q => by omega)]; exact nI_add 1 i), rfl⟩
        · rw [hn] at h120; exact absurd (ng_nI_inj h120 (by omega) (by omega)) (by omega)
    · refine ng_iload_4 dX9_check_69 ?_
      refine ng_aload_0 dX9_check_71 ?_
      refine ng_gR dX9_check_72 fl_X9_9 (by first | rfl | assumption) ?_
      refine ng_iconst_1 dX9_check_75 ?_
      refine ng_ialdL (j := 1) dX9_check_76 (by first | rfl | assumption) (by first | assumption | (unfold vp_in; decide)) (by decide) ?_
      refine ng_icmp_ge 106 dX9_check_77 (by decide +kernel) (fun h77 => ?_) (fun h77 => ?_)
      · rw [hn] at h77; exact absurd h77 (nI_ge (by omega) (by omega))
      · refine ng_aload_0 dX9_check_80 ?_
        refine ng_gR dX9_check_81 fl_X9_9 (by first | rfl | assumption) ?_
        refine ng_bipush (v := 103) dX9_check_84 (by decide) ?_
        refine ng_iload_4 dX9_check_86 ?_
        refine ng_iadd dX9_check_88 ?_
        refine ng_ialdL (j := (103 + i)) dX9_check_89 (by first | rfl | assumption) (by rw [hx]; exact vp_in_nI (by omega) (by omega)) (by rw [hx, nI_clamp (by omega)]) ?_
        refine ng_aload_0 dX9_check_90 ?_
        refine ng_gR dX9_check_91 fl_X9_45 (by first | rfl | assumption) ?_
        refine ng_iload_4 dX9_check_94 ?_
        refine ng_ialdL (j := i) dX9_check_96 (by first | rfl | assumption) (by first | assumption | (unfold vp_in; decide)) (by first | assumption | exact nI_clamp (by omega)) ?_
        rw [hb i (by omega)]
        refine ng_icmp_ne 106 dX9_check_97 (by decide +kernel) (fun h97 => ?_) (fun h97 => ?_)
        · refine ng_iload_4 dX9_check_106 ?_
          refine ng_iload_2 dX9_check_108 ?_
          refine ng_icmp_ne 127 dX9_check_109 (by decide +kernel) (fun h109 => ?_) (fun h109 => ?_)
          · refine ng_iconst_1 dX9_check_127 ?_
            refine ng_iload_4 dX9_check_128 ?_
            refine ng_iadd dX9_check_130 ?_
            exact ng_ireturn dX9_check_131 ⟨_, rfl, by
  rw [ng_unl]
  first
  | (rw [if_neg (fun q => h97 q.2)]; exact nI_add 1 i)
  | (rw [ng_nI_le (by omega) (by omega)] at h66; rw [if_neg (fun q => by omega)]; exact nI_add 1 i), rfl⟩
          · refine ng_iload_4 dX9_check_112 ?_
            refine ng_aload_0 dX9_check_114 ?_
            refine ng_gR dX9_check_115 fl_X9_9 (by first | rfl | assumption) ?_
            refine ng_iconst_1 dX9_check_118 ?_
            refine ng_ialdL (j := 1) dX9_check_119 (by first | rfl | assumption) (by first | assumption | (unfold vp_in; decide)) (by decide) ?_
            refine ng_icmp_ne 127 dX9_check_120 (by decide +kernel) (fun h120 => ?_) (fun h120 => ?_)
            · refine ng_iconst_1 dX9_check_127 ?_
              refine ng_iload_4 dX9_check_128 ?_
              refine ng_iadd dX9_check_130 ?_
              exact ng_ireturn dX9_check_131 ⟨_, rfl, by
  rw [ng_unl]
  first
  | (rw [if_neg (fun q => h97 q.2)]; exact nI_add 1 i)
  | (rw [ng_nI_le (by omega) (by omega)] at h66; rw [if_neg (fun q => by omega)]; exact nI_add 1 i), rfl⟩
            · rw [hn] at h120; exact absurd (ng_nI_inj h120 (by omega) (by omega)) (by omega)
        · refine ng_iinc_4 (w := 1) dX9_check_100 (by decide) rfl ?_
          refine ng_goto 63 dX9_check_103 (by decide +kernel) ?_
          rw [ng_nI_le (by omega) (by omega)] at h66
          rw [ng_unl, if_pos ⟨by omega, h97⟩, nI_1]
          exact ih (i + 1) (by omega)
theorem ng_ybo_all {a : ng_R} {t : Int32} : ng_ybo a t (ng_cf a false) = ng_ybo a t ng_all := by
  funext i x
  rfl
theorem r_check {X : Nat × (Nat → Int32)} {M : ng_M} {t : Int32} {K : Nat} (hok : ng_ok (M 74)) (hK : M 74 9 = nI K) (hK20 : K ≤ 20) : ng_EvI X 8 mi_X9_check [.ref 73, .int t] M (fun r M1 => ng_a9 (ng_row M 74 (upd (M 74) 9 0)) (ng_chk (upd (M 74) 9 0) K t) r M1) := by
  have hok2 : ng_ok (upd (M 74) 9 0) := hok.upd (by decide) (by decide) (by decide)
  obtain ⟨n, hn, hn8⟩ := hok2.wfr.1.1.1
  unfold ng_chk
  rw [ng_yn_of hn hn8]
  refine ng_EvI.of (lv := [some (.ref 73), some (.int t), none, none, none]) (ty := .int) (by decide) (Nat.le_of_ble_eq_true rfl) rfl rfl (fun _ _ _ => rfl) ?_
  have hs := ng_ra.start (M := ng_row M 74 (upd (M 74) 9 0)) (by rw [ng_row_eq]; exact hok2.Y)
  generalize hA : ng_row M 74 (upd (M 74) 9 0) = MA at hs ⊢
  have hA4 : MA 74 = upd (M 74) 9 0 := by rw [← hA, ng_row_eq]
  refine ng_aload_0 dX9_check_0 ?_
  refine ng_gR dX9_check_1 fl_X9_9 (by first | rfl | assumption) ?_
  refine ng_bipush (v := 9) dX9_check_4 (by decide) ?_
  refine ng_ialdL (j := 9) dX9_check_6 (by first | rfl | assumption) (by first | assumption | (unfold vp_in; decide)) (by decide) ?_
  rw [hK]
  refine ng_istore_2 dX9_check_7 (by first | rfl | assumption) ?_
  refine ng_aload_0 dX9_check_8 ?_
  refine ng_gR dX9_check_9 fl_X9_9 (by first | rfl | assumption) ?_
  refine ng_bipush (v := 9) dX9_check_12 (by decide) ?_
  refine ng_iconst_0 dX9_check_14 ?_
  refine ng_iastL (j := 9) dX9_check_15 (by first | rfl | assumption) (by first | assumption | (unfold vp_in; decide)) (by decide) ?_
  rw [hA]
  refine ng_iload_1 dX9_check_16 ?_
  refine ng_callS_1x (y2 := mi_X9_isStep) dX9_check_17 lk_X9_84 ms_X9_isStep my_X9_isStep (by first | decide | exact Nat.le_of_ble_eq_true rfl) (s_X9_isStep) (by decide) ?_
  refine ng_ifb_ne 30 dX9_check_20 (by decide +kernel) (fun h20 => ?_) (fun h20 => ?_)
  · refine ng_aload_0 dX9_check_30 ?_
    refine ng_gR dX9_check_31 fl_X9_9 (by first | rfl | assumption) ?_
    refine ng_aload_0 dX9_check_34 ?_
    refine ng_gR dX9_check_35 fl_X9_16 (by first | rfl | assumption) ?_
    refine ng_callS_2v (y2 := mi_X9_copy) dX9_check_38 lk_X9_76 ms_X9_copy my_X9_copy (by first | decide | exact Nat.le_of_ble_eq_true rfl) (s_X9_copy rfl rfl (by decide)) (by decide) ?_
    refine ng_aload_0 dX9_check_41 ?_
    refine ng_iload_1 dX9_check_42 ?_
    refine ng_iconst_0 dX9_check_43 ?_
    refine ng_iconst_0 dX9_check_44 ?_
    refine ng_callV_3i (y2 := mi_X9_goes) dX9_check_45 lk_X9_219 ms_X9_goes my_X9_goes (by first | exact ⟨_, rfl⟩ | assumption | exact ng_fld_obj (f := 0) (by assumption)) mc_X9 (by first | decide | exact Nat.le_of_ble_eq_true rfl) (s_X9_goes (dr := false) (by rw [hs.2.1, hA4]; exact hok2.wfr) (ng_vin h20 (n := 10) (by decide)).1 (by decide) (by decide)) (by decide) (fun v M2 hg => ?_)
    refine ng_istore_3 dX9_check_48 (by first | rfl | assumption) ?_
    refine ng_aload_0 dX9_check_49 ?_
    refine ng_gR dX9_check_50 fl_X9_16 (by first | rfl | assumption) ?_
    refine ng_aload_0 dX9_check_53 ?_
    refine ng_gR dX9_check_54 fl_X9_9 (by first | rfl | assumption) ?_
    refine ng_callS_2v (y2 := mi_X9_copy) dX9_check_57 lk_X9_76 ms_X9_copy my_X9_copy (by first | decide | exact Nat.le_of_ble_eq_true rfl) (s_X9_copy rfl rfl (by decide)) (by decide) ?_
    refine ng_iconst_0 dX9_check_60 ?_
    refine ng_istore_4 dX9_check_61 (by first | rfl | assumption) ?_
    obtain ⟨g1, g2, g3, g4⟩ := hg
    rw [hs.2.1, hA4] at g1 g2 g4
    rw [ng_yz_false.1] at g2
    rw [ng_ybo_all, ng_yn_of hn hn8] at g4
    have hra : ng_ra (ng_asd MA) M2 (ng_yr (upd (M 74) 9 0) t 0 ng_all) := ⟨g3, g2, fun k hk => by rw [ng_yr_hi (by omega)]; exact (congrFun (hs.2.1.trans hA4) k).symm, hok2.Y.yr (ng_vin h20 (n := 10) (by decide)).1 (by decide) (by decide)⟩
    have ha := hra.again (by rw [hA4]; exact hok2.Y)
    have e83 : ng_row M2 74 (ng_cp (M2 76) (M2 74)) 83 = M2 83 := ng_row_ne (by decide)
    generalize ng_row M2 74 (ng_cp (M2 76) (M2 74)) = M3 at ha e83 ⊢
    refine (l_X9_check (bo := ng_bt (upd (M 74) 9 0) t) (by rw [ha.2.1, hA4]; exact hn) hn8 hK20 (fun j hj => by rw [e83]; exact g4 j hj) n 0 (by omega)).imp (fun r M4 q => ?_)
    obtain ⟨v, q1, q2, q3⟩ := q
    refine ⟨v, q1, ?_⟩
    rw [if_pos h20]
    refine ⟨M3, ha.outS, ?_, q3⟩
    rw [q2, ha.2.1, hA4]
  · refine ng_aload_0 dX9_check_23 ?_
    refine ng_ldc dX9_check_24 kc_X9_91 ?_
    refine ng_callV_1x (y2 := mi_X9_finding) dX9_check_26 lk_X9_92 ms_X9_finding my_X9_finding (by first | exact ⟨_, rfl⟩ | assumption | exact ng_fld_obj (f := 0) (by assumption)) mc_X9 (by first | decide | exact Nat.le_of_ble_eq_true rfl) (s_X9_finding (k := 1) (by decide) (by decide) (by decide)) (by decide) ?_
    exact ng_ireturn dX9_check_29 ⟨_, rfl, by rw [if_neg (by rw [h20]; decide)]; exact ⟨_, ng_rout.rf, by decide, rfl⟩⟩
theorem pr_check {X : Nat × (Nat → Int32)} {M : ng_M} {t : Int32} (h : ng_inv M) : ng_pair X mi_X8_check mi_X9_check [.int t] M := by
  obtain ⟨K, hK, hK20⟩ := ng_cnt (k := 9) (u := 20) h.1.2 (by decide) (by decide) (by decide) (by decide)
  have hK20 : K ≤ 20 := by omega
  have hx := ng_inv_set h (r := 1) (j := 5) (i := 9) (v := 0) (by decide) (fun k hk => (ng_loc_w k hk).2.2.1) (by decide) (by decide) (by decide)
  refine ng_pair.B hx (c_check h.1 hK hK20) (by decide) (d9 := 8) (by decide) (fun M1 e => ?_)
  have e74 : M1 74 = M 74 := (e 74 (by decide)).trans (ng_row_ne (by decide))
  rw [← e74]
  exact r_check (by rw [e74]; exact h.1.2) (by rw [e74]; exact hK) hK20
