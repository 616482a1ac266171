/-! ===== years ahead: what they leave, answers side by side; pairs: at, then ===== -/
section NgR
variable {X : Nat × (Nat → Int32)} {y : ng_Y} {d pc : Nat} {lv : ng_L} {st : List Value} {M : ng_M} {F : Option Value → ng_M → Prop}
theorem ng_callV_1r {idx k ci d' r : Nat} {a1 : Value} {Pp : ng_M → Prop} {y2 : ng_Y} (hd : decode y.2.1 pc = .ok (.invokevirtual idx, 3)) (hlink : Cond.methodLink y.1.cls idx y2.1 ∈ ng_G) (hin : Cond.instanceMethod y2.1 ∈ ng_G ∧ Cond.selects y2.1.cls y2.1 y2.1 ∈ ng_G) (hm : ng_MY y2 1) (hs : ng_obj k ci) (hc : ∃ (T : u_T) (N : Nat), vwCl[ci]? = some (y2.1.cls, T, N)) (hst : (st.map fun v => v.category).sum ≤ 8)
    (he : ng_Ev X d' y2 (.ref k :: [a1]) M (fun r' M' => r' = some (.ref r) ∧ Pp M')) (hdd : d' ≤ d) (kk : ∀ (M1 : ng_M), Pp M1 → ng_Go X y (d + 1) (pc + 3) lv (.ref r :: st) M1 F) : ng_Go X y (d + 1) pc lv (a1 :: .ref k :: st) M F := by
  obtain ⟨fs, hs⟩ := hs
  exact ng_callV_1 hd hlink hin hm hs hc hst he hdd (fun r M1 h => by obtain ⟨rfl, h⟩ := h; exact kk M1 h)
end NgR
theorem ng_EvV.imp {X : Nat × (Nat → Int32)} {d : Nat} {y : ng_Y} {as : List Value} {M : ng_M} {Pp Qq : ng_M → Prop} (h : ng_EvV X d y as M Pp) (hPQ : ∀ M', Pp M' → Qq M') : ng_EvV X d y as M Qq := ng_Ev.imp h (fun r M' h => ⟨h.1, hPQ M' h.2⟩)
abbrev ng_cj (k : Nat) : Prop := k = 9 ∨ k = 10 ∨ k = 13 ∨ k = 14 ∨ k = 17 ∨ (39 ≤ k ∧ k ≤ 57)
def ng_out (M M' : ng_M) : Prop := ∀ k, ¬ ng_cj k → M' k = M k
abbrev ng_rj (k : Nat) : Prop := k = 73 ∨ k = 76 ∨ (80 ≤ k ∧ k ≤ 84) ∨ k = 89
def ng_rout (M M' : ng_M) : Prop := (∀ k, ¬ ng_rj k → M' k = M k) ∧ M' 73 3 = M 73 3 ∧ M' 73 19 = M 73 19
theorem ng_out.rf {M : ng_M} : ng_out M M := fun _ _ => rfl
theorem ng_out.tr {M M1 M2 : ng_M} (h1 : ng_out M M1) (h2 : ng_out M1 M2) : ng_out M M2 := fun k hk => (h2 k hk).trans (h1 k hk)
theorem ng_out.of {S : List Nat} {M M' : ng_M} (h : ng_off S M M') (hS : ∀ k ∈ S, ng_cj k) : ng_out M M' := fun k hk => h k (fun q => hk (hS k q))
theorem ng_rout.rf {M : ng_M} : ng_rout M M := ⟨fun _ _ => rfl, rfl, rfl⟩
theorem ng_rout.of {S : List Nat} {M M' : ng_M} (h : ng_off S M M') (hS : ∀ k ∈ S, ng_rj k) (h73 : 73 ∉ S) : ng_rout M M' := ⟨fun k hk => h k (fun q => hk (hS k q)), by rw [h 73 h73], by rw [h 73 h73]⟩
theorem ng_rout.tr {M M1 M2 : ng_M} (h1 : ng_rout M M1) (h2 : ng_rout M1 M2) : ng_rout M M2 := ⟨fun k hk => (h2.1 k hk).trans (h1.1 k hk), h2.2.1.trans h1.2.1, h2.2.2.trans h1.2.2⟩
theorem ng_inv_j {M M' : ng_M} (h : ng_inv M) (ho : ∀ k, ¬ ng_cj k → ¬ ng_rj k → M' k = M k) (h3 : M' 73 3 = M 73 3) (h19 : M' 73 19 = M 73 19) : ng_inv M' := by
  refine ng_inv_I1 h ⟨?_, ?_⟩ (fun k hk => ?_) h3 h19
  · rw [ho 74 (by decide) (by decide)]
    exact h.1.1.junk (fun k k1 k2 k3 => ho k (by unfold ng_cj; simp at k3; omega) (by unfold ng_rj; omega)) (fun f _ _ => by rw [ho 15 (by decide) (by decide)])
  · rw [ho 74 (by decide) (by decide)]; exact h.1.2
  · unfold ng_oth at hk; exact ho k (by unfold ng_cj; omega) (by unfold ng_rj; omega)
def ng_er (k : Nat) : Int32 := -1000000000 - nI k
/-- the class's answer, or its error, behind what it leaves -/
def ng_a8 (M : ng_M) (A : Nat ⊕ Int32) (r : Int32) (M1 : ng_M) : Prop := ∃ M', ng_out M M' ∧ (match A with | .inl k => r = ng_er k ∧ M1 = ng_cfl M' k | .inr v => r = v ∧ M1 = M')
def ng_a9 (M : ng_M) (A : Nat ⊕ Int32) (r : Int32) (M1 : ng_M) : Prop := ∃ M', ng_rout M M' ∧ (match A with | .inl k => r = ng_er k ∧ M1 = ng_rfl M' k | .inr v => r = v ∧ M1 = M')
theorem ng_pair.A {X : Nat × (Nat → Int32)} {M : ng_M} {y8 y9 : ng_Y} {as : List Value} {A : Nat ⊕ Int32} {d8 d9 : Nat} (h : ng_inv M) (h8 : ng_EvI X d8 y8 (.ref 0 :: as) M (ng_a8 M A)) (hd8 : d8 ≤ 60) (hd9 : d9 ≤ 60) (h9 : ∀ M1, (∀ k, 73 ≤ k → M1 k = M k) → ng_EvI X d9 y9 (.ref 73 :: as) M1 (ng_a9 M1 A)) : ng_pair X y8 y9 as M := by
  refine (h8.up hd8).imp (fun r1 M1 h1 => ?_)
  have hk : ∀ k, 73 ≤ k → M1 k = M k := by
    intro k hk
    obtain ⟨M', o, q⟩ := h1
    have e : M' k = M k := o k (by unfold ng_cj; omega)
    cases A with
    | inl j => rw [q.2, ng_cfl, ng_row_ne (by omega)]; exact e
    | inr v => rw [q.2]; exact e
  refine ((h9 M1 hk).up hd9).imp (fun r2 M2 h2 => ?_)
  obtain ⟨M', o, q⟩ := h1
  obtain ⟨M'', o2, q2⟩ := h2
  cases A with
  | inr v =>
    refine ⟨by rw [q2.1, q.1], ?_⟩
    rw [q2.2]
    refine ng_inv_j h (fun k k1 k2 => ?_) ?_ ?_
    · rw [o2.1 k k2, q.2, o k k1]
    · rw [o2.2.1, hk 73 (by decide)]
    · rw [o2.2.2, hk 73 (by decide)]
  | inl e =>
    refine ⟨by rw [q2.1, q.1], ?_⟩
    have hx : ng_inv (ng_row M'' 72 (M 72)) := by
      refine ng_inv_j h (fun k k1 k2 => ?_) ?_ ?_
      · by_cases e : k = 72
        · subst e; rw [ng_row_eq]
        · rw [ng_row_ne e, o2.1 k k2, q.2, ng_cfl, ng_row_ne e, o k k1]
      · rw [ng_row_ne (by decide), o2.2.1, hk 73 (by decide)]
      · rw [ng_row_ne (by decide), o2.2.2, hk 73 (by decide)]
    have e72 : M'' 72 = upd (M 72) e (M 72 e + 1) := by
      rw [o2.1 72 (by decide), q.2, ng_cfl, ng_row_eq, o 72 (by decide)]
    have : M2 = ng_rfl (ng_cfl (ng_row M'' 72 (M 72)) e) e := by
      rw [q2.2]
      funext j
      by_cases j7 : j = 77
      · subst j7
        simp [ng_rfl, ng_cfl, ng_row]
      · rw [ng_rfl, ng_row_ne j7, ng_rfl, ng_row_ne j7]
        by_cases j2 : j = 72
        · subst j2; rw [e72, ng_cfl, ng_row_eq, ng_row_eq]
        · rw [ng_cfl, ng_row_ne j2, ng_row_ne j2]
    rw [this]
    exact ng_inv_err hx
/-! years -/
def ng_yrs (a : ng_R) (t : Int32) : Nat → ng_R
  | 0 => a
  | n + 1 => ng_yr (ng_yrs a t n) t 0 ng_all
def ng_ends (a : ng_R) : Int32 := a 6 + a 5 * a (11 + (a 2).toNatClampNeg) / 2
def ng_sumh (a : ng_R) : Nat → Int32
  | 0 => 0
  | n + 1 => ng_sumh a n + a (24 + 4 * n)
def ng_fig (a : ng_R) (w : Int32) : Int32 := if w = 0 then a 6 else if w = 1 then a 3 else if w = 2 then a 5 else if w = 3 then ng_ends a else ng_sumh a (ng_yn a)
def ng_ca (M0 M : ng_M) (s : Nat) (a : ng_R) : Prop := ng_off [9, 10, 13, 14, s, s + 1, s + 2] M0 M ∧ ng_rl M a ∧ ng_sv M s a ∧ ng_okY a
def ng_ra (M0 M : ng_M) (a : ng_R) : Prop := ng_off [74, 81, 82, 83] M0 M ∧ M 74 = a ∧ (∀ k, 123 ≤ k → a k = M0 74 k) ∧ ng_okY a
theorem s_X5_goesA {X : Nat × (Nat → Int32)} {M0 M : ng_M} {s : Nat} {a : ng_R} {t b : Int32} (hs : ng_isS s) (h : ng_ca M0 M s a) (ht : vp_in t 10) (hb0 : 0 ≤ b.toInt) (hb1 : b.toInt ≤ 99) : ng_EvV X 5 mi_X5_goes [.ref s, .int t, .int b, .int 255] M (fun M' => ng_ca M0 M' s (ng_yr a t b ng_all) ∧ M' s 9 = ng_ysd a t b ng_all ∧ M' s 10 = ng_ylf a t b ng_all) := by
  obtain ⟨h1, h2, h3, h4⟩ := h
  have hw := h4.wfr.1.1
  have hl := (ng_S hs).2.2.2.2
  refine (s_X5_goes hs h2 h3 hw ht).imp (fun M' hg => ?_)
  obtain ⟨g1, g2, g3, g4⟩ := hg
  have e := ng_yr_255 (t := t) (b := b) hw
  rw [e.1] at g2
  rw [e.2.1] at g3
  rw [e.2.2] at g4
  exact ⟨⟨h1.tr g1, h2.kept (fun k hk => g1 k (by simp at hk ⊢; omega)) (fun k hk => ng_yr_hi (by omega)), g2, h4.yr ht hb0 hb1⟩, g3, g4⟩
theorem s_X9_goesA {X : Nat × (Nat → Int32)} {M0 M : ng_M} {a : ng_R} {t b : Int32} (h : ng_ra M0 M a) (ht : vp_in t 10) (hb0 : 0 ≤ b.toInt) (hb1 : b.toInt ≤ 99) : ng_EvI X 7 mi_X9_goes [.ref 73, .int t, .int b, .int 0] M (fun v M' => v = ng_ysd a t b ng_all ∧ ng_ra M0 M' (ng_yr a t b ng_all)) := by
  obtain ⟨h1, h2, h3, h4⟩ := h
  subst h2
  refine (s_X9_goes (dr := false) h4.wfr ht hb0 hb1).imp (fun v M' hg => ?_)
  obtain ⟨g1, g2, g3, -⟩ := hg
  rw [ng_yz_false.1] at g2
  rw [ng_yz_false.2.1] at g1
  exact ⟨g1, h1.tr g3, g2, fun k hk => (ng_yr_hi (by omega)).trans (h3 k hk), h4.yr ht hb0 hb1⟩
theorem l_X5_goesYears {X : Nat × (Nat → Int32)} {M0 : ng_M} {s N : Nat} {a : ng_R} {t : Int32} (hs : ng_isS s) (ht : vp_in t 10) (hN : N ≤ 40) : ∀ (m i : Nat) (M : ng_M), i + m = N → ng_ca M0 M s (ng_yrs a t i) →
    ng_Go X mi_X5_goesYears 6 2 [some (.ref s), some (.int (nI N)), some (.int t), some (.int (nI i))] [] M (fun r' M' => r' = none ∧ ng_ca M0 M' s (ng_yrs a t N)) := by
  have hso := (ng_S hs).2.2.2.1
  intro m
  induction m with
  | zero =>
    intro i M hi h
    have hi2 : i = N := by omega
    subst hi2
    refine ng_iload_3 dX5_goesYears_2 ?_
    refine ng_iload_1 dX5_goesYears_3 ?_
    refine ng_icmp_ge 22 dX5_goesYears_4 (by decide +kernel) (fun h4 => ?_) (fun h4 => ?_)
    · exact ng_return dX5_goesYears_22 ⟨rfl, h⟩
    · exact absurd (Int32.le_refl _) h4
  | succ m ih =>
    intro i M hi h
    refine ng_iload_3 dX5_goesYears_2 ?_
    refine ng_iload_1 dX5_goesYears_3 ?_
    refine ng_icmp_ge 22 dX5_goesYears_4 (by decide +kernel) (fun h4 => ?_) (fun h4 => ?_)
    · exact absurd h4 (nI_ge (by omega) (by omega))
    · refine ng_aload_0 dX5_goesYears_7 ?_
      refine ng_iload_2 dX5_goesYears_8 ?_
      refine ng_iconst_0 dX5_goesYears_9 ?_
      refine ng_sipush (v := 255) dX5_goesYears_10 (by decide) ?_
      refine ng_callV_3w (y2 := mi_X5_goes) dX5_goesYears_13 lk_X5_126 ms_X5_goes my_X5_goes (by first | exact ⟨_, rfl⟩ | assumption | exact ng_fld_obj (f := 0) (by assumption)) mc_X5 (by first | decide | exact Nat.le_of_ble_eq_true rfl) (s_X5_goesA hs h ht (by decide) (by decide)) (by decide) (fun M2 hg => ?_)
      refine ng_iinc_3 (w := 1) dX5_goesYears_16 (by decide) rfl ?_
      refine ng_goto 2 dX5_goesYears_19 (by decide +kernel) ?_
      rw [nI_1]
      exact ih (i + 1) _ (by omega) hg.1
theorem s_X5_goesYears {X : Nat × (Nat → Int32)} {M0 M : ng_M} {s N : Nat} {a : ng_R} {n t : Int32} (hs : ng_isS s) (h : ng_ca M0 M s a) (ht : vp_in t 10) (hn : n = nI N) (hN : N ≤ 40) : ng_EvV X 6 mi_X5_goesYears [.ref s, .int n, .int t] M (fun M' => ng_ca M0 M' s (ng_yrs a t N)) := by
  subst hn
  refine ng_EvV.of (lv := [some (.ref s), some (.int (nI N)), some (.int t), none]) (by decide) (Nat.le_of_ble_eq_true rfl) rfl rfl ?_
  refine ng_iconst_0 dX5_goesYears_0 ?_
  refine ng_istore_3 dX5_goesYears_1 (by first | rfl | assumption) ?_
  exact l_X5_goesYears hs ht hN N 0 M (by omega) h
theorem l_X9_yearsGo {X : Nat × (Nat → Int32)} {M0 : ng_M} {N : Nat} {a : ng_R} {t : Int32} (ht : vp_in t 10) (hN : N ≤ 40) : ∀ (m i : Nat) (M : ng_M) (x : Option Value), i + m = N → ng_ra M0 M (ng_yrs a t i) →
    ng_Go X mi_X9_yearsGo 8 2 [some (.ref 73), some (.int (nI N)), some (.int t), some (.int (nI i)), x] [] M (fun r' M' => r' = none ∧ ng_ra M0 M' (ng_yrs a t N)) := by
  intro m
  induction m with
  | zero =>
    intro i M x hi h
    have hi2 : i = N := by omega
    subst hi2
    refine ng_iload_3 dX9_yearsGo_2 ?_
    refine ng_iload_1 dX9_yearsGo_3 ?_
    refine ng_icmp_ge 22 dX9_yearsGo_4 (by decide +kernel) (fun h4 => ?_) (fun h4 => ?_)
    · exact ng_return dX9_yearsGo_22 ⟨rfl, h⟩
    · exact absurd (Int32.le_refl _) h4
  | succ m ih =>
    intro i M x hi h
    refine ng_iload_3 dX9_yearsGo_2 ?_
    refine ng_iload_1 dX9_yearsGo_3 ?_
    refine ng_icmp_ge 22 dX9_yearsGo_4 (by decide +kernel) (fun h4 => ?_) (fun h4 => ?_)
    · exact absurd h4 (nI_ge (by omega) (by omega))
    · refine ng_aload_0 dX9_yearsGo_7 ?_
      refine ng_iload_2 dX9_yearsGo_8 ?_
      refine ng_iconst_0 dX9_yearsGo_9 ?_
      refine ng_iconst_0 dX9_yearsGo_10 ?_
      refine ng_callV_3i (y2 := mi_X9_goes) dX9_yearsGo_11 lk_X9_219 ms_X9_goes my_X9_goes (by first | exact ⟨_, rfl⟩ | assumption | exact ng_fld_obj (f := 0) (by assumption)) mc_X9 (by first | decide | exact Nat.le_of_ble_eq_true rfl) (s_X9_goesA h ht (by decide) (by decide)) (by decide) (fun v M2 hg => ?_)
      refine ng_istore_4 dX9_yearsGo_14 (by first | rfl | assumption) ?_
      refine ng_iinc_3 (w := 1) dX9_yearsGo_16 (by decide) rfl ?_
      refine ng_goto 2 dX9_yearsGo_19 (by decide +kernel) ?_
      rw [nI_1]
      exact ih (i + 1) _ _ (by omega) hg.2
theorem s_X9_yearsGo {X : Nat × (Nat → Int32)} {M0 M : ng_M} {N : Nat} {a : ng_R} {n t : Int32} (h : ng_ra M0 M a) (ht : vp_in t 10) (hn : n = nI N) (hN : N ≤ 40) : ng_EvV X 8 mi_X9_yearsGo [.ref 73, .int n, .int t] M (fun M' => ng_ra M0 M' (ng_yrs a t N)) := by
  subst hn
  refine ng_EvV.of (lv := [some (.ref 73), some (.int (nI N)), some (.int t), none, none]) (by decide) (Nat.le_of_ble_eq_true rfl) rfl rfl ?_
  refine ng_iconst_0 dX9_yearsGo_0 ?_
  refine ng_istore_3 dX9_yearsGo_1 (by first | rfl | assumption) ?_
  exact l_X9_yearsGo ht hN N 0 M _ (by omega) h
theorem s_X5_hasInAll {X : Nat × (Nat → Int32)} {M : ng_M} {s : Nat} {a : ng_R} (hs : ng_isS s) (hr : ng_rl M a) (hv : ng_sv M s a) (hok : ng_okY a) : ng_EvX X 1 mi_X5_hasInAll [.ref s] M (some (.int (ng_sumh a (ng_yn a)))) M := by
  obtain ⟨⟨hs0, hs1, hs2, hs3, hs4, hs5, hs6, hs7, hs8, hs9, hs10, hs11⟩, hsh, hsp, hso, hsl⟩ := ng_S hs
  obtain ⟨n, hn, hn8⟩ := hok.wfr.1.1.1
  have hn2 : M 2 6 = nI n := hr.2.2.1.trans hn
  rw [ng_yn_of hn hn8]
  refine ng_EvX.ofI (lv := [some (.ref s), none, none]) (ty := .int) (by decide) (Nat.le_of_ble_eq_true rfl) rfl rfl rfl ?_
  have lp : ∀ (m i : Nat), i + m = n → ng_Go X mi_X5_hasInAll 1 4 [some (.ref s), some (.int (ng_sumh a i)), some (.int (nI i))] [] M (fun r' M' => r' = some (.int (ng_sumh a n)) ∧ M' = M) := by
    intro m
    induction m with
    | zero =>
      intro i hi
      have hi2 : i = n := by omega
      subst hi2
      refine ng_iload_2 dX5_hasInAll_4 ?_
      refine ng_aload_0 dX5_hasInAll_5 ?_
      refine ng_gR dX5_hasInAll_6 fl_X5_25 (by first | rfl | assumption) ?_
      refine ng_gI dX5_hasInAll_9 fl_X5_59 (by first | rfl | assumption) ?_
      refine ng_icmp_ge 30 dX5_hasInAll_12 (by decide +kernel) (fun h12 => ?_) (fun h12 => ?_)
      · refine ng_iload_1 dX5_hasInAll_30 ?_
        exact ng_ireturn dX5_hasInAll_31 ⟨rfl, rfl⟩
      · exact absurd (by rw [hn2]; exact Int32.le_refl _) h12
    | succ m ih =>
      intro i hi
      have hvi : vp_in (nI i) 8 := vp_in_nI (by omega) (by omega)
      refine ng_iload_2 dX5_hasInAll_4 ?_
      refine ng_aload_0 dX5_hasInAll_5 ?_
      refine ng_gR dX5_hasInAll_6 fl_X5_25 (by first | rfl | assumption) ?_
      refine ng_gI dX5_hasInAll_9 fl_X5_59 (by first | rfl | assumption) ?_
      refine ng_icmp_ge 30 dX5_hasInAll_12 (by decide +kernel) (fun h12 => ?_) (fun h12 => ?_)
      · rw [hn2] at h12; exact absurd h12 (nI_ge (by omega) (by omega))
      · refine ng_iload_1 dX5_hasInAll_15 ?_
        refine ng_aload_0 dX5_hasInAll_16 ?_
        refine ng_gR dX5_hasInAll_17 fl_X5_9 (by first | rfl | assumption) ?_
        refine ng_iload_2 dX5_hasInAll_20 ?_
        refine ng_ialdL (j := i) dX5_hasInAll_21 (by first | rfl | assumption) (by first | assumption | (unfold vp_in; decide)) (by first | assumption | exact nI_clamp (by omega)) ?_
        refine ng_iadd dX5_hasInAll_22 ?_
        refine ng_istore_1 dX5_hasInAll_23 (by first | rfl | assumption) ?_
        refine ng_iinc_2 (w := 1) dX5_hasInAll_24 (by decide) rfl ?_
        refine ng_goto 4 dX5_hasInAll_27 (by decide +kernel) ?_
        rw [nI_1, hv.1 i (by omega)]
        exact ih (i + 1) (by omega)
  refine ng_iconst_0 dX5_hasInAll_0 ?_
  refine ng_istore_1 dX5_hasInAll_1 (by first | rfl | assumption) ?_
  refine ng_iconst_0 dX5_hasInAll_2 ?_
  refine ng_istore_2 dX5_hasInAll_3 (by first | rfl | assumption) ?_
  exact lp n 0 (by omega)
theorem s_X5_figure {X : Nat × (Nat → Int32)} {M : ng_M} {s : Nat} {a : ng_R} {w : Int32} (hs : ng_isS s) (hr : ng_rl M a) (hv : ng_sv M s a) (hok : ng_okY a) : ng_EvX X 2 mi_X5_figure [.ref s, .int w] (M) (some (.int (ng_fig a w))) (M) := by
  obtain ⟨⟨hs0, hs1, hs2, hs3, hs4, hs5, hs6, hs7, hs8, hs9, hs10, hs11⟩, hsh, hsp, hso, hsl⟩ := ng_S hs
  obtain ⟨v1, v2, v3, v4, v5, v6, v7⟩ := id hv
  have hl2 := hok.wfr.1.1.2.1
  have hl : vp_in (M s 3) 10 := by rw [v2]; exact hl2
  have he : M s 7 + M s 6 * M 3 (M s 3).toNatClampNeg / 2 = ng_ends a := by rw [ng_ends, v2, v5, v6, hr.1 _ (ng_vp_lt hl2)]
  refine ng_EvX.ofI (lv := [some (.ref s), some (.int w)]) (ty := .int) (by decide) (Nat.le_of_ble_eq_true rfl) rfl rfl rfl ?_
  refine ng_iload_1 dX5_figure_0 ?_
  refine sw_X5_figure_1 (fun h1 => ?_) (fun h1 => ?_) (fun h1 => ?_) (fun h1 => ?_) (fun h1n0 h1n1 h1n2 h1n3 => ?_)
  · refine ng_aload_0 dX5_figure_32 ?_
    refine ng_gI dX5_figure_33 fl_X5_41 (by first | rfl | assumption) ?_
    exact ng_ireturn dX5_figure_36 ⟨by simp_all [ng_fig], rfl⟩
  · refine ng_aload_0 dX5_figure_37 ?_
    refine ng_gI dX5_figure_38 fl_X5_18 (by first | rfl | assumption) ?_
    exact ng_ireturn dX5_figure_41 ⟨by simp_all [ng_fig], rfl⟩
  · refine ng_aload_0 dX5_figure_42 ?_
    refine ng_gI dX5_figure_43 fl_X5_38 (by first | rfl | assumption) ?_
    exact ng_ireturn dX5_figure_46 ⟨by simp_all [ng_fig], rfl⟩
  · refine ng_aload_0 dX5_figure_47 ?_
    refine ng_callV_0x (y2 := mi_X5_ends) dX5_figure_48 lk_X5_47 ms_X5_ends my_X5_ends (by first | exact ⟨_, rfl⟩ | assumption | exact ng_fld_obj (f := 0) (by assumption)) mc_X5 (by first | decide | exact Nat.le_of_ble_eq_true rfl) ((s_X5_ends hs hl).cast (by rw [he]) rfl) (by decide) ?_
    exact ng_ireturn dX5_figure_51 ⟨by simp_all [ng_fig], rfl⟩
  · refine ng_aload_0 dX5_figure_52 ?_
    refine ng_callV_0x (y2 := mi_X5_hasInAll) dX5_figure_53 lk_X5_51 ms_X5_hasInAll my_X5_hasInAll (by first | exact ⟨_, rfl⟩ | assumption | exact ng_fld_obj (f := 0) (by assumption)) mc_X5 (by first | decide | exact Nat.le_of_ble_eq_true rfl) (s_X5_hasInAll hs hr hv hok) (by decide) ?_
    exact ng_ireturn dX5_figure_56 ⟨by simp_all [ng_fig], rfl⟩
theorem s_X9_ends {X : Nat × (Nat → Int32)} {M : ng_M} (hl : vp_in (M 74 2) 10) : ng_EvX X 1 mi_X9_ends [.ref 73] (M) (some (.int (ng_ends (M 74)))) (M) := by
  have hx : 11 + M 74 2 = nI (11 + (M 74 2).toNatClampNeg) := ng_ix_add 11 hl
  have hlt := ng_vp_lt hl
  refine ng_EvX.ofI (lv := [some (.ref 73)]) (ty := .int) (by decide) (Nat.le_of_ble_eq_true rfl) rfl rfl rfl ?_
  refine ng_aload_0 dX9_ends_0 ?_
  refine ng_gR dX9_ends_1 fl_X9_9 (by first | rfl | assumption) ?_
  refine ng_bipush (v := 6) dX9_ends_4 (by decide) ?_
  refine ng_ialdL (j := 6) dX9_ends_6 (by first | rfl | assumption) (by unfold vp_in; decide) (by decide) ?_
  refine ng_aload_0 dX9_ends_7 ?_
  refine ng_gR dX9_ends_8 fl_X9_9 (by first | rfl | assumption) ?_
  refine ng_iconst_5 dX9_ends_11 ?_
  refine ng_ialdL (j := 5) dX9_ends_12 (by first | rfl | assumption) (by unfold vp_in; decide) (by decide) ?_
  refine ng_aload_0 dX9_ends_13 ?_
  refine ng_gR dX9_ends_14 fl_X9_9 (by first | rfl | assumption) ?_
  refine ng_bipush (v := 11) dX9_ends_17 (by decide) ?_
  refine ng_aload_0 dX9_ends_19 ?_
  refine ng_gR dX9_ends_20 fl_X9_9 (by first | rfl | assumption) ?_
  refine ng_iconst_2 dX9_ends_23 ?_
  refine ng_ialdL (j := 2) dX9_ends_24 (by first | rfl | assumption) (by unfold vp_in; decide) (by decide) ?_
  refine ng_iadd dX9_ends_25 ?_
  refine ng_ialdL (j := (11 + (M 74 2).toNatClampNeg)) dX9_ends_26 (by first | rfl | assumption) (by rw [hx]; exact vp_in_nI (by omega) (by omega)) (by rw [hx, nI_clamp (by omega)]) ?_
  refine ng_imul dX9_ends_27 ?_
  refine ng_iconst_2 dX9_ends_28 ?_
  refine ng_idiv dX9_ends_29 (by first | decide | assumption) ?_
  refine ng_iadd dX9_ends_30 ?_
  exact ng_ireturn dX9_ends_31 ⟨rfl, rfl⟩
theorem s_X9_toldOf {X : Nat × (Nat → Int32)} {M : ng_M} {w : Int32} (hok : ng_okY (M 74)) : ng_EvX X 2 mi_X9_toldOf [.ref 73, .int w] M (some (.int (ng_fig (M 74) w))) M := by
  obtain ⟨n, hn, hn8⟩ := hok.wfr.1.1.1
  have hl := hok.wfr.1.1.2.1
  have hyn := ng_yn_of hn hn8
  refine ng_EvX.ofI (lv := [some (.ref 73), some (.int w), none, none]) (ty := .int) (by decide) (Nat.le_of_ble_eq_true rfl) rfl rfl rfl ?_
  have lp : ∀ (m i : Nat), i + m = n → ng_Go X mi_X9_toldOf 2 61 [some (.ref 73), some (.int w), some (.int (ng_sumh (M 74) i)), some (.int (nI i))] [] M (fun r' M' => r' = some (.int (ng_sumh (M 74) n)) ∧ M' = M) := by
    intro m
    induction m with
    | zero =>
      intro i hi
      have hi2 : i = n := by omega
      subst hi2
      refine ng_iload_3 dX9_toldOf_61 ?_
      refine ng_aload_0 dX9_toldOf_62 ?_
      refine ng_gR dX9_toldOf_63 fl_X9_9 (by first | rfl | assumption) ?_
      refine ng_iconst_1 dX9_toldOf_66 ?_
      refine ng_ialdL (j := 1) dX9_toldOf_67 (by first | rfl | assumption) (by first | assumption | (unfold vp_in; decide)) (by decide) ?_
      refine ng_icmp_ge 86 dX9_toldOf_68 (by decide +kernel) (fun h68 => ?_) (fun h68 => ?_)
      · refine ng_iload_2 dX9_toldOf_86 ?_
        exact ng_ireturn dX9_toldOf_87 ⟨rfl, rfl⟩
      · exact absurd (by rw [hn]; exact Int32.le_refl _) h68
    | succ m ih =>
      intro i hi
      refine ng_iload_3 dX9_toldOf_61 ?_
      refine ng_aload_0 dX9_toldOf_62 ?_
      refine ng_gR dX9_toldOf_63 fl_X9_9 (by first | rfl | assumption) ?_
      refine ng_iconst_1 dX9_toldOf_66 ?_
      refine ng_ialdL (j := 1) dX9_toldOf_67 (by first | rfl | assumption) (by first | assumption | (unfold vp_in; decide)) (by decide) ?_
      refine ng_icmp_ge 86 dX9_toldOf_68 (by decide +kernel) (fun h68 => ?_) (fun h68 => ?_)
      · rw [hn] at h68; exact absurd h68 (nI_ge (by omega) (by omega))
      · refine ng_iload_2 dX9_toldOf_71 ?_
        refine ng_aload_0 dX9_toldOf_72 ?_
        refine ng_iload_3 dX9_toldOf_73 ?_
        refine ng_iconst_3 dX9_toldOf_74 ?_
        refine ng_callV_2x (y2 := mi_X9_of) dX9_toldOf_75 lk_X9_108 ms_X9_of my_X9_of (by first | exact ⟨_, rfl⟩ | assumption | exact ng_fld_obj (f := 0) (by assumption)) mc_X9 (by first | decide | exact Nat.le_of_ble_eq_true rfl) (s_X9_of (j := 3) rfl rfl (by omega) (by decide)) (by decide) ?_
        refine ng_iadd dX9_toldOf_78 ?_
        refine ng_istore_2 dX9_toldOf_79 (by first | rfl | assumption) ?_
        refine ng_iinc_3 (w := 1) dX9_toldOf_80 (by decide) rfl ?_
        refine ng_goto 61 dX9_toldOf_83 (by decide +kernel) ?_
        rw [nI_1, show 21 + 4 * i + 3 = 24 + 4 * i by omega]
        exact ih (i + 1) (by omega)
  refine ng_iconst_0 dX9_toldOf_0 ?_
  refine ng_istore_2 dX9_toldOf_1 (by first | rfl | assumption) ?_
  refine ng_iload_1 dX9_toldOf_2 ?_
  refine sw_X9_toldOf_3 (fun h3 => ?_) (fun h3 => ?_) (fun h3 => ?_) (fun h3 => ?_) (fun h3n0 h3n1 h3n2 h3n3 => ?_)
  · refine ng_aload_0 dX9_toldOf_32 ?_
    refine ng_gR dX9_toldOf_33 fl_X9_9 (by first | rfl | assumption) ?_
    refine ng_bipush (v := 6) dX9_toldOf_36 (by decide) ?_
    refine ng_ialdL (j := 6) dX9_toldOf_38 (by first | rfl | assumption) (by first | assumption | (unfold vp_in; decide)) (by decide) ?_
    exact ng_ireturn dX9_toldOf_39 ⟨by simp_all [ng_fig], rfl⟩
  · refine ng_aload_0 dX9_toldOf_40 ?_
    refine ng_gR dX9_toldOf_41 fl_X9_9 (by first | rfl | assumption) ?_
    refine ng_iconst_3 dX9_toldOf_44 ?_
    refine ng_ialdL (j := 3) dX9_toldOf_45 (by first | rfl | assumption) (by first | assumption | (unfold vp_in; decide)) (by decide) ?_
    exact ng_ireturn dX9_toldOf_46 ⟨by simp_all [ng_fig], rfl⟩
  · refine ng_aload_0 dX9_toldOf_47 ?_
    refine ng_gR dX9_toldOf_48 fl_X9_9 (by first | rfl | assumption) ?_
    refine ng_iconst_5 dX9_toldOf_51 ?_
    refine ng_ialdL (j := 5) dX9_toldOf_52 (by first | rfl | assumption) (by first | assumption | (unfold vp_in; decide)) (by decide) ?_
    exact ng_ireturn dX9_toldOf_53 ⟨by simp_all [ng_fig], rfl⟩
  · refine ng_aload_0 dX9_toldOf_54 ?_
    refine ng_callV_0x (y2 := mi_X9_ends) dX9_toldOf_55 lk_X9_227 ms_X9_ends my_X9_ends (by first | exact ⟨_, rfl⟩ | assumption | exact ng_fld_obj (f := 0) (by assumption)) mc_X9 (by first | decide | exact Nat.le_of_ble_eq_true rfl) (s_X9_ends hl) (by decide) ?_
    exact ng_ireturn dX9_toldOf_58 ⟨by simp_all [ng_fig], rfl⟩
  · refine ng_iconst_0 dX9_toldOf_59 ?_
    refine ng_istore_3 dX9_toldOf_60 (by first | rfl | assumption) ?_
    refine (lp n 0 (by omega)).imp (fun r M' h => ?_)
    rw [ng_fig, if_neg h3n0, if_neg h3n1, if_neg h3n2, if_neg h3n3, hyn]
    exact h
theorem s_X9_putBack {X : Nat × (Nat → Int32)} {M : ng_M} {v : Int32} : ng_EvX X 2 mi_X9_putBack [.ref 73, .int v] (M) (some (.int v)) (ng_row M 74 (ng_cp (M 76) (M 74))) := by
  refine ng_EvX.ofI (lv := [some (.ref 73), some (.int v)]) (ty := .int) (by decide) (Nat.le_of_ble_eq_true rfl) rfl rfl rfl ?_
  refine ng_aload_0 dX9_putBack_0 ?_
  refine ng_gR dX9_putBack_1 fl_X9_16 (by first | rfl | assumption) ?_
  refine ng_aload_0 dX9_putBack_4 ?_
  refine ng_gR dX9_putBack_5 fl_X9_9 (by first | rfl | assumption) ?_
  refine ng_callS_2v (y2 := mi_X9_copy) dX9_putBack_8 lk_X9_76 ms_X9_copy my_X9_copy (by first | decide | exact Nat.le_of_ble_eq_true rfl) (s_X9_copy rfl rfl (by decide)) (by decide) ?_
  refine ng_iload_1 dX9_putBack_11 ?_
  exact ng_ireturn dX9_putBack_12 ⟨rfl, rfl⟩
theorem ng_ra.start {M : ng_M} (h : ng_okY (M 74)) : ng_ra (ng_row M 76 (ng_cp (M 74) (M 76))) (ng_row M 76 (ng_cp (M 74) (M 76))) (M 74) := ⟨ng_off.rf, ng_row_ne (by decide), fun k _ => by rw [ng_row_ne (by decide)], h⟩
theorem ng_ra.back {M M1 : ng_M} {a : ng_R} (h : ng_ra (ng_row M 76 (ng_cp (M 74) (M 76))) M1 a) : ng_row M1 74 (ng_cp (M1 76) (M1 74)) 74 = M 74 ∧ ng_off [76, 81, 82, 83] M (ng_row M1 74 (ng_cp (M1 76) (M1 74))) := by
  obtain ⟨h1, h2, h3, h4⟩ := h
  have e76 : M1 76 = ng_cp (M 74) (M 76) := by rw [h1 76 (by decide), ng_row_eq]
  have e : ng_cp (M1 76) (M1 74) = M 74 := by
    funext k
    by_cases q : k < 227
    · rw [ng_cp_at q, e76, ng_cp_at q]
    · rw [ng_cp, if_neg q, h2, h3 k (by omega), ng_row_ne (by decide)]
  refine ⟨by rw [ng_row_eq, e], fun k hk => ?_⟩
  by_cases q : k = 74
  · subst q; rw [ng_row_eq, e]
  · rw [ng_row_ne q]
    simp at hk
    rw [h1 k (by simp; omega), ng_row_ne (by omega)]
theorem ng_ra.rout {M M1 : ng_M} {a : ng_R} (h : ng_ra (ng_row M 76 (ng_cp (M 74) (M 76))) M1 a) : ng_rout M (ng_row M1 74 (ng_cp (M1 76) (M1 74))) := ng_rout.of h.back.2 (by decide) (by decide)
theorem s_X1_from {X : Nat × (Nat → Int32)} {M : ng_M} {a : ng_R} (hr : ng_rl M a) (hv : ng_sv M 15 a) (hok : ng_okY a) : ng_Ev X 2 mi_X1_from [.ref 39, .ref 15] M (fun r M' => r = some (.ref 41) ∧ ng_ca M M' 41 a) := by
  refine ng_Ev.of (lv := [some (.ref 39), some (.ref 15)]) (by decide) (Nat.le_of_ble_eq_true rfl) rfl (fun r M' h => Or.inr (Or.inr ⟨Or.inr ⟨41, h.1⟩, _, rfl⟩)) ?_
  refine ng_aload_0 dX1_from_0 ?_
  refine ng_gR dX1_from_1 fl_X1_27 (by first | rfl | assumption) ?_
  refine ng_aload_1 dX1_from_4 ?_
  refine ng_callV_1w (y2 := mi_X5_take) dX1_from_5 lk_X1_31 ms_X5_take my_X5_take (by first | exact ⟨_, rfl⟩ | assumption | exact ng_fld_obj (f := 0) (by assumption)) mc_X5 (by first | decide | exact Nat.le_of_ble_eq_true rfl) (s_X5_take (s := 41) (s2 := 15) (by unfold ng_isT; omega) (by unfold ng_isT; omega) (by omega)) (by decide) (fun M2 ht => ?_)
  refine ng_aload_0 dX1_from_8 ?_
  refine ng_gR dX1_from_9 fl_X1_27 (by first | rfl | assumption) ?_
  exact ng_areturn dX1_from_12 ⟨rfl, fun k hk => ht.1 k (by simp at hk ⊢; omega), hr.kept (fun k hk => ht.1 k (by simp at hk ⊢; omega)) (fun _ _ => rfl), hv.took ht, hok⟩
abbrev ok_then (n t w : Int32) : Bool := ng_in n 0 40 && (ng_in t 0 9 && ng_in w 0 4)
theorem ng_isS41 : ng_isS 41 := by unfold ng_isS; omega
theorem c_then {X : Nat × (Nat → Int32)} {M : ng_M} {n t w : Int32} (h : ng_I1 M) : ng_EvI X 7 mi_X8_then [.ref 0, .int n, .int t, .int w] M (fun r M1 => ng_a8 M (if ok_then n t w then .inr (ng_fig (ng_yrs (M 74) t n.toNatClampNeg) w) else .inl 1) r M1) := by
  refine ng_EvI.of (lv := [some (.ref 0), some (.int n), some (.int t), some (.int w), none]) (ty := .int) (by decide) (Nat.le_of_ble_eq_true rfl) rfl rfl (fun _ _ _ => rfl) ?_
  refine ng_iload_1 dX8_then_0 ?_
  refine ng_iconst_0 dX8_then_1 ?_
  refine ng_bipush (v := 40) dX8_then_2 (by decide) ?_
  refine ng_callS_3x (y2 := mi_X8_isWithin) dX8_then_4 lk_X8_61 ms_X8_isWithin my_X8_isWithin (by first | decide | exact Nat.le_of_ble_eq_true rfl) (s_X8_isWithin) (by decide) ?_
  refine ng_ifb_eq 26 dX8_then_7 (by decide +kernel) (fun h7 => ?_) (fun h7 => ?_)
  · refine ng_aload_0 dX8_then_26 ?_
    refine ng_ldc dX8_then_27 kc_X8_65 ?_
    refine ng_callV_1x (y2 := mi_X8_fails) dX8_then_29 lk_X8_66 ms_X8_fails my_X8_fails (by first | exact ⟨_, rfl⟩ | assumption | exact ng_fld_obj (f := 0) (by assumption)) mc_X8 (by first | decide | exact Nat.le_of_ble_eq_true rfl) (s_X8_fails (k := 1) (by decide) (by decide) (by decide)) (by decide) ?_
    exact ng_ireturn dX8_then_32 ⟨_, rfl, by rw [if_neg (by simp_all [ok_then])]; exact ⟨M, fun _ _ => rfl, by decide, rfl⟩⟩
  · refine ng_iload_2 dX8_then_10 ?_
    refine ng_callS_1x (y2 := mi_X8_isStep) dX8_then_11 lk_X8_57 ms_X8_isStep my_X8_isStep (by first | decide | exact Nat.le_of_ble_eq_true rfl) (s_X8_isStep) (by decide) ?_
    refine ng_ifb_eq 26 dX8_then_14 (by decide +kernel) (fun h14 => ?_) (fun h14 => ?_)
    · refine ng_aload_0 dX8_then_26 ?_
      refine ng_ldc dX8_then_27 kc_X8_65 ?_
      refine ng_callV_1x (y2 := mi_X8_fails) dX8_then_29 lk_X8_66 ms_X8_fails my_X8_fails (by first | exact ⟨_, rfl⟩ | assumption | exact ng_fld_obj (f := 0) (by assumption)) mc_X8 (by first | decide | exact Nat.le_of_ble_eq_true rfl) (s_X8_fails (k := 1) (by decide) (by decide) (by decide)) (by decide) ?_
      exact ng_ireturn dX8_then_32 ⟨_, rfl, by rw [if_neg (by simp_all [ok_then])]; exact ⟨M, fun _ _ => rfl, by decide, rfl⟩⟩
    · refine ng_iload_3 dX8_then_17 ?_
      refine ng_iconst_0 dX8_then_18 ?_
      refine ng_iconst_4 dX8_then_19 ?_
      refine ng_callS_3x (y2 := mi_X8_isWithin) dX8_then_20 lk_X8_61 ms_X8_isWithin my_X8_isWithin (by first | decide | exact Nat.le_of_ble_eq_true rfl) (s_X8_isWithin) (by decide) ?_
      refine ng_ifb_ne 33 dX8_then_23 (by decide +kernel) (fun h23 => ?_) (fun h23 => ?_)
      · have hI := h.1.rl
        have ht := (ng_vin h14 (n := 10) (by decide)).1
        have hnv := ng_vin h7 (n := 41) (by decide)
        refine ng_aload_0 dX8_then_33 ?_
        refine ng_gR dX8_then_34 fl_X8_28 (by first | rfl | assumption) ?_
        refine ng_aload_0 dX8_then_37 ?_
        refine ng_gR dX8_then_38 fl_X8_12 (by first | rfl | assumption) ?_
        refine ng_gR dX8_then_41 fl_X8_81 (by first | rfl | assumption) ?_
        refine ng_callV_1r (y2 := mi_X1_from) dX8_then_44 lk_X8_210 ms_X1_from my_X1_from (by first | exact ⟨_, rfl⟩ | assumption | exact ng_fld_obj (f := 0) (by assumption)) mc_X1 (by first | decide | exact Nat.le_of_ble_eq_true rfl) (s_X1_from hI.1 hI.2.1 h.2.Y) (by decide) (fun M2 hf => ?_)
        refine ng_astore_4 dX8_then_47 (by first | rfl | assumption) ?_
        refine ng_aload_4 dX8_then_49 ?_
        refine ng_iload_1 dX8_then_51 ?_
        refine ng_iload_2 dX8_then_52 ?_
        refine ng_callV_2w (y2 := mi_X5_goesYears) dX8_then_53 lk_X8_214 ms_X5_goesYears my_X5_goesYears (by first | exact ⟨_, rfl⟩ | assumption | exact ng_fld_obj (f := 0) (by assumption)) mc_X5 (by first | decide | exact Nat.le_of_ble_eq_true rfl) (s_X5_goesYears ng_isS41 hf ht (ng_nat hnv.1) (by omega)) (by decide) (fun M3 hg => ?_)
        refine ng_aload_4 dX8_then_56 ?_
        refine ng_iload_3 dX8_then_58 ?_
        refine ng_callV_1x (y2 := mi_X5_figure) dX8_then_59 lk_X8_217 ms_X5_figure my_X5_figure (by first | exact ⟨_, rfl⟩ | assumption | exact ng_fld_obj (f := 0) (by assumption)) mc_X5 (by first | decide | exact Nat.le_of_ble_eq_true rfl) (s_X5_figure ng_isS41 hg.2.1 hg.2.2.1 hg.2.2.2) (by decide) ?_
        exact ng_ireturn dX8_then_62 ⟨_, rfl, by rw [if_pos (by simp [ok_then, h7, h14, h23])]; exact ⟨M3, ng_out.of hg.1 (by decide), rfl, rfl⟩⟩
      · refine ng_aload_0 dX8_then_26 ?_
        refine ng_ldc dX8_then_27 kc_X8_65 ?_
        refine ng_callV_1x (y2 := mi_X8_fails) dX8_then_29 lk_X8_66 ms_X8_fails my_X8_fails (by first | exact ⟨_, rfl⟩ | assumption | exact ng_fld_obj (f := 0) (by assumption)) mc_X8 (by first | decide | exact Nat.le_of_ble_eq_true rfl) (s_X8_fails (k := 1) (by decide) (by decide) (by decide)) (by decide) ?_
        exact ng_ireturn dX8_then_32 ⟨_, rfl, by rw [if_neg (by simp_all [ok_then])]; exact ⟨M, fun _ _ => rfl, by decide, rfl⟩⟩
theorem r_then {X : Nat × (Nat → Int32)} {M : ng_M} {n t w : Int32} (h : ng_ok (M 74)) : ng_EvI X 9 mi_X9_then [.ref 73, .int n, .int t, .int w] M (fun r M1 => ng_a9 M (if ok_then n t w then .inr (ng_fig (ng_yrs (M 74) t n.toNatClampNeg) w) else .inl 1) r M1) := by
  refine ng_EvI.of (lv := [some (.ref 73), some (.int n), some (.int t), some (.int w)]) (ty := .int) (by decide) (Nat.le_of_ble_eq_true rfl) rfl rfl (fun _ _ _ => rfl) ?_
  refine ng_iload_1 dX9_then_0 ?_
  refine ng_callS_1x (y2 := mi_X9_isAhead) dX9_then_1 lk_X9_230 ms_X9_isAhead my_X9_isAhead (by first | decide | exact Nat.le_of_ble_eq_true rfl) (s_X9_isAhead) (by decide) ?_
  refine ng_ifb_eq 23 dX9_then_4 (by decide +kernel) (fun h4 => ?_) (fun h4 => ?_)
  · refine ng_aload_0 dX9_then_23 ?_
    refine ng_ldc dX9_then_24 kc_X9_91 ?_
    refine ng_callV_1x (y2 := mi_X9_finding) dX9_then_26 lk_X9_92 ms_X9_finding my_X9_finding (by first | exact ⟨_, rfl⟩ | assumption | exact ng_fld_obj (f := 0) (by assumption)) mc_X9 (by first | decide | exact Nat.le_of_ble_eq_true rfl) (s_X9_finding (k := 1) (by decide) (by decide) (by decide)) (by decide) ?_
    exact ng_ireturn dX9_then_29 ⟨_, rfl, by rw [if_neg (by simp_all [ok_then])]; exact ⟨M, ng_rout.rf, by decide, rfl⟩⟩
  · refine ng_iload_2 dX9_then_7 ?_
    refine ng_callS_1x (y2 := mi_X9_isStep) dX9_then_8 lk_X9_84 ms_X9_isStep my_X9_isStep (by first | decide | exact Nat.le_of_ble_eq_true rfl) (s_X9_isStep) (by decide) ?_
    refine ng_ifb_eq 23 dX9_then_11 (by decide +kernel) (fun h11 => ?_) (fun h11 => ?_)
    · refine ng_aload_0 dX9_then_23 ?_
      refine ng_ldc dX9_then_24 kc_X9_91 ?_
      refine ng_callV_1x (y2 := mi_X9_finding) dX9_then_26 lk_X9_92 ms_X9_finding my_X9_finding (by first | exact ⟨_, rfl⟩ | assumption | exact ng_fld_obj (f := 0) (by assumption)) mc_X9 (by first | decide | exact Nat.le_of_ble_eq_true rfl) (s_X9_finding (k := 1) (by decide) (by decide) (by decide)) (by decide) ?_
      exact ng_ireturn dX9_then_29 ⟨_, rfl, by rw [if_neg (by simp_all [ok_then])]; exact ⟨M, ng_rout.rf, by decide, rfl⟩⟩
    · refine ng_iload_3 dX9_then_14 ?_
      refine ng_iconst_0 dX9_then_15 ?_
      refine ng_iconst_4 dX9_then_16 ?_
      refine ng_callS_3x (y2 := mi_X9_within) dX9_then_17 lk_X9_80 ms_X9_within my_X9_within (by first | decide | exact Nat.le_of_ble_eq_true rfl) (s_X9_within) (by decide) ?_
      refine ng_ifb_ne 30 dX9_then_20 (by decide +kernel) (fun h20 => ?_) (fun h20 => ?_)
      · have ht := (ng_vin h11 (n := 10) (by decide)).1
        have hnv := ng_vin h4 (n := 41) (by decide)
        refine ng_aload_0 dX9_then_30 ?_
        refine ng_gR dX9_then_31 fl_X9_9 (by first | rfl | assumption) ?_
        refine ng_aload_0 dX9_then_34 ?_
        refine ng_gR dX9_then_35 fl_X9_16 (by first | rfl | assumption) ?_
        refine ng_callS_2v (y2 := mi_X9_copy) dX9_then_38 lk_X9_76 ms_X9_copy my_X9_copy (by first | decide | exact Nat.le_of_ble_eq_true rfl) (s_X9_copy rfl rfl (by decide)) (by decide) ?_
        refine ng_aload_0 dX9_then_41 ?_
        refine ng_iload_1 dX9_then_42 ?_
        refine ng_iload_2 dX9_then_43 ?_
        refine ng_callV_2w (y2 := mi_X9_yearsGo) dX9_then_44 lk_X9_233 ms_X9_yearsGo my_X9_yearsGo (by first | exact ⟨_, rfl⟩ | assumption | exact ng_fld_obj (f := 0) (by assumption)) mc_X9 (by first | decide | exact Nat.le_of_ble_eq_true rfl) (s_X9_yearsGo (ng_ra.start h.Y) ht (ng_nat hnv.1) (by omega)) (by decide) (fun M3 hg => ?_)
        refine ng_aload_0 dX9_then_47 ?_
        refine ng_aload_0 dX9_then_48 ?_
        refine ng_iload_3 dX9_then_49 ?_
        refine ng_callV_1x (y2 := mi_X9_toldOf) dX9_then_50 lk_X9_237 ms_X9_toldOf my_X9_toldOf (by first | exact ⟨_, rfl⟩ | assumption | exact ng_fld_obj (f := 0) (by assumption)) mc_X9 (by first | decide | exact Nat.le_of_ble_eq_true rfl) (s_X9_toldOf (by rw [hg.2.1]; exact hg.2.2.2)) (by decide) ?_
        refine ng_callV_1x (y2 := mi_X9_putBack) dX9_then_53 lk_X9_240 ms_X9_putBack my_X9_putBack (by first | exact ⟨_, rfl⟩ | assumption | exact ng_fld_obj (f := 0) (by assumption)) mc_X9 (by first | decide | exact Nat.le_of_ble_eq_true rfl) (s_X9_putBack) (by decide) ?_
        exact ng_ireturn dX9_then_56 ⟨_, rfl, by rw [if_pos (by simp [ok_then, h4, h11, h20])]; exact ⟨_, hg.rout, by rw [hg.2.1], rfl⟩⟩
      · refine ng_aload_0 dX9_then_23 ?_
        refine ng_ldc dX9_then_24 kc_X9_91 ?_
        refine ng_callV_1x (y2 := mi_X9_finding) dX9_then_26 lk_X9_92 ms_X9_finding my_X9_finding (by first | exact ⟨_, rfl⟩ | assumption | exact ng_fld_obj (f := 0) (by assumption)) mc_X9 (by first | decide | exact Nat.le_of_ble_eq_true rfl) (s_X9_finding (k := 1) (by decide) (by decide) (by decide)) (by decide) ?_
        exact ng_ireturn dX9_then_29 ⟨_, rfl, by rw [if_neg (by simp_all [ok_then])]; exact ⟨M, ng_rout.rf, by decide, rfl⟩⟩
theorem pr_then {X : Nat × (Nat → Int32)} {M : ng_M} {n t w : Int32} (h : ng_inv M) : ng_pair X mi_X8_then mi_X9_then [.int n, .int t, .int w] M :=
  ng_pair.A h (c_then h.1) (by decide) (d9 := 9) (by decide) (fun M1 e => by rw [← e 74 (by decide)]; exact r_then (by rw [e 74 (by decide)]; exact h.1.2))
