/-! ===== texts: the reference's reader ===== -/
def ng_fl (g : Nat → Int32) (p o : Nat) (w : Bool) (n : Nat) : Nat → Int32 := fun j => if j = 7 then nI p else if j = 8 then nI o else if j = 10 then ng_bi w else if j = 12 then nI n else g j
theorem ng_fl7 {g : Nat → Int32} {p p' o n : Nat} {w : Bool} : upd (ng_fl g p o w n) 7 (nI p') = ng_fl g p' o w n := by
  funext j
  by_cases q : j = 7
  · subst q; rw [ng_upd_eq]; rfl
  · rw [ng_upd_ne q]; simp [ng_fl, q]
theorem ng_fl8 {g : Nat → Int32} {p o' o n : Nat} {w : Bool} : upd (ng_fl g p o w n) 8 (nI o') = ng_fl g p o' w n := by
  funext j
  by_cases q : j = 8
  · subst q; rw [ng_upd_eq]; rfl
  · rw [ng_upd_ne q]; simp [ng_fl, q]
theorem ng_fl10 {g : Nat → Int32} {p o n : Nat} {w w' : Bool} : upd (ng_fl g p o w n) 10 (ng_bi w') = ng_fl g p o w' n := by
  funext j
  by_cases q : j = 10
  · subst q; rw [ng_upd_eq]; rfl
  · rw [ng_upd_ne q]; simp [ng_fl, q]
theorem ng_fl12 {g : Nat → Int32} {p o n n' : Nat} {w : Bool} : upd (ng_fl g p o w n) 12 (nI n') = ng_fl g p o w n' := by
  funext j
  by_cases q : j = 12
  · subst q; rw [ng_upd_eq]; rfl
  · rw [ng_upd_ne q]; simp [ng_fl, q]
def ng_cl (g : Nat → Int32) (cs : List Int32) : Nat → Int32 := fun j => if j < cs.length then cs.getD j 0 else g j
theorem ng_cl_app {g : Nat → Int32} {cs : List Int32} {c : Int32} : upd (ng_cl g cs) cs.length c = ng_cl g (cs ++ [c]) := by
  funext j
  by_cases qj : j = cs.length
  · subst qj
    rw [ng_upd_eq]
    simp [ng_cl]
  · rw [ng_upd_ne qj]
    unfold ng_cl
    by_cases ql : j < cs.length
    · rw [if_pos ql, if_pos (by simp; omega), List.getD_eq_getElem?_getD, List.getD_eq_getElem?_getD, List.getElem?_append_left ql]
    · rw [if_neg ql, if_neg (by simp; omega)]
def ng_RF (M : ng_M) (p : Nat) (cs : List Int32) (o : Nat) (w : Bool) : ng_M := ng_row (ng_row M 73 (ng_fl (M 73) p o w cs.length)) 80 (ng_cl (M 80) cs)
theorem ng_RF_73 {M : ng_M} {p o : Nat} {cs : List Int32} {w : Bool} : ng_RF M p cs o w 73 = ng_fl (M 73) p o w cs.length := by rw [ng_RF, ng_row_ne (by decide), ng_row_eq]
theorem ng_RF_80 {M : ng_M} {p o : Nat} {cs : List Int32} {w : Bool} : ng_RF M p cs o w 80 = ng_cl (M 80) cs := by rw [ng_RF, ng_row_eq]
theorem ng_RF_o {M : ng_M} {p o : Nat} {cs : List Int32} {w : Bool} : ng_off [73, 80] M (ng_RF M p cs o w) := fun k hk => by
  simp at hk
  rw [ng_RF, ng_row_ne (by omega), ng_row_ne (by omega)]
theorem ng_RF_74 {M : ng_M} {p o : Nat} {cs : List Int32} {w : Bool} : ng_RF M p cs o w 74 = M 74 := ng_RF_o 74 (by decide)
theorem ng_RF_7 {M : ng_M} {p o : Nat} {cs : List Int32} {w : Bool} : ng_RF M p cs o w 73 7 = nI p := by rw [ng_RF_73]; rfl
theorem ng_RF_8 {M : ng_M} {p o : Nat} {cs : List Int32} {w : Bool} : ng_RF M p cs o w 73 8 = nI o := by rw [ng_RF_73]; rfl
theorem ng_RF_9 {M : ng_M} {p o : Nat} {cs : List Int32} {w : Bool} : ng_RF M p cs o w 73 9 = M 73 9 := by rw [ng_RF_73]; rfl
theorem ng_RF_10 {M : ng_M} {p o : Nat} {cs : List Int32} {w : Bool} : ng_RF M p cs o w 73 10 = ng_bi w := by rw [ng_RF_73]; rfl
theorem ng_RF_12 {M : ng_M} {p o : Nat} {cs : List Int32} {w : Bool} : ng_RF M p cs o w 73 12 = nI cs.length := by rw [ng_RF_73]; rfl
theorem ng_RF_row {M : ng_M} {p o : Nat} {cs : List Int32} {w : Bool} {g : Nat → Int32} : ng_row (ng_RF M p cs o w) 73 g = ng_row (ng_row M 73 g) 80 (ng_cl (M 80) cs) := by
  funext k
  by_cases q : k = 73
  · subst q; rw [ng_row_eq, ng_row_ne (by decide), ng_row_eq]
  · rw [ng_row_ne q, ng_RF]
    by_cases q2 : k = 80
    · subst q2; rw [ng_row_eq, ng_row_eq]
    · rw [ng_row_ne q2, ng_row_ne q2, ng_row_ne q, ng_row_ne q]
theorem ng_RF_pp {M : ng_M} {p o : Nat} {cs : List Int32} {w : Bool} : ng_row (ng_RF M p cs o w) 73 (upd (ng_RF M p cs o w 73) 7 (ng_RF M p cs o w 73 7 + 1)) = ng_RF M (p + 1) cs o w := by
  rw [ng_RF_7, nI_1, ng_RF_row, ng_RF_73, ng_fl7]; rfl
theorem ng_RF_p0 {M : ng_M} {p o : Nat} {cs : List Int32} {w : Bool} : ng_row (ng_RF M p cs o w) 73 (upd (ng_RF M p cs o w 73) 7 (ng_RF M p cs o w 73 7 + 0)) = ng_RF M p cs o w := by
  rw [ng_RF_7, Int32.add_zero, ng_RF_row, ng_RF_73, ng_fl7]; rfl
theorem ng_RF_op {M : ng_M} {p o : Nat} {cs : List Int32} {w : Bool} : ng_row (ng_RF M p cs o w) 73 (upd (ng_RF M p cs o w 73) 8 (ng_RF M p cs o w 73 8 + 1)) = ng_RF M p cs (o + 1) w := by
  rw [ng_RF_8, nI_1, ng_RF_row, ng_RF_73, ng_fl8]; rfl
theorem ng_RF_om {M : ng_M} {p o : Nat} {cs : List Int32} {w : Bool} : ng_row (ng_RF M p cs (o + 1) w) 73 (upd (ng_RF M p cs (o + 1) w 73) 8 (ng_RF M p cs (o + 1) w 73 8 - 1)) = ng_RF M p cs o w := by
  rw [ng_RF_8, nI_pred, ng_RF_row, ng_RF_73, ng_fl8]; rfl
theorem ng_RF_w {M : ng_M} {p o : Nat} {cs : List Int32} {w : Bool} (w' : Bool) : ng_row (ng_RF M p cs o w) 73 (upd (ng_RF M p cs o w 73) 10 (ng_bi w')) = ng_RF M p cs o w' := by
  rw [ng_RF_row, ng_RF_73, ng_fl10]; rfl
theorem ng_RF_w1 {M : ng_M} {p o : Nat} {cs : List Int32} {w : Bool} : ng_row (ng_RF M p cs o w) 73 (upd (ng_RF M p cs o w 73) 10 1) = ng_RF M p cs o true := ng_RF_w true
theorem ng_RF_w0 {M : ng_M} {p o : Nat} {cs : List Int32} {w : Bool} : ng_row (ng_RF M p cs o w) 73 (upd (ng_RF M p cs o w 73) 10 0) = ng_RF M p cs o false := ng_RF_w false
theorem ng_RF_cd {M : ng_M} {p o : Nat} {cs : List Int32} {w : Bool} {c : Int32} {M1 : ng_M} (h : M1 = ng_row (ng_RF M p cs o w) 80 (upd (ng_RF M p cs o w 80) cs.length c)) : ng_row M1 73 (upd (M1 73) 12 (M1 73 12 + 1)) = ng_RF M p (cs ++ [c]) o w := by
  have e73 : M1 73 = ng_fl (M 73) p o w cs.length := by rw [h, ng_row_ne (by decide), ng_RF_73]
  have e12 : M1 73 12 = nI cs.length := by rw [e73]; rfl
  rw [e12, nI_1, e73, ng_fl12]
  funext k
  by_cases q : k = 73
  · subst q; rw [ng_row_eq, ng_RF_73]; simp
  · rw [ng_row_ne q, h]
    by_cases q2 : k = 80
    · subst q2; rw [ng_row_eq, ng_RF_80, ng_RF_80, ng_cl_app]
    · rw [ng_row_ne q2, ng_RF_o k (by simp; omega), ng_RF_o k (by simp; omega)]
def ng_RG (M : ng_M) (H : Nat → Int32) (L : Nat) (u : Int32) : Prop := ng_hH H L ∧ M 74 8 = nI L ∧ M 73 9 = u ∧ (u = 0 ∨ u = 1) ∧ ∀ p, p < L → M 74 (53 + p) = H p
theorem s_X9_here {X : Nat × (Nat → Int32)} {M : ng_M} {H : Nat → Int32} {L p o : Nat} {u : Int32} {cs : List Int32} {w : Bool} (hc : ng_RG M H L u) (hp : p ≤ L) : ng_EvX X 1 mi_X9_here [.ref 73] (ng_RF M p cs o w) (some (.int (if w = true then -1 else H p))) (ng_RF M p cs o w) := by
  have hL := hc.1.1
  refine ng_EvX.ofI (lv := [some (.ref 73)]) (ty := .int) (by decide) (Nat.le_of_ble_eq_true rfl) rfl rfl rfl ?_
  refine ng_aload_0 dX9_here_0 ?_
  refine ng_gI dX9_here_1 fl_X9_140 (by first | rfl | assumption) ?_
  rw [ng_RF_10]
  refine ng_ifb_ne 36 dX9_here_4 (by decide +kernel) (fun h4 => ?_) (fun h4 => ?_)
  · refine ng_iconst_m1 dX9_here_36 ?_
    exact ng_ireturn dX9_here_37 ⟨by first | rw [if_pos h4] | rw [ng_RF_74, hc.2.2.2.2 p hlt, if_neg (by rw [h4]; decide)] | rw [if_neg (by rw [h4]; decide), hc.1.2.1 p (Nat.not_lt.mp (fun q => nI_ge q (by omega) h18))], rfl⟩
  · refine ng_aload_0 dX9_here_7 ?_
    refine ng_gI dX9_here_8 fl_X9_144 (by first | rfl | assumption) ?_
    refine ng_aload_0 dX9_here_11 ?_
    refine ng_gR dX9_here_12 fl_X9_9 (by first | rfl | assumption) ?_
    refine ng_bipush (v := 8) dX9_here_15 (by decide) ?_
    refine ng_ialdL (j := 8) dX9_here_17 (by first | rfl | assumption) (by first | assumption | (unfold vp_in; decide)) (by decide) ?_
    rw [ng_RF_7, ng_RF_74, hc.2.1]
    refine ng_icmp_ge 36 dX9_here_18 (by decide +kernel) (fun h18 => ?_) (fun h18 => ?_)
    · refine ng_iconst_m1 dX9_here_36 ?_
      exact ng_ireturn dX9_here_37 ⟨by first | rw [if_pos h4] | rw [ng_RF_74, hc.2.2.2.2 p hlt, if_neg (by rw [h4]; decide)] | rw [if_neg (by rw [h4]; decide), hc.1.2.1 p (Nat.not_lt.mp (fun q => nI_ge q (by omega) h18))], rfl⟩
    · have hlt : p < L := Nat.not_le.mp (fun q => h18 (nI_le q (by omega)))
      refine ng_aload_0 dX9_here_21 ?_
      refine ng_gR dX9_here_22 fl_X9_9 (by first | rfl | assumption) ?_
      refine ng_bipush (v := 53) dX9_here_25 (by decide) ?_
      refine ng_aload_0 dX9_here_27 ?_
      refine ng_gI dX9_here_28 fl_X9_144 (by first | rfl | assumption) ?_
      rw [ng_RF_7]
      refine ng_iadd dX9_here_31 ?_
      rw [show (53 : Int32) = nI 53 from rfl, nI_add]
      refine ng_ialdL (j := (53 + p)) dX9_here_32 (by first | rfl | assumption) (by exact vp_in_nI (by omega) (by omega)) (by exact nI_clamp (by omega)) ?_
      refine ng_goto 37 dX9_here_33 (by decide +kernel) ?_
      exact ng_ireturn dX9_here_37 ⟨by first | rw [if_pos h4] | rw [ng_RF_74, hc.2.2.2.2 p hlt, if_neg (by rw [h4]; decide)] | rw [if_neg (by rw [h4]; decide), hc.1.2.1 p (Nat.not_lt.mp (fun q => nI_ge q (by omega) h18))], rfl⟩
theorem s_X9_takes {X : Nat × (Nat → Int32)} {M : ng_M} {H : Nat → Int32} {L p o : Nat} {u : Int32} {cs : List Int32} {w : Bool} (hc : ng_RG M H L u) (hp : p ≤ L) {c : Int32} (hcc : ¬ c = -1) : ng_EvX X 2 mi_X9_takes [.ref 73, .int c] (ng_RF M p cs o w) (some (.int (ng_bi (!w && decide (H p = c))))) (ng_RF M (if (!w && decide (H p = c)) = true then p + 1 else p) cs o w) := by
  refine ng_EvX.ofI (lv := [some (.ref 73), some (.int c), none]) (ty := .boolean) (by decide) (Nat.le_of_ble_eq_true rfl) rfl rfl (ng_bi_nar _) ?_
  refine ng_aload_0 dX9_takes_0 ?_
  refine ng_callV_0x (y2 := mi_X9_here) dX9_takes_1 lk_X9_148 ms_X9_here my_X9_here (by first | exact ⟨_, rfl⟩ | assumption | exact ng_fld_obj (f := 0) (by assumption)) mc_X9 (by first | decide | exact Nat.le_of_ble_eq_true rfl) (s_X9_here hc hp) (by decide) ?_
  refine ng_iload_1 dX9_takes_4 ?_
  refine ng_icmp_ne 12 dX9_takes_5 (by decide +kernel) (fun h5 => ?_) (fun h5 => ?_)
  · have hb : (!w && decide (H p = c)) = false := by
      cases w with
      | false => rw [if_neg (by decide)] at h5; simp [h5]
      | true => rfl
    refine ng_iconst_0 dX9_takes_12 ?_
    refine ng_istore_2 dX9_takes_13 (by first | rfl | assumption) ?_
    refine ng_aload_0 dX9_takes_14 ?_
    refine ng_dup dX9_takes_15 rfl ?_
    refine ng_gI dX9_takes_16 fl_X9_144 (by first | rfl | assumption) ?_
    refine ng_iload_2 dX9_takes_19 ?_
    refine ng_if_eq 27 dX9_takes_20 (by decide +kernel) (fun h20 => ?_) (fun h20 => ?_)
    · refine ng_iconst_0 dX9_takes_27 ?_
      refine ng_iadd dX9_takes_28 ?_
      refine ng_pI dX9_takes_29 fp_X9_144 (by first | rfl | assumption) rfl rfl ?_
      refine ng_iload_2 dX9_takes_32 ?_
      exact ng_ireturn dX9_takes_33 ⟨by rw [hb]; rfl, by first | rw [if_pos hb, ng_RF_pp] | rw [if_neg (by rw [hb]; decide), ng_RF_p0]⟩
    · exact absurd (by decide) h20
  · have hb : (!w && decide (H p = c)) = true := by
      cases w with
      | false => rw [if_neg (by decide)] at h5; simp [h5]
      | true => rw [if_pos rfl] at h5; exact absurd h5.symm hcc
    refine ng_iconst_1 dX9_takes_8 ?_
    refine ng_goto 13 dX9_takes_9 (by decide +kernel) ?_
    refine ng_istore_2 dX9_takes_13 (by first | rfl | assumption) ?_
    refine ng_aload_0 dX9_takes_14 ?_
    refine ng_dup dX9_takes_15 rfl ?_
    refine ng_gI dX9_takes_16 fl_X9_144 (by first | rfl | assumption) ?_
    refine ng_iload_2 dX9_takes_19 ?_
    refine ng_if_eq 27 dX9_takes_20 (by decide +kernel) (fun h20 => ?_) (fun h20 => ?_)
    · exact absurd h20 (by decide)
    · refine ng_iconst_1 dX9_takes_23 ?_
      refine ng_goto 28 dX9_takes_24 (by decide +kernel) ?_
      refine ng_iadd dX9_takes_28 ?_
      refine ng_pI dX9_takes_29 fp_X9_144 (by first | rfl | assumption) rfl rfl ?_
      refine ng_iload_2 dX9_takes_32 ?_
      exact ng_ireturn dX9_takes_33 ⟨by rw [hb]; rfl, by first | rw [if_pos hb, ng_RF_pp] | rw [if_neg (by rw [hb]; decide), ng_RF_p0]⟩
theorem s_X9_codes {X : Nat × (Nat → Int32)} {M : ng_M} {p o : Nat} {cs : List Int32} {w : Bool} {c : Int32} (hl : cs.length < 60) : ng_EvX X 1 mi_X9_codes [.ref 73, .int c] (ng_RF M p cs o w) none (ng_RF M p (if w = true then cs else cs ++ [c]) o w) := by
  refine ng_EvX.ofV (lv := [some (.ref 73), some (.int c)]) (by decide) (Nat.le_of_ble_eq_true rfl) rfl rfl ?_
  refine ng_aload_0 dX9_codes_0 ?_
  refine ng_gI dX9_codes_1 fl_X9_140 (by first | rfl | assumption) ?_
  rw [ng_RF_10]
  refine ng_ifb_ne 27 dX9_codes_4 (by decide +kernel) (fun h4 => ?_) (fun h4 => ?_)
  · exact ng_return dX9_codes_27 ⟨rfl, by first | rw [if_pos h4] | rw [if_neg (by rw [h4]; decide), ng_RF_cd rfl]⟩
  · refine ng_aload_0 dX9_codes_7 ?_
    refine ng_gR dX9_codes_8 fl_X9_36 (by first | rfl | assumption) ?_
    refine ng_aload_0 dX9_codes_11 ?_
    refine ng_gI dX9_codes_12 fl_X9_152 (by first | rfl | assumption) ?_
    rw [ng_RF_12]
    refine ng_iload_1 dX9_codes_15 ?_
    refine ng_iastL (j := cs.length) dX9_codes_16 (by first | rfl | assumption) (by exact vp_in_nI (by omega) (by omega)) (by exact nI_clamp (by omega)) ?_
    refine ng_aload_0 dX9_codes_17 ?_
    refine ng_dup dX9_codes_18 rfl ?_
    refine ng_gI dX9_codes_19 fl_X9_152 (by first | rfl | assumption) ?_
    refine ng_iconst_1 dX9_codes_22 ?_
    refine ng_iadd dX9_codes_23 ?_
    refine ng_pI dX9_codes_24 fp_X9_152 (by first | rfl | assumption) rfl rfl ?_
    exact ng_return dX9_codes_27 ⟨rfl, by first | rw [if_pos h4] | rw [if_neg (by rw [h4]; decide), ng_RF_cd rfl]⟩
def ng_KF (X : Nat × (Nat → Int32)) (M : ng_M) (L d : Nat) (y : ng_Y) (o : Nat) (f : Nat → ng_Rs) : Prop := ∀ (p : Nat) (cs : List Int32), p ≤ L → cs.length ≤ p → ng_EvX X d y [.ref 73] (ng_RF M p cs o false) none (ng_RF M (f p).2.1 (cs ++ (f p).2.2) o (!(f p).1))
theorem ng_ro0 {c : Int32} : ng_ro c = 0 ↔ c = 124 := ⟨fun h => by
  unfold ng_ro at h
  repeat' split at h
  all_goals first | (simp_all; done) | exact absurd h (by decide), fun h => by first | (subst h; decide) | (rcases h with rfl | rfl <;> decide) | (rcases h with rfl | rfl | rfl <;> decide)⟩
theorem ng_ro1 {c : Int32} : ng_ro c = 1 ↔ c = 38 := ⟨fun h => by
  unfold ng_ro at h
  repeat' split at h
  all_goals first | (simp_all; done) | exact absurd h (by decide), fun h => by first | (subst h; decide) | (rcases h with rfl | rfl <;> decide) | (rcases h with rfl | rfl | rfl <;> decide)⟩
theorem ng_ro2 {c : Int32} : ng_ro c = 2 ↔ c = 60 ∨ c = 61 ∨ c = 62 := ⟨fun h => by
  unfold ng_ro at h
  repeat' split at h
  all_goals first | (simp_all; done) | exact absurd h (by decide), fun h => by first | (subst h; decide) | (rcases h with rfl | rfl <;> decide) | (rcases h with rfl | rfl | rfl <;> decide)⟩
theorem ng_ro3 {c : Int32} : ng_ro c = 3 ↔ c = 43 ∨ c = 45 := ⟨fun h => by
  unfold ng_ro at h
  repeat' split at h
  all_goals first | (simp_all; done) | exact absurd h (by decide), fun h => by first | (subst h; decide) | (rcases h with rfl | rfl <;> decide) | (rcases h with rfl | rfl | rfl <;> decide)⟩
theorem ng_ro4 {c : Int32} : ng_ro c = 4 ↔ c = 42 ∨ c = 47 ∨ c = 37 := ⟨fun h => by
  unfold ng_ro at h
  repeat' split at h
  all_goals first | (simp_all; done) | exact absurd h (by decide), fun h => by first | (subst h; decide) | (rcases h with rfl | rfl <;> decide) | (rcases h with rfl | rfl | rfl <;> decide)⟩
theorem ng_oc_pos {c : Int32} (h : 0 ≤ ng_ro c) : ¬ ng_oc c ≤ 0 := by
  have q := (ng_ro_oc h).1
  have e : c = 124 ∨ c = 38 ∨ c = 60 ∨ c = 61 ∨ c = 62 ∨ c = 43 ∨ c = 45 ∨ c = 42 ∨ c = 47 ∨ c = 37 := by
    unfold ng_ro at h
    repeat' split at h
    all_goals first | (simp_all; done) | exact absurd h (by decide)
  rcases e with rfl | rfl | rfl | rfl | rfl | rfl | rfl | rfl | rfl | rfl <;> decide
theorem w_X9_both {X : Nat × (Nat → Int32)} {M : ng_M} {H : Nat → Int32} {L d o q : Nat} {u : Int32} {cs : List Int32} {F : Option Value → ng_M → Prop} (hc : ng_RG M H L u) (hd : 2 ≤ d) (hq : q ≤ L) (k : F none (ng_RF M q cs o true)) : ng_Go X mi_X9_both (d + 1) 4 [some (.ref 73)] [] (ng_RF M q cs o true) F := by
  refine ng_aload_0 dX9_both_4 ?_
  refine ng_bipush (v := 38) dX9_both_5 (by decide) ?_
  refine ng_callV_1x (y2 := mi_X9_takes) dX9_both_7 lk_X9_158 ms_X9_takes my_X9_takes (by first | exact ⟨_, rfl⟩ | assumption | exact ng_fld_obj (f := 0) (by assumption)) mc_X9 (by first | decide | exact Nat.le_of_ble_eq_true rfl) (s_X9_takes hc hq (by decide)) hd ?_
  refine ng_ifb_eq 27 dX9_both_10 (by decide +kernel) (fun h10 => ?_) (fun h10 => ?_)
  · rw [if_neg (by simp)]
    exact ng_return dX9_both_27 k
  · exact absurd h10 (by simp)
theorem l_X9_both {X : Nat × (Nat → Int32)} {M : ng_M} {H : Nat → Int32} {L d o : Nat} {u : Int32} {f : Nat → ng_Rs} {cs0 : List Int32} (hc : ng_RG M H L u) (hg : ng_gd L f) (hd : 2 ≤ d) (hs : ng_KF X M L d mi_X9_compared o f) : ∀ (n q : Nat) (cs : List Int32), q ≤ L → (cs0 ++ cs).length ≤ q → 50 ≤ q + n →
    ng_Go X mi_X9_both (d + 1) 4 [some (.ref 73)] [] (ng_RF M q (cs0 ++ cs) o false) (fun r' M' => r' = none ∧ M' = ng_RF M (ng_jl H 1 f n q cs).2.1 (cs0 ++ (ng_jl H 1 f n q cs).2.2) o (!(ng_jl H 1 f n q cs).1)) := by
  have hL := hc.1.1
  intro n
  induction n with
  | zero =>
    intro q cs hq hl hn
    refine ng_aload_0 dX9_both_4 ?_
    refine ng_bipush (v := 38) dX9_both_5 (by decide) ?_
    refine ng_callV_1x (y2 := mi_X9_takes) dX9_both_7 lk_X9_158 ms_X9_takes my_X9_takes (by first | exact ⟨_, rfl⟩ | assumption | exact ng_fld_obj (f := 0) (by assumption)) mc_X9 (by first | decide | exact Nat.le_of_ble_eq_true rfl) (s_X9_takes hc hq (by decide)) hd ?_
    refine ng_ifb_eq 27 dX9_both_10 (by decide +kernel) (fun h10 => ?_) (fun h10 => ?_)
    · rw [if_neg (by rw [h10]; decide)]
      exact ng_return dX9_both_27 ⟨rfl, rfl⟩
    · simp at h10; rw [hc.1.2.1 q (by omega)] at h10; exact absurd h10 (by decide)
  | succ n ih =>
    intro q cs hq hl hn
    refine ng_aload_0 dX9_both_4 ?_
    refine ng_bipush (v := 38) dX9_both_5 (by decide) ?_
    refine ng_callV_1x (y2 := mi_X9_takes) dX9_both_7 lk_X9_158 ms_X9_takes my_X9_takes (by first | exact ⟨_, rfl⟩ | assumption | exact ng_fld_obj (f := 0) (by assumption)) mc_X9 (by first | decide | exact Nat.le_of_ble_eq_true rfl) (s_X9_takes hc hq (by decide)) hd ?_
    refine ng_ifb_eq 27 dX9_both_10 (by decide +kernel) (fun h10 => ?_) (fun h10 => ?_)
    · rw [if_neg (by rw [h10]; decide)]
      exact ng_return dX9_both_27 ⟨rfl, by rw [ng_jl_no (fun z => by rw [ng_ro1.mp z] at h10; simp at h10)]; rfl⟩
    · rw [if_pos h10]
      simp at h10
      have hro : ng_ro (H q) = 1 := ng_ro1.mpr h10
      have hlt : q < L := hc.1.lt (by rw [h10]; decide)
      obtain ⟨g1, g2, g3, g4⟩ := hg (q + 1) (by omega)
      refine ng_aload_0 dX9_both_13 ?_
      refine ng_callV_0v (y2 := mi_X9_compared) dX9_both_14 lk_X9_165 ms_X9_compared my_X9_compared (by first | exact ⟨_, rfl⟩ | assumption | exact ng_fld_obj (f := 0) (by assumption)) mc_X9 (by first | decide | exact Nat.le_of_ble_eq_true rfl) (hs (q + 1) (cs0 ++ cs) (by omega) (by omega)) (by omega) ?_
      refine ng_aload_0 dX9_both_17 ?_
      refine ng_sipush (v := 20001) dX9_both_18 (by decide) ?_
      refine ng_callV_1v (y2 := mi_X9_codes) dX9_both_21 lk_X9_161 ms_X9_codes my_X9_codes (by first | exact ⟨_, rfl⟩ | assumption | exact ng_fld_obj (f := 0) (by assumption)) mc_X9 (by first | decide | exact Nat.le_of_ble_eq_true rfl) (s_X9_codes (by simp at hl ⊢; omega)) (by omega) ?_
      refine ng_goto 4 dX9_both_24 (by decide +kernel) ?_
      cases hx : (f (q + 1)).1 with
      | true =>
        rw [ng_jl_ok hro hx, if_neg (by decide), List.append_assoc, List.append_assoc, ← List.append_assoc cs, h10]
        exact ih _ _ g2 (by simp at hl ⊢; omega) (by omega)
      | false =>
        rw [if_pos (by decide)]
        exact w_X9_both hc hd g2 ⟨rfl, by rw [ng_jl_bad hro hx, List.append_assoc]; rfl⟩
theorem s_X9_both {X : Nat × (Nat → Int32)} {M : ng_M} {H : Nat → Int32} {L d o : Nat} {u : Int32} {f : Nat → ng_Rs} (hc : ng_RG M H L u) (hg : ng_gd L f) (hd : 2 ≤ d) (hs : ng_KF X M L d mi_X9_compared o f) : ng_KF X M L (d + 1) mi_X9_both o (ng_jn H 1 50 f) := by
  intro p cs hp hl
  obtain ⟨g1, g2, g3, g4⟩ := hg p hp
  refine ng_EvX.ofV (lv := [some (.ref 73)]) (by decide) (Nat.le_of_ble_eq_true rfl) rfl rfl ?_
  refine ng_aload_0 dX9_both_0 ?_
  refine ng_callV_0v (y2 := mi_X9_compared) dX9_both_1 lk_X9_165 ms_X9_compared my_X9_compared (by first | exact ⟨_, rfl⟩ | assumption | exact ng_fld_obj (f := 0) (by assumption)) mc_X9 (by first | decide | exact Nat.le_of_ble_eq_true rfl) (hs p cs hp hl) (by omega) ?_
  cases hx : (f p).1 with
  | true =>
    rw [ng_jn, if_pos hx]
    exact l_X9_both hc hg hd hs 50 _ _ g2 (by simp; omega) (by omega)
  | false =>
    rw [ng_jn, if_neg (by rw [hx]; decide)]
    exact w_X9_both hc hd g2 ⟨rfl, by rw [hx]; rfl⟩
theorem w_X9_either {X : Nat × (Nat → Int32)} {M : ng_M} {H : Nat → Int32} {L d o q : Nat} {u : Int32} {cs : List Int32} {F : Option Value → ng_M → Prop} (hc : ng_RG M H L u) (hd : 2 ≤ d) (hq : q ≤ L) (k : F none (ng_RF M q cs o true)) : ng_Go X mi_X9_either (d + 1) 4 [some (.ref 73)] [] (ng_RF M q cs o true) F := by
  refine ng_aload_0 dX9_either_4 ?_
  refine ng_bipush (v := 124) dX9_either_5 (by decide) ?_
  refine ng_callV_1x (y2 := mi_X9_takes) dX9_either_7 lk_X9_158 ms_X9_takes my_X9_takes (by first | exact ⟨_, rfl⟩ | assumption | exact ng_fld_obj (f := 0) (by assumption)) mc_X9 (by first | decide | exact Nat.le_of_ble_eq_true rfl) (s_X9_takes hc hq (by decide)) hd ?_
  refine ng_ifb_eq 27 dX9_either_10 (by decide +kernel) (fun h10 => ?_) (fun h10 => ?_)
  · rw [if_neg (by simp)]
    exact ng_return dX9_either_27 k
  · exact absurd h10 (by simp)
theorem l_X9_either {X : Nat × (Nat → Int32)} {M : ng_M} {H : Nat → Int32} {L d o : Nat} {u : Int32} {f : Nat → ng_Rs} {cs0 : List Int32} (hc : ng_RG M H L u) (hg : ng_gd L f) (hd : 2 ≤ d) (hs : ng_KF X M L d mi_X9_both o f) : ∀ (n q : Nat) (cs : List Int32), q ≤ L → (cs0 ++ cs).length ≤ q → 50 ≤ q + n →
    ng_Go X mi_X9_either (d + 1) 4 [some (.ref 73)] [] (ng_RF M q (cs0 ++ cs) o false) (fun r' M' => r' = none ∧ M' = ng_RF M (ng_jl H 0 f n q cs).2.1 (cs0 ++ (ng_jl H 0 f n q cs).2.2) o (!(ng_jl H 0 f n q cs).1)) := by
  have hL := hc.1.1
  intro n
  induction n with
  | zero =>
    intro q cs hq hl hn
    refine ng_aload_0 dX9_either_4 ?_
    refine ng_bipush (v := 124) dX9_either_5 (by decide) ?_
    refine ng_callV_1x (y2 := mi_X9_takes) dX9_either_7 lk_X9_158 ms_X9_takes my_X9_takes (by first | exact ⟨_, rfl⟩ | assumption | exact ng_fld_obj (f := 0) (by assumption)) mc_X9 (by first | decide | exact Nat.le_of_ble_eq_true rfl) (s_X9_takes hc hq (by decide)) hd ?_
    refine ng_ifb_eq 27 dX9_either_10 (by decide +kernel) (fun h10 => ?_) (fun h10 => ?_)
    · rw [if_neg (by rw [h10]; decide)]
      exact ng_return dX9_either_27 ⟨rfl, rfl⟩
    · simp at h10; rw [hc.1.2.1 q (by omega)] at h10; exact absurd h10 (by decide)
  | succ n ih =>
    intro q cs hq hl hn
    refine ng_aload_0 dX9_either_4 ?_
    refine ng_bipush (v := 124) dX9_either_5 (by decide) ?_
    refine ng_callV_1x (y2 := mi_X9_takes) dX9_either_7 lk_X9_158 ms_X9_takes my_X9_takes (by first | exact ⟨_, rfl⟩ | assumption | exact ng_fld_obj (f := 0) (by assumption)) mc_X9 (by first | decide | exact Nat.le_of_ble_eq_true rfl) (s_X9_takes hc hq (by decide)) hd ?_
    refine ng_ifb_eq 27 dX9_either_10 (by decide +kernel) (fun h10 => ?_) (fun h10 => ?_)
    · rw [if_neg (by rw [h10]; decide)]
      exact ng_return dX9_either_27 ⟨rfl, by rw [ng_jl_no (fun z => by rw [ng_ro0.mp z] at h10; simp at h10)]; rfl⟩
    · rw [if_pos h10]
      simp at h10
      have hro : ng_ro (H q) = 0 := ng_ro0.mpr h10
      have hlt : q < L := hc.1.lt (by rw [h10]; decide)
      obtain ⟨g1, g2, g3, g4⟩ := hg (q + 1) (by omega)
      refine ng_aload_0 dX9_either_13 ?_
      refine ng_callV_0v (y2 := mi_X9_both) dX9_either_14 lk_X9_155 ms_X9_both my_X9_both (by first | exact ⟨_, rfl⟩ | assumption | exact ng_fld_obj (f := 0) (by assumption)) mc_X9 (by first | decide | exact Nat.le_of_ble_eq_true rfl) (hs (q + 1) (cs0 ++ cs) (by omega) (by omega)) (by omega) ?_
      refine ng_aload_0 dX9_either_17 ?_
      refine ng_sipush (v := 20000) dX9_either_18 (by decide) ?_
      refine ng_callV_1v (y2 := mi_X9_codes) dX9_either_21 lk_X9_161 ms_X9_codes my_X9_codes (by first | exact ⟨_, rfl⟩ | assumption | exact ng_fld_obj (f := 0) (by assumption)) mc_X9 (by first | decide | exact Nat.le_of_ble_eq_true rfl) (s_X9_codes (by simp at hl ⊢; omega)) (by omega) ?_
      refine ng_goto 4 dX9_either_24 (by decide +kernel) ?_
      cases hx : (f (q + 1)).1 with
      | true =>
        rw [ng_jl_ok hro hx, if_neg (by decide), List.append_assoc, List.append_assoc, ← List.append_assoc cs, h10]
        exact ih _ _ g2 (by simp at hl ⊢; omega) (by omega)
      | false =>
        rw [if_pos (by decide)]
        exact w_X9_either hc hd g2 ⟨rfl, by rw [ng_jl_bad hro hx, List.append_assoc]; rfl⟩
theorem s_X9_either {X : Nat × (Nat → Int32)} {M : ng_M} {H : Nat → Int32} {L d o : Nat} {u : Int32} {f : Nat → ng_Rs} (hc : ng_RG M H L u) (hg : ng_gd L f) (hd : 2 ≤ d) (hs : ng_KF X M L d mi_X9_both o f) : ng_KF X M L (d + 1) mi_X9_either o (ng_jn H 0 50 f) := by
  intro p cs hp hl
  obtain ⟨g1, g2, g3, g4⟩ := hg p hp
  refine ng_EvX.ofV (lv := [some (.ref 73)]) (by decide) (Nat.le_of_ble_eq_true rfl) rfl rfl ?_
  refine ng_aload_0 dX9_either_0 ?_
  refine ng_callV_0v (y2 := mi_X9_both) dX9_either_1 lk_X9_155 ms_X9_both my_X9_both (by first | exact ⟨_, rfl⟩ | assumption | exact ng_fld_obj (f := 0) (by assumption)) mc_X9 (by first | decide | exact Nat.le_of_ble_eq_true rfl) (hs p cs hp hl) (by omega) ?_
  cases hx : (f p).1 with
  | true =>
    rw [ng_jn, if_pos hx]
    exact l_X9_either hc hg hd hs 50 _ _ g2 (by simp; omega) (by omega)
  | false =>
    rw [ng_jn, if_neg (by rw [hx]; decide)]
    exact w_X9_either hc hd g2 ⟨rfl, by rw [hx]; rfl⟩
