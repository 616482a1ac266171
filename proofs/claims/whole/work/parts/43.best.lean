/-! ===== the best row of steps: pure, then the class ===== -/
def ng_kpA (acc : Option (Int32 × Nat)) (e : Int32) (p : Nat) : Option (Int32 × Nat) := match acc with | none => some (e, p) | some q => if q.1 < e then some (e, p) else some q
theorem ng_kpA_t {q : Int32 × Nat} {e : Int32} {p : Nat} (h : q.1 < e) : ng_kpA (some q) e p = some (e, p) := if_pos h
theorem ng_kpA_f {q : Int32 × Nat} {e : Int32} {p : Nat} (h : ¬ q.1 < e) : ng_kpA (some q) e p = some q := if_neg h
def ng_loA (nv : Bool) (a : ng_R) : Nat := if nv then (a 2).toNatClampNeg else 0
def ng_btr (nv : Bool) : Nat → ng_R → Nat → Option (Int32 × Nat) → Option (Int32 × Nat)
  | 0, a, p, acc => ng_kpA acc (ng_ends a) p
  | m + 1, a, p, acc => (List.range' (ng_loA nv a) (10 - ng_loA nv a)).foldl (fun acc s => ng_btr nv m (ng_yr a (nI s) 0 ng_all) (10 * p + s) acc) acc
theorem ng_kpA_some (acc : Option (Int32 × Nat)) (e : Int32) (p : Nat) : (ng_kpA acc e p).isSome = true := by
  cases acc with
  | none => rfl
  | some q => unfold ng_kpA; dsimp only; split <;> rfl
theorem ng_fold_some {f : Option (Int32 × Nat) → Nat → Option (Int32 × Nat)} (h : ∀ s acc, s < 10 → (f acc s).isSome = true) : ∀ (l : List Nat) (acc : Option (Int32 × Nat)), (∀ s ∈ l, s < 10) → l ≠ [] → (l.foldl f acc).isSome = true
  | [], _, _, h0 => absurd rfl h0
  | [s], acc, hl, _ => h s acc (hl s (by simp))
  | s :: t :: l, acc, hl, _ => ng_fold_some h (t :: l) (f acc s) (fun x hx => hl x (List.mem_cons_of_mem _ hx)) (by simp)
theorem ng_btr_some {nv : Bool} : ∀ m a p acc, ng_loA nv a < 10 → (ng_btr nv m a p acc).isSome = true
  | 0, _, _, _, _ => ng_kpA_some _ _ _
  | m + 1, a, p, acc, hlo => by
    refine ng_fold_some (fun s acc hs => ng_btr_some m _ _ _ ?_) _ acc (fun s hs => ?_) ?_
    · unfold ng_loA
      split
      · rw [show ng_yr a (nI s) 0 ng_all 2 = nI s by simp [ng_yr], nI_clamp (by omega)]; exact hs
      · omega
    · rw [List.mem_range'_1] at hs; omega
    · obtain ⟨k, hk⟩ : ∃ k, 10 - ng_loA nv a = k + 1 := ⟨9 - ng_loA nv a, by omega⟩
      rw [hk, List.range'_succ]
      simp
def ng_bst (nv : Bool) (n : Nat) (a : ng_R) : Int32 × Nat := (ng_btr nv n a 0 none).getD (0, 0)
abbrev ng_dgt (n p i : Nat) : Nat := p / 10 ^ (n - 1 - i) % 10
theorem ng_dgt_push {few p s i : Nat} (hi : i < few) (hs : s < 10) : ng_dgt (few + 1) (10 * p + s) i = ng_dgt few p i := by
  unfold ng_dgt
  have e : few + 1 - 1 - i = (few - 1 - i) + 1 := by omega
  rw [e, Nat.pow_succ, Nat.mul_comm (10 ^ (few - 1 - i)) 10, ← Nat.div_div_eq_div_mul]
  congr 2
  omega
theorem ng_dgt_last {few p s : Nat} (hs : s < 10) : ng_dgt (few + 1) (10 * p + s) few = s := by
  unfold ng_dgt
  have e : few + 1 - 1 - few = 0 := by omega
  rw [e, Nat.pow_zero, Nat.div_one]
  omega
def ng_RA (M : ng_M) (n : Nat) (acc : Option (Int32 × Nat)) : Prop := match acc with | none => M 39 5 = 0 | some q => M 39 5 = 1 ∧ M 39 4 = q.1 ∧ ∀ i, i < n → M 57 i = nI (ng_dgt n q.2 i)
def ng_R6 (M : ng_M) (few p : Nat) : Prop := ∀ i, i < few → M 56 i = nI (ng_dgt few p i)
theorem ng_RA.congr {M M' : ng_M} {n : Nat} {acc : Option (Int32 × Nat)} (h : ng_RA M n acc) (h1 : M' 39 = M 39) (h2 : M' 57 = M 57) : ng_RA M' n acc := by
  unfold ng_RA
  rw [h1, h2]
  exact h
theorem ng_R6.congr {M M' : ng_M} {few p : Nat} (h : ng_R6 M few p) (h1 : M' 56 = M 56) : ng_R6 M' few p := by
  intro i hi
  rw [h1]
  exact h i hi
theorem s_X1_keepIfMore {X : Nat × (Nat → Int32)} {M : ng_M} {e : Int32} {n p : Nat} {acc : Option (Int32 × Nat)} (hn : n ≤ 3) (hA : ng_RA M n acc) (h6 : ng_R6 M n p) : ng_EvV X 1 mi_X1_keepIfMore [.ref 39, .int e] M (fun M' => ng_off [39, 57] M M' ∧ ng_RA M' n (ng_kpA acc e p)) := by
  have c0 : (0 : Int32).toNatClampNeg = 0 := by decide
  have c3 : (3 : Int32).toNatClampNeg = 3 := by decide
  have upd1 : ∀ M' : ng_M, M' 39 = upd (upd (M 39) 5 1) 4 e → M' 57 = va_cpy (M 56) (M 57) 0 0 3 → ng_RA M' n (some (e, p)) := by
    intro M' h1 h2
    refine ⟨by rw [h1, ng_upd_ne (by decide), ng_upd_eq], by rw [h1, ng_upd_eq], fun i hi => ?_⟩
    rw [h2, va_cpy, if_pos (by omega), show 0 + (i - 0) = i by omega]
    exact h6 i hi
  refine ng_EvV.of (lv := [some (.ref 39), some (.int e)]) (by decide) (Nat.le_of_ble_eq_true rfl) rfl rfl ?_
  cases acc with
  | none =>
    have hA' : M 39 5 = 0 := hA
    refine ng_aload_0 dX1_keepIfMore_0 ?_
    refine ng_gI dX1_keepIfMore_1 fl_X1_43 (by first | rfl | assumption) ?_
    refine ng_if_eq 15 dX1_keepIfMore_4 (by decide +kernel) (fun h4 => ?_) (fun h4 => ?_)
    · refine ng_aload_0 dX1_keepIfMore_15 ?_
      refine ng_iconst_1 dX1_keepIfMore_16 ?_
      refine ng_pI dX1_keepIfMore_17 fp_X1_43 (by first | rfl | assumption) rfl rfl ?_
      refine ng_aload_0 dX1_keepIfMore_20 ?_
      refine ng_iload_1 dX1_keepIfMore_21 ?_
      refine ng_pI dX1_keepIfMore_22 fp_X1_51 (by first | rfl | assumption) rfl rfl ?_
      refine ng_aload_0 dX1_keepIfMore_25 ?_
      refine ng_gR dX1_keepIfMore_26 fl_X1_17 (by first | rfl | assumption) ?_
      refine ng_iconst_0 dX1_keepIfMore_29 ?_
      refine ng_aload_0 dX1_keepIfMore_30 ?_
      refine ng_gR dX1_keepIfMore_31 fl_X1_21 (by first | rfl | assumption) ?_
      refine ng_iconst_0 dX1_keepIfMore_34 ?_
      refine ng_iconst_3 dX1_keepIfMore_35 ?_
      refine ng_arraycopy dX1_keepIfMore_36 lk_X1_75 mac_n mac_s li_J10 (by first | rfl | assumption) (by first | rfl | assumption) (by decide) (by decide) (by decide) (by rw [c0, c3]; decide) (by rw [c0, c3]; decide) (by first | decide | exact Nat.le_of_ble_eq_true rfl) ?_
      exact ng_return dX1_keepIfMore_39 ⟨rfl, (((ng_off.rf.row (by simp)).row (by simp)).row (by simp)), upd1 _ (by simp [ng_row]) (by rw [ng_row_eq, c0, c3]; simp [ng_row])⟩
    · exact absurd hA' h4
  | some q =>
    obtain ⟨a1, a2, a3⟩ := id hA
    refine ng_aload_0 dX1_keepIfMore_0 ?_
    refine ng_gI dX1_keepIfMore_1 fl_X1_43 (by first | rfl | assumption) ?_
    refine ng_if_eq 15 dX1_keepIfMore_4 (by decide +kernel) (fun h4 => ?_) (fun h4 => ?_)
    · rw [a1] at h4; exact absurd h4 (by decide)
    · refine ng_iload_1 dX1_keepIfMore_7 ?_
      refine ng_aload_0 dX1_keepIfMore_8 ?_
      refine ng_gI dX1_keepIfMore_9 fl_X1_51 (by first | rfl | assumption) ?_
      refine ng_icmp_le 39 dX1_keepIfMore_12 (by decide +kernel) (fun h12 => ?_) (fun h12 => ?_)
      · refine ng_return dX1_keepIfMore_39 ⟨rfl, ng_off.rf, ?_⟩
        rw [a2] at h12
        rw [ng_kpA_f (Int32.not_lt.mpr h12)]
        exact hA
      · refine ng_aload_0 dX1_keepIfMore_15 ?_
        refine ng_iconst_1 dX1_keepIfMore_16 ?_
        refine ng_pI dX1_keepIfMore_17 fp_X1_43 (by first | rfl | assumption) rfl rfl ?_
        refine ng_aload_0 dX1_keepIfMore_20 ?_
        refine ng_iload_1 dX1_keepIfMore_21 ?_
        refine ng_pI dX1_keepIfMore_22 fp_X1_51 (by first | rfl | assumption) rfl rfl ?_
        refine ng_aload_0 dX1_keepIfMore_25 ?_
        refine ng_gR dX1_keepIfMore_26 fl_X1_17 (by first | rfl | assumption) ?_
        refine ng_iconst_0 dX1_keepIfMore_29 ?_
        refine ng_aload_0 dX1_keepIfMore_30 ?_
        refine ng_gR dX1_keepIfMore_31 fl_X1_21 (by first | rfl | assumption) ?_
        refine ng_iconst_0 dX1_keepIfMore_34 ?_
        refine ng_iconst_3 dX1_keepIfMore_35 ?_
        refine ng_arraycopy dX1_keepIfMore_36 lk_X1_75 mac_n mac_s li_J10 (by first | rfl | assumption) (by first | rfl | assumption) (by decide) (by decide) (by decide) (by rw [c0, c3]; decide) (by rw [c0, c3]; decide) (by first | decide | exact Nat.le_of_ble_eq_true rfl) ?_
        exact ng_return dX1_keepIfMore_39 ⟨rfl, (((ng_off.rf.row (by simp)).row (by simp)).row (by simp)), by
  rw [a2] at h12
  rw [ng_kpA_t (Int32.not_le.mp h12)]
  exact upd1 _ (by simp [ng_row]) (by rw [ng_row_eq, c0, c3]; simp [ng_row])⟩
theorem ng_pls_ypl {M : ng_M} {s i : Nat} {a : ng_R} (hr : ng_rl M a) (hv : ng_sv M s a) (hl : vp_in (a 2) 10) (hi : i < 8) : ng_pls M s i = ng_ypl a i := by
  obtain ⟨v1, v2, v3, v4, v5, v6, v7⟩ := hv
  obtain ⟨r1, r2, r3, r4, r5⟩ := hr
  rw [ng_pls, ng_ypl, ng_tr_pw r4, (r2 i hi).2.1, v1 i hi, v2, v3, r1 _ (ng_vp_nat hl)]
theorem ng_sv.congr {M M' : ng_M} {s : Nat} {a : ng_R} (h : ng_sv M s a) (h1 : M' s = M s) (h2 : M' (s + 1) = M (s + 1)) : ng_sv M' s a := by
  unfold ng_sv
  rw [h1, h2]
  exact h
abbrev ng_sld (M : ng_M) (s : Nat) (a : ng_R) (t b come : Int32) (M2 : ng_M) : Prop := ng_off [9, 10, s, s + 1, s + 2] M M2 ∧ (∀ j, j < 8 → M2 (s + 1) j = ng_yhs a t b (ng_cm come) j) ∧ M2 s 3 = t ∧ M2 s 4 = a 3 ∧ M2 s 5 = a 4 ∧ M2 s 6 = ng_yke a t b (ng_cm come) ∧ M2 s 7 = ng_ypu a t b (ng_cm come) ∧ M2 s 8 = a 7 ∧ M2 s 9 = ng_ysd a t b (ng_cm come) ∧ M2 s 10 = ng_ylf a t b (ng_cm come) ∧ M2 s 11 = t - a 2
theorem ng_settled {M M2 M3 : ng_M} {s : Nat} {a : ng_R} {t b come : Int32} (hs15 : 15 ≤ s) (hr : ng_rl M a) (hC : ng_sld M s a t b come M2) (hD : ng_off [s, 13, 14] M2 M3 ∧ M3 s = upd (M2 s) 4 (ng_held (M2 s 4 + ng_fm (M2 12) (M2 11 1) (M2 s 9) (M2 s 10) (M2 s 4) (M2 s 11)) 0 12)) : ng_sv M3 s (ng_yr a t b (ng_cm come)) := by
  obtain ⟨c0, c1, c3, c4, c5, c6, c7, c8, c9, c10, c11⟩ := hC
  obtain ⟨d1, d2⟩ := hD
  have eh : M3 (s + 1) = M2 (s + 1) := d1 (s + 1) (by simp <;> omega)
  refine ⟨fun j hj => ?_, ?_, ?_, ?_, ?_, ?_, ?_⟩
  · rw [eh, c1 j hj]
    simp only [ng_yr]
    rw [if_neg (by omega), if_neg (by omega), if_neg (by omega), if_neg (by omega), if_neg (by omega), if_pos (by omega), show (24 + 4 * j - 24) / 4 = j by omega]
  · rw [d2, ng_upd_ne (by omega), c3]; simp [ng_yr]
  · rw [d2, ng_upd_eq, c4, c9, c10, c11, c0 12 (by simp <;> omega), c0 11 (by simp <;> omega), ng_tr_fm hr.2.2.2.2]; simp [ng_yr, ng_yna]
  · rw [d2, ng_upd_ne (by omega), c5]; simp [ng_yr]
  · rw [d2, ng_upd_ne (by omega), c6]; simp [ng_yr]
  · rw [d2, ng_upd_ne (by omega), c7]; simp [ng_yr]
  · rw [d2, ng_upd_ne (by omega), c8]; simp [ng_yr]
def ng_gO (few : Nat) (M M' : ng_M) : Prop := ∀ k, k ∉ [9, 10, 13, 14, 39, 56, 57] → ¬ (46 + 3 * few ≤ k ∧ k ≤ 55) → M' k = M k
theorem ng_gO.rf {few : Nat} {M : ng_M} : ng_gO few M M := fun _ _ _ => rfl
theorem ng_gO.tr {few : Nat} {M M1 M2 : ng_M} (h1 : ng_gO few M M1) (h2 : ng_gO few M1 M2) : ng_gO few M M2 := fun k k1 k2 => (h2 k k1 k2).trans (h1 k k1 k2)
theorem ng_gO.of {few : Nat} {S : List Nat} {M M' : ng_M} (h : ng_off S M M') (hS : ∀ k ∈ S, k ∈ [9, 10, 13, 14, 39, 56, 57] ∨ (46 + 3 * few ≤ k ∧ k ≤ 55)) : ng_gO few M M' := fun k k1 k2 => h k (fun q => (hS k q).elim k1 k2)
theorem ng_gO.le {few f2 : Nat} {M M' : ng_M} (h : ng_gO f2 M M') (hf : few ≤ f2) : ng_gO few M M' := fun k k1 k2 => h k k1 (by omega)
theorem ng_gO.rl {few : Nat} {M M' : ng_M} {a : ng_R} (h : ng_gO few M M') (hr : ng_rl M a) : ng_rl M' a := hr.kept (fun k hk => h k (by simp at hk ⊢; omega) (by simp at hk; omega)) (fun _ _ => rfl)
/-- between two steps of a row -/
def ng_LI (M0 M : ng_M) (few : Nat) (a : ng_R) (p n nb : Nat) (acc : Option (Int32 × Nat)) : Prop := ng_gO few M0 M ∧ ng_rl M a ∧ ng_sv M (44 + 3 * few) a ∧ (∀ j, j < nb → M (46 + 3 * few) j = ng_ypl a j) ∧ ng_R6 M few p ∧ ng_RA M n acc
def ng_GO (X : Nat × (Nat → Int32)) (nv : Bool) (n m : Nat) : Prop := ∀ (few : Nat) (a : ng_R) (p : Nat) (acc : Option (Int32 × Nat)) (M : ng_M), few + m = n → 1 ≤ m → ng_rl M a → ng_sv M (44 + 3 * few) a → ng_okY a → ng_R6 M few p → ng_RA M n acc →
  ng_EvV X (m + 5) mi_X1_goOn [.ref 39, .int (nI few), .int (nI n), .int (ng_bi nv)] M (fun M' => ng_gO few M M' ∧ ng_RA M' n (ng_btr nv m a p acc) ∧ ng_R6 M' few p)
theorem ng_isS4 {few : Nat} (h : few < 4) : ng_isS (44 + 3 * few) := by unfold ng_isS; omega
theorem ng_go_at : ∀ i, i < 4 → ([44, 47, 50, 53] : List Nat)[i]? = some (44 + 3 * i) := by decide
theorem ng_ends_yr {M : ng_M} {s : Nat} {a : ng_R} {t : Int32} (h3 : M s 3 = t) (h6 : M s 6 = ng_yke a t 0 ng_all) (h7 : M s 7 = ng_ypu a t 0 ng_all) (hc : M 3 t.toNatClampNeg = a (11 + t.toNatClampNeg)) (ht : t.toNatClampNeg < 10) : M s 7 + M s 6 * M 3 (M s 3).toNatClampNeg / 2 = ng_ends (ng_yr a t 0 ng_all) := by
  rw [h3, h6, h7, hc, ng_ends, show ng_yr a t 0 ng_all 2 = t by simp [ng_yr], show ng_yr a t 0 ng_all 5 = ng_yke a t 0 ng_all by simp [ng_yr], show ng_yr a t 0 ng_all 6 = ng_ypu a t 0 ng_all by simp [ng_yr], ng_yr_hi (by omega)]
theorem ng_yke_255 {a : ng_R} {t : Int32} (h : ng_yok a) : ng_yke a t 0 (ng_cm 255) = ng_yke a t 0 ng_all := by
  have e := congrFun (ng_yr_255 (t := t) (b := 0) h).1 5
  simpa [ng_yr] using e
theorem ng_ypu_255 {a : ng_R} {t : Int32} (h : ng_yok a) : ng_ypu a t 0 (ng_cm 255) = ng_ypu a t 0 ng_all := by
  have e := congrFun (ng_yr_255 (t := t) (b := 0) h).1 6
  simpa [ng_yr] using e
/-- a step is taken by the next stand: what the loop's facts become -/
theorem ng_LI.sold {M0 M Mb Mc : ng_M} {few p n nb s : Nat} {a : ng_R} {acc : Option (Int32 × Nat)} (h : ng_LI M0 M few a p n nb acc) (hf : few < 3) (hs : s < 10) (hn : a 1 = nI nb) (hn8 : nb ≤ 8) (hok : ng_okY a)
    (ht : ng_took (ng_row M 56 (upd (M 56) few (nI s))) (44 + 3 * (few + 1)) (44 + 3 * few) Mb) (hB : ng_sale Mb (44 + 3 * (few + 1)) nb (nI s) 0 255 Mc) :
    ng_rl Mb a ∧ ng_sld Mb (44 + 3 * (few + 1)) a (nI s) 0 255 Mc ∧ ng_LI M0 Mc few a p n nb acc ∧ ng_R6 Mc (few + 1) (10 * p + s) := by
  obtain ⟨i1, i2, i3, i4, i5, i6⟩ := h
  have eb : ∀ k, k ≠ 56 → ¬ (44 + 3 * (few + 1) ≤ k ∧ k ≤ 46 + 3 * (few + 1)) → Mb k = M k := fun k k1 k2 => by rw [ht.1 k (by simp; omega), ng_row_ne k1]
  have hrb : ng_rl Mb a := i2.kept (fun k hk => eb k (by simp at hk; omega) (by simp at hk; omega)) (fun _ _ => rfl)
  have hva : ng_sv (ng_row M 56 (upd (M 56) few (nI s))) (44 + 3 * few) a := i3.congr (ng_row_ne (by omega)) (ng_row_ne (by omega))
  have hvb : ng_sv Mb (44 + 3 * (few + 1)) a := hva.took ht
  have hsl := ng_sale_row (M := Mb) (M1 := Mb) (M2 := Mc) (by omega) hrb hvb (vp_in_nI hs (by omega)) hok.wfr.1.1 hn hn8 ⟨ng_off.rf, fun j hj => by
    rw [ng_pls_ypl hrb hvb hok.wfr.1.1.2.1 (by omega), show 44 + 3 * (few + 1) + 2 = (44 + 3 * (few + 1)) + 2 from rfl, ht.2.2.1 j (by omega), ng_row_ne (by omega), show 44 + 3 * few + 2 = 46 + 3 * few by omega]
    exact i4 j hj⟩ hB
  have ec : ∀ k, k ∉ [9, 10, 56] → ¬ (44 + 3 * (few + 1) ≤ k ∧ k ≤ 46 + 3 * (few + 1)) → Mc k = M k := fun k k1 k2 => by
    simp at k1
    rw [hsl.1 k (by simp; omega), eb k (by omega) k2]
  have e56 : Mc 56 = upd (M 56) few (nI s) := by rw [hsl.1 56 (by simp; omega), ht.1 56 (by simp; omega), ng_row_eq]
  refine ⟨hrb, hsl, ⟨fun k k1 k2 => ?_, ?_, ?_, ?_, ?_, ?_⟩, ?_⟩
  · simp at k1
    rw [ec k (by simp; omega) (by omega)]
    exact i1 k (by simp; omega) k2
  · exact i2.kept (fun k hk => ec k (by simp at hk ⊢; omega) (by simp at hk; omega)) (fun _ _ => rfl)
  · exact i3.congr (ec _ (by simp; omega) (by omega)) (ec _ (by simp; omega) (by omega))
  · intro j hj
    rw [ec _ (by simp; omega) (by omega)]
    exact i4 j hj
  · intro i hi
    rw [e56, ng_upd_ne (by omega)]
    exact i5 i hi
  · exact i6.congr (ec 39 (by decide) (by omega)) (ec 57 (by decide) (by omega))
  · intro i hi
    rw [e56]
    by_cases q : i = few
    · subst q; rw [ng_upd_eq, ng_dgt_last hs]
    · rw [ng_upd_ne q, ng_dgt_push (by omega) hs]; exact i5 i (by omega)
theorem l_X1_goOn {X : Nat × (Nat → Int32)} {nv : Bool} {M0 : ng_M} {few m n p nb : Nat} {a : ng_R} (ih : ng_GO X nv n m) (hfm : few + (m + 1) = n) (hn3 : n ≤ 3) (hok : ng_okY a) (hnb : a 1 = nI nb) (hnb8 : nb ≤ 8) : ∀ (k s : Nat) (acc : Option (Int32 × Nat)) (M : ng_M), s + k = 10 → ng_LI M0 M few a p n nb acc →
    ng_Go X mi_X1_goOn (m + 6) 64 [some (.ref 39), some (.int (nI few)), some (.int (nI n)), some (.int (ng_bi nv)), some (.ref (44 + 3 * few)), some (.ref (44 + 3 * (few + 1))), some (.int (nI s))] [] M (fun r' M' => r' = none ∧ ng_gO few M0 M' ∧ ng_RA M' n ((List.range' s k).foldl (fun acc s => ng_btr nv m (ng_yr a (nI s) 0 ng_all) (10 * p + s) acc) acc) ∧ ng_R6 M' few p) := by
  obtain ⟨⟨hs0, hs1, hs2, hs3, hs4, hs5, hs6, hs7, hs8, hs9, hs10, hs11⟩, hsh, hsp, hso, hsl⟩ := ng_S (ng_isS4 (few := few) (by omega))
  obtain ⟨⟨ht0, ht1, ht2, ht3, ht4, ht5, ht6, ht7, ht8, ht9, ht10, ht11⟩, hth, htp, hto, htl⟩ := ng_S (ng_isS4 (few := few + 1) (by omega))
  have hyok := hok.wfr.1.1
  have e255 := fun t => ng_yr_255 (t := t) (b := 0) hyok
  intro k
  induction k with
  | zero =>
    intro s acc M hs h
    have hs2 : s = 10 := by omega
    subst hs2
    refine ng_iload_6 dX1_goOn_64 ?_
    refine ng_bipush (v := 10) dX1_goOn_66 (by decide) ?_
    refine ng_icmp_ge 136 dX1_goOn_68 (by decide +kernel) (fun h68 => ?_) (fun h68 => ?_)
    · exact ng_return dX1_goOn_136 ⟨rfl, h.1, h.2.2.2.2.2, h.2.2.2.2.1⟩
    · exact absurd (show (10 : Int32) ≤ nI 10 by decide) h68
  | succ k ihk =>
    intro s acc M hs h
    have hv : vp_in (nI few) 3 := vp_in_nI (by omega) (by omega)
    have ht : vp_in (nI s) 10 := vp_in_nI (by omega) (by omega)
    have hct : (nI s).toNatClampNeg = s := nI_clamp (by omega)
    rw [List.range'_succ, List.foldl_cons]
    refine ng_iload_6 dX1_goOn_64 ?_
    refine ng_bipush (v := 10) dX1_goOn_66 (by decide) ?_
    refine ng_icmp_ge 136 dX1_goOn_68 (by decide +kernel) (fun h68 => ?_) (fun h68 => ?_)
    · exact absurd (show nI 10 ≤ nI s from h68) (nI_ge (by omega) (by omega))
    · refine ng_aload_0 dX1_goOn_71 ?_
      refine ng_gR dX1_goOn_72 fl_X1_17 (by first | rfl | assumption) ?_
      refine ng_iload_1 dX1_goOn_75 ?_
      refine ng_iload_6 dX1_goOn_76 ?_
      refine ng_iastL (j := few) dX1_goOn_78 (by first | rfl | assumption) (by exact hv) (by exact nI_clamp (by omega)) ?_
      refine ng_aload_5 dX1_goOn_79 ?_
      refine ng_aload_4 dX1_goOn_81 ?_
      refine ng_callV_1w (y2 := mi_X5_take) dX1_goOn_83 lk_X1_31 ms_X5_take my_X5_take (by first | exact ⟨_, rfl⟩ | assumption | exact ng_fld_obj (f := 0) (by assumption)) mc_X5 (by first | decide | exact Nat.le_of_ble_eq_true rfl) (s_X5_take (ng_isS4 (few := few + 1) (by omega)).T (ng_isS4 (few := few) (by omega)).T (by omega)) (by omega) (fun Mb hb => ?_)
      refine ng_aload_5 dX1_goOn_86 ?_
      refine ng_iload_6 dX1_goOn_88 ?_
      refine ng_iconst_0 dX1_goOn_90 ?_
      refine ng_sipush (v := 255) dX1_goOn_91 (by decide) ?_
      refine ng_callV_3w (y2 := mi_X5_sells) dX1_goOn_94 lk_X1_60 ms_X5_sells my_X5_sells (by first | exact ⟨_, rfl⟩ | assumption | exact ng_fld_obj (f := 0) (by assumption)) mc_X5 (by first | decide | exact Nat.le_of_ble_eq_true rfl) (s_X5_sells (n := nb) (ng_isS4 (few := few + 1) (by omega)) (by rw [hb.1 2 (by simp; omega), ng_row_ne (by decide), h.2.1.2.2.1]; exact hnb) hnb8 ht) (by omega) (fun Mc hB => ?_)
      obtain ⟨hrb, hC, hL, hR⟩ := h.sold (by omega) (by omega) hnb hnb8 hok hb hB
      refine ng_iload_1 dX1_goOn_97 ?_
      refine ng_iconst_1 dX1_goOn_98 ?_
      refine ng_iadd dX1_goOn_99 ?_
      rw [nI_1]
      refine ng_iload_2 dX1_goOn_100 ?_
      refine ng_icmp_ne 116 dX1_goOn_101 (by decide +kernel) (fun h101 => ?_) (fun h101 => ?_)
      · refine ng_aload_5 dX1_goOn_116 ?_
        refine ng_callV_0w (y2 := mi_X5_settles) dX1_goOn_118 lk_X1_72 ms_X5_settles my_X5_settles (by first | exact ⟨_, rfl⟩ | assumption | exact ng_fld_obj (f := 0) (by assumption)) mc_X5 (by first | decide | exact Nat.le_of_ble_eq_true rfl) (s_X5_settles (ng_isS4 (few := few + 1) (by omega)) (by rw [hC.1 12 (by simp; omega), hC.1 11 (by simp; omega)]; exact ng_tr_fok hrb.2.2.2.2 hyok.2.2.2)) (by omega) (fun Md hD => ?_)
        refine ng_aload_0 dX1_goOn_121 ?_
        refine ng_iload_1 dX1_goOn_122 ?_
        refine ng_iconst_1 dX1_goOn_123 ?_
        refine ng_iadd dX1_goOn_124 ?_
        refine ng_iload_2 dX1_goOn_125 ?_
        refine ng_iload_3 dX1_goOn_126 ?_
        rw [nI_1]
        have hm : 1 ≤ m := by
          by_cases q : m = 0
          · exact absurd (by rw [show few + 1 = n by omega]) h101
          · omega
        have hsv := ng_settled (by omega) hrb hC hD
        rw [(e255 _).1] at hsv
        have ed : ∀ k, k ∉ [44 + 3 * (few + 1), 13, 14] → Md k = Mc k := hD.1
        have hrd : ng_rl Md (ng_yr a (nI s) 0 ng_all) := hL.2.1.kept (fun k hk => ed k (by simp at hk ⊢; omega)) (fun k hk => ng_yr_hi (by omega))
        refine ng_callV_3w (y2 := mi_X1_goOn) dX1_goOn_127 lk_X1_47 ms_X1_goOn my_X1_goOn (by first | exact ⟨_, rfl⟩ | assumption | exact ng_fld_obj (f := 0) (by assumption)) mc_X1 (by first | decide | exact Nat.le_of_ble_eq_true rfl) (ih (few + 1) (ng_yr a (nI s) 0 ng_all) (10 * p + s) acc Md (by omega) hm hrd hsv (hok.yr ht (by decide) (by decide)) (hR.congr (ed 56 (by simp; omega))) (hL.2.2.2.2.2.congr (ed 39 (by simp; omega)) (ed 57 (by simp; omega)))) (by omega) (fun Me hE => ?_)
        refine ng_iinc_6 (w := 1) dX1_goOn_130 (by decide) rfl ?_
        refine ng_goto 64 dX1_goOn_133 (by decide +kernel) ?_
        rw [nI_1]
        refine ihk (s + 1) _ Me (by omega) ⟨?_, ?_, ?_, ?_, ?_, hE.2.1⟩
        · exact hL.1.tr ((ng_gO.of hD.1 (by simp; omega)).tr (hE.1.le (by omega)))
        · exact hE.1.rl (hL.2.1.kept (fun k hk => ed k (by simp at hk ⊢; omega)) (fun _ _ => rfl))
        · exact hL.2.2.1.congr (by rw [hE.1 _ (by simp; omega) (by omega), ed _ (by simp; omega)]) (by rw [hE.1 _ (by simp; omega) (by omega), ed _ (by simp; omega)])
        · intro j hj
          rw [hE.1 _ (by simp; omega) (by omega), ed _ (by simp; omega)]
          exact hL.2.2.2.1 j hj
        · intro i hi
          rw [hE.2.2 i (by omega), ng_dgt_push hi (by omega)]
      · have h101b := h101
        have hm0 : m = 0 := by
          have q := congrArg Int32.toInt h101b
          rw [nI_toInt (by omega), nI_toInt (by omega)] at q
          omega
        subst hm0
        obtain ⟨c0, c1, c3, c4, c5, c6, c7, c8, c9, c10, c11⟩ := id hC
        have g6 : Mc (44 + 3 * (few + 1)) 6 = ng_yke a (nI s) 0 ng_all := by rw [c6]; exact ng_yke_255 hyok
        have g7 : Mc (44 + 3 * (few + 1)) 7 = ng_ypu a (nI s) 0 ng_all := by rw [c7]; exact ng_ypu_255 hyok
        have ge := ng_ends_yr c3 g6 g7 (by rw [hL.2.1.1 _ (by rw [hct]; omega)]) (by rw [hct]; omega)
        refine ng_aload_0 dX1_goOn_104 ?_
        refine ng_aload_5 dX1_goOn_105 ?_
        refine ng_callV_0x (y2 := mi_X5_ends) dX1_goOn_107 lk_X1_64 ms_X5_ends my_X5_ends (by first | exact ⟨_, rfl⟩ | assumption | exact ng_fld_obj (f := 0) (by assumption)) mc_X5 (by first | decide | exact Nat.le_of_ble_eq_true rfl) (s_X5_ends (ng_isS4 (few := few + 1) (by omega)) (by rw [c3]; exact ht)) (by omega) ?_
        rw [ge]
        refine ng_callV_1w (y2 := mi_X1_keepIfMore) dX1_goOn_110 lk_X1_68 ms_X1_keepIfMore my_X1_keepIfMore (by first | exact ⟨_, rfl⟩ | assumption | exact ng_fld_obj (f := 0) (by assumption)) mc_X1 (by first | decide | exact Nat.le_of_ble_eq_true rfl) (s_X1_keepIfMore (n := n) (p := 10 * p + s) hn3 hL.2.2.2.2.2 (by rw [show n = few + 1 by omega]; exact hR)) (by omega) (fun Md hD => ?_)
        refine ng_goto 130 dX1_goOn_113 (by decide +kernel) ?_
        refine ng_iinc_6 (w := 1) dX1_goOn_130 (by decide) rfl ?_
        refine ng_goto 64 dX1_goOn_133 (by decide +kernel) ?_
        rw [nI_1]
        have ed : ∀ k, k ∉ [39, 57] → Md k = Mc k := hD.1
        refine ihk (s + 1) _ Md (by omega) ⟨?_, ?_, ?_, ?_, ?_, hD.2⟩
        · exact hL.1.tr (ng_gO.of hD.1 (by simp))
        · exact hL.2.1.kept (fun k hk => ed k (by simp at hk ⊢; omega)) (fun _ _ => rfl)
        · exact hL.2.2.1.congr (ed _ (by simp; omega)) (ed _ (by simp; omega))
        · intro j hj
          rw [ed _ (by simp; omega)]
          exact hL.2.2.2.1 j hj
        · exact hL.2.2.2.2.1.congr (ed 56 (by decide))
theorem s_X1_goOn {X : Nat × (Nat → Int32)} {nv : Bool} {n : Nat} (hn3 : n ≤ 3) : ∀ m, ng_GO X nv n m := by
  intro m
  induction m with
  | zero => intro few a p acc M h1 h2; omega
  | succ m ih =>
    intro few a p acc M hfm h1 hr hv hok h6 hA
    obtain ⟨⟨hs0, hs1, hs2, hs3, hs4, hs5, hs6, hs7, hs8, hs9, hs10, hs11⟩, hsh, hsp, hso, hsl⟩ := ng_S (ng_isS4 (few := few) (by omega))
    obtain ⟨⟨nb, hnb, hnb8⟩, hl, hf1, hf2⟩ := id hok.wfr.1.1
    have hlr := hok.wfr.2.2.2.1
    have hn2 : M 2 6 = nI nb := hr.2.2.1.trans hnb
    have e3 : M (44 + 3 * few) 3 = a 2 := hv.2.1
    have hgo : ng_obj (44 + 3 * few) 5 := hso
    have fin : ∀ (M1 : ng_M), (ng_off [9, 10, 44 + 3 * few + 2] M M1 ∧ ∀ j, j < nb → M1 (44 + 3 * few + 2) j = ng_pls M (44 + 3 * few) j) → ng_LI M M1 few a p n nb acc := by
      intro M1 hA1
      have e1 : ∀ k, k ∉ [9, 10, 46 + 3 * few] → M1 k = M k := fun k hk => hA1.1 k (by simp at hk ⊢; omega)
      refine ⟨fun k k1 k2 => e1 k (by simp at k1 ⊢; omega), hr.kept (fun k hk => e1 k (by simp at hk ⊢; omega)) (fun _ _ => rfl), hv.congr (e1 _ (by simp; omega)) (e1 _ (by simp; omega)), fun j hj => ?_, h6.congr (e1 56 (by simp; omega)), hA.congr (e1 39 (by simp; omega)) (e1 57 (by simp; omega))⟩
      rw [← ng_pls_ypl hr hv hl (by omega), show 46 + 3 * few = 44 + 3 * few + 2 by omega]
      exact hA1.2 j hj
    refine ng_EvV.of (lv := [some (.ref 39), some (.int (nI few)), some (.int (nI n)), some (.int (ng_bi nv)), none, none, none]) (by decide) (Nat.le_of_ble_eq_true rfl) rfl rfl ?_
    refine ng_iload_1 dX1_goOn_0 ?_
    refine ng_if_lt 14 dX1_goOn_1 (by decide +kernel) (fun hneg => ?_) (fun hneg => ?_)
    · exact absurd hneg (by rw [ng_lt, ng_0, nI_toInt (by omega)]; omega)
    · refine ng_iload_1 dX1_goOn_4 ?_
      refine ng_iload_2 dX1_goOn_5 ?_
      refine ng_icmp_ge 14 dX1_goOn_6 (by decide +kernel) (fun h6x => ?_) (fun h6x => ?_)
      · exact absurd h6x (nI_ge (by omega) (by omega))
      · refine ng_iload_1 dX1_goOn_9 ?_
        refine ng_iconst_3 dX1_goOn_10 ?_
        refine ng_icmp_lt 15 dX1_goOn_11 (by decide +kernel) (fun h11 => ?_) (fun h11 => ?_)
        · refine ng_aload_0 dX1_goOn_15 ?_
          refine ng_gR dX1_goOn_16 fl_X1_11 (by first | rfl | assumption) ?_
          refine ng_iload_1 dX1_goOn_19 ?_
          refine ng_aald dX1_goOn_20 (by first | rfl | assumption) (by decide) (by exact vp_in_nI (by omega) (by omega)) (by rw [nI_clamp (by omega)]; exact ng_go_at few (by omega)) ?_
          refine ng_astore_4 dX1_goOn_21 (by first | rfl | assumption) ?_
          refine ng_aload_0 dX1_goOn_23 ?_
          refine ng_gR dX1_goOn_24 fl_X1_11 (by first | rfl | assumption) ?_
          refine ng_iload_1 dX1_goOn_27 ?_
          refine ng_iconst_1 dX1_goOn_28 ?_
          refine ng_iadd dX1_goOn_29 ?_
          rw [nI_1]
          refine ng_aald dX1_goOn_30 (by first | rfl | assumption) (by decide) (by exact vp_in_nI (by omega) (by omega)) (by rw [nI_clamp (by omega)]; exact ng_go_at (few + 1) (by omega)) ?_
          refine ng_astore_5 dX1_goOn_31 (by first | rfl | assumption) ?_
          refine ng_aload_4 dX1_goOn_33 ?_
          refine ng_ifnull dX1_goOn_35 ?_
          refine ng_aload_5 dX1_goOn_38 ?_
          refine ng_ifnonnull 44 dX1_goOn_40 (by decide +kernel) ?_
          refine ng_aload_4 dX1_goOn_44 ?_
          refine ng_callV_0w (y2 := mi_X5_appraise) dX1_goOn_46 lk_X1_54 ms_X5_appraise my_X5_appraise (by first | exact ⟨_, rfl⟩ | assumption | exact ng_fld_obj (f := 0) (by assumption)) mc_X5 (by first | decide | exact Nat.le_of_ble_eq_true rfl) (s_X5_appraise (n := nb) (ng_isS4 (few := few) (by omega)) hn2 hnb8 (ng_tr_fok hr.2.2.2.1 hf1) (by rw [e3]; exact hl)) (by omega) (fun M1 hA1 => ?_)
          refine ng_iload_3 dX1_goOn_49 ?_
          refine ng_ifb_eq 61 dX1_goOn_50 (by decide +kernel) (fun h50 => ?_) (fun h50 => ?_)
          · refine ng_iconst_0 dX1_goOn_61 ?_
            refine ng_istore_6 dX1_goOn_62 (by first | rfl | assumption) ?_
            have hvl := ng_vp_lt hl
            have hL := fin M1 hA1
            first
            | (have z := l_X1_goOn ih hfm hn3 hok hnb hnb8 10 0 acc M1 (by omega) hL
               unfold ng_btr
               rw [show ng_loA nv a = 0 by rw [ng_loA, if_neg (by rw [h50]; decide)]]
               exact z)
            | (have z := l_X1_goOn ih hfm hn3 hok hnb hnb8 (10 - (a 2).toNatClampNeg) (a 2).toNatClampNeg acc M1 (by omega) hL
               unfold ng_btr
               rw [show ng_loA nv a = (a 2).toNatClampNeg by rw [ng_loA, if_pos h50]]
               exact z)
          · refine ng_aload_4 dX1_goOn_53 ?_
            refine ng_gI dX1_goOn_55 fl_X1_57 (by first | rfl | assumption) ?_
            have e4 : M1 (44 + 3 * few) 3 = nI (a 2).toNatClampNeg := by
              rw [hA1.1 _ (by simp; omega), e3]
              exact ng_nat hl
            rw [e4]
            refine ng_goto 62 dX1_goOn_58 (by decide +kernel) ?_
            refine ng_istore_6 dX1_goOn_62 (by first | rfl | assumption) ?_
            have hvl := ng_vp_lt hl
            have hL := fin M1 hA1
            first
            | (have z := l_X1_goOn ih hfm hn3 hok hnb hnb8 10 0 acc M1 (by omega) hL
               unfold ng_btr
               rw [show ng_loA nv a = 0 by rw [ng_loA, if_neg (by rw [h50]; decide)]]
               exact z)
            | (have z := l_X1_goOn ih hfm hn3 hok hnb hnb8 (10 - (a 2).toNatClampNeg) (a 2).toNatClampNeg acc M1 (by omega) hL
               unfold ng_btr
               rw [show ng_loA nv a = (a 2).toNatClampNeg by rw [ng_loA, if_pos h50]]
               exact z)
        · exact absurd (show nI few < nI 3 by rw [ng_lt, nI_toInt (by omega), nI_toInt (by omega)]; omega) h11
