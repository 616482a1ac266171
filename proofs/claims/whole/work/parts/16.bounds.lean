/-! ===== numbers within bounds; what the reference buys, its draws ===== -/
section NgLit
variable {X : Nat × (Nat → Int32)} {y : ng_Y} {d pc : Nat} {lv : ng_L} {st : List Value} {M : ng_M} {F : Option Value → ng_M → Prop}
theorem ng_ialdL {k n j : Nat} {i : Int32} (hd : decode y.2.1 pc = .ok (.iaload, 1)) (hs : ng_HS[k]? = some (.inr (.inl n))) (hin : vp_in i n) (hj : i.toNatClampNeg = j) (kk : ng_Go X y d (pc + 1) lv (.int (M k j) :: st) M F) : ng_Go X y d pc lv (.int i :: .ref k :: st) M F := by
  subst hj
  exact ng_iald hd hs hin kk
theorem ng_iastL {k n j : Nat} {i v : Int32} (hd : decode y.2.1 pc = .ok (.iastore, 1)) (hs : ng_HS[k]? = some (.inr (.inl n))) (hin : vp_in i n) (hj : i.toNatClampNeg = j) (kk : ng_Go X y d (pc + 1) lv st (ng_row M k (upd (M k) j v)) F) : ng_Go X y d pc lv (.int v :: .int i :: .ref k :: st) M F := by
  subst hj
  exact ng_iast hd hs hin kk
end NgLit
theorem ng_minI (a b : Int32) : (ng_min a b).toInt = min a.toInt b.toInt := by
  unfold ng_min
  by_cases h : b < a
  · rw [if_pos h]; rw [ng_lt] at h; omega
  · rw [if_neg h]; rw [ng_lt] at h; omega
theorem ng_maxI (a b : Int32) : (ng_max a b).toInt = max a.toInt b.toInt := by
  unfold ng_max
  by_cases h : a < b
  · rw [if_pos h]; rw [ng_lt] at h; omega
  · rw [if_neg h]; rw [ng_lt] at h; omega
theorem ng_heldI (v lo hi : Int32) : (ng_held v lo hi).toInt = max lo.toInt (min v.toInt hi.toInt) := by
  unfold ng_held
  by_cases h : v < hi
  · rw [if_pos h]
    by_cases g : lo < v
    · rw [if_pos g]; rw [ng_lt] at h g; omega
    · rw [if_neg g]; rw [ng_lt] at h g; omega
  · rw [if_neg h]
    by_cases g : lo < hi
    · rw [if_pos g]; rw [ng_lt] at h g; omega
    · rw [if_neg g]; rw [ng_lt] at h g; omega
theorem ng_addI {x y : Int32} (h1 : -2147483648 ≤ x.toInt + y.toInt) (h2 : x.toInt + y.toInt < 2147483648) : (x + y).toInt = x.toInt + y.toInt := Kit.i32_add h1 h2
theorem ng_subI {x y : Int32} (h1 : -2147483648 ≤ x.toInt - y.toInt) (h2 : x.toInt - y.toInt < 2147483648) : (x - y).toInt = x.toInt - y.toInt := Kit.i32_sub h1 h2
theorem ng_mulI {x y : Int32} (h1 : -2147483648 ≤ x.toInt * y.toInt) (h2 : x.toInt * y.toInt < 2147483648) : (x * y).toInt = x.toInt * y.toInt := Kit.i32_mul h1 h2
theorem ng_divI {x y : Int32} (h : 0 ≤ x.toInt) (hy : 0 < y.toInt) : (x / y).toInt = x.toInt / y.toInt := by
  rw [Kit.i32_div (by omega), Int.tdiv_eq_ediv_of_nonneg h]
theorem ng_2 : (2 : Int32).toInt = 2 := by decide
theorem ng_3 : (3 : Int32).toInt = 3 := by decide
theorem ng_5 : (5 : Int32).toInt = 5 := by decide
theorem ng_6 : (6 : Int32).toInt = 6 := by decide
theorem ng_0 : (0 : Int32).toInt = 0 := by decide
theorem ng_1 : (1 : Int32).toInt = 1 := by decide
theorem ng_60 : (60 : Int32).toInt = 60 := by decide
theorem ng_9999 : (9999 : Int32).toInt = 9999 := by decide
theorem ng_12 : (12 : Int32).toInt = 12 := by decide
/-- the bounds of a row -/
def ng_bd (a : ng_R) : Prop := (∀ j, j < 10 → 1 ≤ (a (11 + j)).toInt ∧ (a (11 + j)).toInt ≤ 9999) ∧
  (∀ j, j < 8 → (0 ≤ (a (21 + 4 * j)).toInt ∧ (a (21 + 4 * j)).toInt ≤ 6) ∧ (0 ≤ (a (22 + 4 * j)).toInt ∧ (a (22 + 4 * j)).toInt ≤ 9999) ∧ (0 ≤ (a (23 + 4 * j)).toInt ∧ (a (23 + 4 * j)).toInt ≤ 9) ∧ (0 ≤ (a (24 + 4 * j)).toInt ∧ (a (24 + 4 * j)).toInt ≤ 9999)) ∧
  (0 ≤ (a 2).toInt ∧ (a 2).toInt ≤ 9) ∧ (0 ≤ (a 3).toInt ∧ (a 3).toInt ≤ 12) ∧ (0 ≤ (a 4).toInt ∧ (a 4).toInt ≤ 20) ∧ (0 ≤ (a 5).toInt ∧ (a 5).toInt ≤ 60) ∧ (-99999999 ≤ (a 6).toInt ∧ (a 6).toInt ≤ 99999999) ∧ (0 ≤ (a 7).toInt ∧ (a 7).toInt ≤ 999)
def ng_wfr (a : ng_R) : Prop := ng_rok a ∧ ng_bd a
theorem ng_takes_bd {k t hs la st : Int32} (h1 : 0 ≤ t.toInt) (h2 : t.toInt ≤ 9) (h3 : 0 ≤ hs.toInt) (h4 : hs.toInt ≤ 9999) : 0 ≤ (ng_takes k t hs la st).toInt ∧ (ng_takes k t hs la st).toInt ≤ 18 := by
  have e6 : (6 - hs).toInt = 6 - hs.toInt := by rw [ng_subI (by rw [ng_6]; omega) (by rw [ng_6]; omega), ng_6]
  have e2 : (2 * t).toInt = 2 * t.toInt := by rw [ng_mulI (by rw [ng_2]; omega) (by rw [ng_2]; omega), ng_2]
  have em : (ng_max 0 (ng_min t (6 - hs))).toInt = max 0 (min t.toInt (6 - hs.toInt)) := by rw [ng_maxI, ng_minI, ng_0, e6]
  unfold ng_takes
  by_cases k2 : k = 2
  · rw [if_pos k2]
    by_cases q : st ≤ la
    · rw [if_pos q]; omega
    · rw [if_neg q, e2]; omega
  · rw [if_neg k2]
    by_cases k3 : k = 3
    · rw [if_pos k3, em]; omega
    · rw [if_neg k3]
      by_cases k4 : k = 4
      · rw [if_pos k4, em]; omega
      · rw [if_neg k4]; omega
/-- what is bought, the other way round -/
theorem ng_buys_eq {k t c pl hs nm la st lf : Int32} (h0 : 0 ≤ lf.toInt) (h1 : 0 ≤ t.toInt) (h2 : t.toInt ≤ 9) (h3 : 0 ≤ hs.toInt) (h4 : hs.toInt ≤ 9999) : ng_buys k t c pl hs nm la st lf = if ng_due k c ≤ ng_worth k pl hs nm la st then ng_min (ng_takes k t hs la st) lf else 0 := by
  have tb := ng_takes_bd (k := k) (la := la) (st := st) h1 h2 h3 h4
  unfold ng_buys
  by_cases q : lf ≤ 0
  · rw [if_pos q]
    rw [ng_le, ng_0] at q
    by_cases g : ng_due k c ≤ ng_worth k pl hs nm la st
    · rw [if_pos g]; apply ng_i_eq; rw [ng_minI, ng_0]; omega
    · rw [if_neg g]
  · rw [if_neg q]
    by_cases g : ng_due k c ≤ ng_worth k pl hs nm la st
    · rw [if_pos g, if_pos g]; apply ng_i_eq; rw [ng_minI, ng_minI]; omega
    · rw [if_neg g, if_neg g]
theorem ng_buys_bd {k t c pl hs nm la st lf : Int32} (h0 : 0 ≤ lf.toInt) (h1 : 0 ≤ t.toInt) (h2 : t.toInt ≤ 9) (h3 : 0 ≤ hs.toInt) (h4 : hs.toInt ≤ 9999) : 0 ≤ (ng_buys k t c pl hs nm la st lf).toInt ∧ (ng_buys k t c pl hs nm la st lf).toInt ≤ lf.toInt ∧ (ng_buys k t c pl hs nm la st lf).toInt ≤ 18 := by
  have tb := ng_takes_bd (k := k) (la := la) (st := st) h1 h2 h3 h4
  rw [ng_buys_eq h0 h1 h2 h3 h4]
  by_cases g : ng_due k c ≤ ng_worth k pl hs nm la st
  · rw [if_pos g, ng_minI]; omega
  · rw [if_neg g, ng_0]; omega
theorem ng_due_bd {k c : Int32} (h1 : 1 ≤ c.toInt) (h2 : c.toInt ≤ 9999) : 0 ≤ (ng_due k c).toInt ∧ (ng_due k c).toInt ≤ 9999 := by
  have e2 : (2 * c).toInt = 2 * c.toInt := by rw [ng_mulI (by rw [ng_2]; omega) (by rw [ng_2]; omega), ng_2]
  unfold ng_due
  by_cases k4 : k = 4
  · rw [if_pos k4, ng_divI (by omega) (by decide), ng_2]; omega
  · rw [if_neg k4]
    by_cases k5 : k = 5
    · rw [if_pos k5, ng_divI (by omega) (by decide), ng_3, e2]; omega
    · rw [if_neg k5]; omega
theorem ng_tk1 {K T hs la t : Int32} (h1 : ¬ K = 2) (h2 : (decide (K = 3) || decide (K = 4)) = true) : ng_takes K T hs la t = ng_max 0 (ng_min T (6 - hs)) := by
  simp at h2
  rcases h2 with h | h <;> simp [ng_takes, h]
theorem ng_tk2 {K T hs la t : Int32} (h1 : ¬ K = 2) (h2 : (decide (K = 3) || decide (K = 4)) = false) : ng_takes K T hs la t = T := by
  simp at h2
  simp [ng_takes, h1, h2]
theorem ng_tk3 {K T hs la t : Int32} (h1 : K = 2) (h2 : t ≤ la) : ng_takes K T hs la t = T := by simp [ng_takes, h1, h2]
theorem ng_tk4 {K T hs la t : Int32} (h1 : K = 2) (h2 : ¬ t ≤ la) : ng_takes K T hs la t = 2 * T := by simp [ng_takes, h1, h2]
theorem ng_tk5 {K : Int32} (h1 : K = 2) : ¬ (decide (K = 3) || decide (K = 4)) = true := by subst h1; decide
theorem s_X9_buysOf {X : Nat × (Nat → Int32)} {M : ng_M} {b t lf : Int32} {i : Nat} (hw : ng_wfr (M 74)) (hb : b = nI i) (hi : i < 8) (ht : vp_in t 10) (hlf : 0 ≤ lf.toInt) : ng_EvI X 6 mi_X9_buysOf [.ref 73, .int b, .int t, .int lf] M (fun v M' => v = ng_ybu (M 74) t i lf ∧ ng_off [81, 82] M M') := by
  refine ng_EvI.of (lv := [some (.ref 73), some (.int b), some (.int t), some (.int lf), none]) (ty := .int) (by decide) (Nat.le_of_ble_eq_true rfl) rfl rfl (fun _ _ _ => rfl) ?_
  have q := (hw.2.2.1 i hi).2.2
  have hbe := ng_buys_eq (k := M 74 (21 + 4 * i)) (t := M 74 (23 + 4 * i)) (c := M 74 (11 + t.toNatClampNeg)) (pl := ng_ypl (M 74) i) (hs := M 74 (24 + 4 * i)) (nm := M 74 3) (la := M 74 2) (st := t) (lf := lf) hlf q.1.1 q.1.2 q.2.1 q.2.2
  refine ng_aload_0 dX9_buysOf_0 ?_
  refine ng_iload_1 dX9_buysOf_1 ?_
  refine ng_iload_2 dX9_buysOf_2 ?_
  refine ng_callV_2x (y2 := mi_X9_dueOf) dX9_buysOf_3 lk_X9_126 ms_X9_dueOf my_X9_dueOf (by first | exact ⟨_, rfl⟩ | assumption | exact ng_fld_obj (f := 0) (by assumption)) mc_X9 (by first | decide | exact Nat.le_of_ble_eq_true rfl) (s_X9_dueOf hb hi ht) (by decide) ?_
  refine ng_aload_0 dX9_buysOf_6 ?_
  refine ng_iload_1 dX9_buysOf_7 ?_
  refine ng_iload_2 dX9_buysOf_8 ?_
  refine ng_callV_2i (y2 := mi_X9_worthOf) dX9_buysOf_9 lk_X9_129 ms_X9_worthOf my_X9_worthOf (by first | exact ⟨_, rfl⟩ | assumption | exact ng_fld_obj (f := 0) (by assumption)) mc_X9 (by first | decide | exact Nat.le_of_ble_eq_true rfl) (s_X9_worthOf hw.1 hb hi) (by decide) (fun wo M1 hp => ?_)
  obtain ⟨hp1, hp2⟩ := hp
  have e74 : M1 74 = M 74 := hp2 74 (by simp)
  refine ng_icmp_le 17 dX9_buysOf_12 (by decide +kernel) (fun h12 => ?_) (fun h12 => ?_)
  · refine ng_aload_0 dX9_buysOf_17 ?_
    refine ng_iload_1 dX9_buysOf_18 ?_
    refine ng_iconst_2 dX9_buysOf_19 ?_
    refine ng_callV_2x (y2 := mi_X9_of) dX9_buysOf_20 lk_X9_108 ms_X9_of my_X9_of (by first | exact ⟨_, rfl⟩ | assumption | exact ng_fld_obj (f := 0) (by assumption)) mc_X9 (by first | decide | exact Nat.le_of_ble_eq_true rfl) (s_X9_of (j := 2) hb rfl hi (by decide)) (by decide) ?_
    refine ng_istore_4 dX9_buysOf_23 rfl ?_
    refine ng_aload_0 dX9_buysOf_25 ?_
    refine ng_iload_1 dX9_buysOf_26 ?_
    refine ng_iconst_0 dX9_buysOf_27 ?_
    refine ng_callV_2x (y2 := mi_X9_of) dX9_buysOf_28 lk_X9_108 ms_X9_of my_X9_of (by first | exact ⟨_, rfl⟩ | assumption | exact ng_fld_obj (f := 0) (by assumption)) mc_X9 (by first | decide | exact Nat.le_of_ble_eq_true rfl) (s_X9_of (j := 0) hb rfl hi (by decide)) (by decide) ?_
    refine ng_iconst_2 dX9_buysOf_31 ?_
    refine ng_icmp_ne 52 dX9_buysOf_32 (by decide +kernel) (fun h32 => ?_) (fun h32 => ?_)
    · refine ng_iload_4 dX9_buysOf_52 ?_
      refine ng_istore_4 dX9_buysOf_54 rfl ?_
      refine ng_aload_0 dX9_buysOf_56 ?_
      refine ng_iload_1 dX9_buysOf_57 ?_
      refine ng_callV_1x (y2 := mi_X9_isKeeper) dX9_buysOf_58 lk_X9_132 ms_X9_isKeeper my_X9_isKeeper (by first | exact ⟨_, rfl⟩ | assumption | exact ng_fld_obj (f := 0) (by assumption)) mc_X9 (by first | decide | exact Nat.le_of_ble_eq_true rfl) (s_X9_isKeeper hb hi) (by decide) ?_
      refine ng_ifb_eq 85 dX9_buysOf_61 (by decide +kernel) (fun h61 => ?_) (fun h61 => ?_)
      · refine ng_iload_4 dX9_buysOf_85 ?_
        refine ng_istore_4 dX9_buysOf_87 rfl ?_
        refine ng_iload_4 dX9_buysOf_89 ?_
        refine ng_iload_3 dX9_buysOf_91 ?_
        refine ng_mmin dX9_buysOf_92 lk_X9_67 mms_min li_J9 mmc_min (by first | decide | exact Nat.le_of_ble_eq_true rfl) ?_
        exact ng_ireturn dX9_buysOf_95 ⟨_, rfl, by rw [ng_ybu, hbe]; simp only [Nat.add_zero, e74, show 21 + 4 * i + 3 = 24 + 4 * i by omega, show 21 + 4 * i + 2 = 23 + 4 * i by omega, hp1, ng_ydu] at *; first | (rw [if_neg h12]; done) | (rw [if_pos h12, ng_tk1 h32 h61]; rfl) | (rw [if_pos h12, ng_tk2 h32 h61]; rfl) | (exact absurd h61 (ng_tk5 h32)) | (rw [if_pos h12, ng_tk3 h32 h42]; rfl) | (rw [if_pos h12, ng_tk4 h32 h42]; rfl), hp2⟩
      · refine ng_iconst_0 dX9_buysOf_64 ?_
        refine ng_iload_4 dX9_buysOf_65 ?_
        refine ng_bipush (v := 6) dX9_buysOf_67 (by decide) ?_
        refine ng_aload_0 dX9_buysOf_69 ?_
        refine ng_iload_1 dX9_buysOf_70 ?_
        refine ng_iconst_3 dX9_buysOf_71 ?_
        refine ng_callV_2x (y2 := mi_X9_of) dX9_buysOf_72 lk_X9_108 ms_X9_of my_X9_of (by first | exact ⟨_, rfl⟩ | assumption | exact ng_fld_obj (f := 0) (by assumption)) mc_X9 (by first | decide | exact Nat.le_of_ble_eq_true rfl) (s_X9_of (j := 3) hb rfl hi (by decide)) (by decide) ?_
        refine ng_isub dX9_buysOf_75 ?_
        refine ng_mmin dX9_buysOf_76 lk_X9_67 mms_min li_J9 mmc_min (by first | decide | exact Nat.le_of_ble_eq_true rfl) ?_
        refine ng_mmax dX9_buysOf_79 lk_X9_73 mms_max li_J9 mmc_max (by first | decide | exact Nat.le_of_ble_eq_true rfl) ?_
        refine ng_goto 87 dX9_buysOf_82 (by decide +kernel) ?_
        refine ng_istore_4 dX9_buysOf_87 rfl ?_
        refine ng_iload_4 dX9_buysOf_89 ?_
        refine ng_iload_3 dX9_buysOf_91 ?_
        refine ng_mmin dX9_buysOf_92 lk_X9_67 mms_min li_J9 mmc_min (by first | decide | exact Nat.le_of_ble_eq_true rfl) ?_
        exact ng_ireturn dX9_buysOf_95 ⟨_, rfl, by rw [ng_ybu, hbe]; simp only [Nat.add_zero, e74, show 21 + 4 * i + 3 = 24 + 4 * i by omega, show 21 + 4 * i + 2 = 23 + 4 * i by omega, hp1, ng_ydu] at *; first | (rw [if_neg h12]; done) | (rw [if_pos h12, ng_tk1 h32 h61]; rfl) | (rw [if_pos h12, ng_tk2 h32 h61]; rfl) | (exact absurd h61 (ng_tk5 h32)) | (rw [if_pos h12, ng_tk3 h32 h42]; rfl) | (rw [if_pos h12, ng_tk4 h32 h42]; rfl), hp2⟩
    · refine ng_iload_2 dX9_buysOf_35 ?_
      refine ng_aload_0 dX9_buysOf_36 ?_
      refine ng_gR dX9_buysOf_37 fl_X9_9 (by first | rfl | assumption) ?_
      refine ng_iconst_2 dX9_buysOf_40 ?_
      refine ng_ialdL (j := 2) dX9_buysOf_41 (by first | rfl | assumption) (by first | assumption | (unfold vp_in; decide)) (by decide) ?_
      refine ng_icmp_le 52 dX9_buysOf_42 (by decide +kernel) (fun h42 => ?_) (fun h42 => ?_)
      · refine ng_iload_4 dX9_buysOf_52 ?_
        refine ng_istore_4 dX9_buysOf_54 rfl ?_
        refine ng_aload_0 dX9_buysOf_56 ?_
        refine ng_iload_1 dX9_buysOf_57 ?_
        refine ng_callV_1x (y2 := mi_X9_isKeeper) dX9_buysOf_58 lk_X9_132 ms_X9_isKeeper my_X9_isKeeper (by first | exact ⟨_, rfl⟩ | assumption | exact ng_fld_obj (f := 0) (by assumption)) mc_X9 (by first | decide | exact Nat.le_of_ble_eq_true rfl) (s_X9_isKeeper hb hi) (by decide) ?_
        refine ng_ifb_eq 85 dX9_buysOf_61 (by decide +kernel) (fun h61 => ?_) (fun h61 => ?_)
        · refine ng_iload_4 dX9_buysOf_85 ?_
          refine ng_istore_4 dX9_buysOf_87 rfl ?_
          refine ng_iload_4 dX9_buysOf_89 ?_
          refine ng_iload_3 dX9_buysOf_91 ?_
          refine ng_mmin dX9_buysOf_92 lk_X9_67 mms_min li_J9 mmc_min (by first | decide | exact Nat.le_of_ble_eq_true rfl) ?_
          exact ng_ireturn dX9_buysOf_95 ⟨_, rfl, by rw [ng_ybu, hbe]; simp only [Nat.add_zero, e74, show 21 + 4 * i + 3 = 24 + 4 * i by omega, show 21 + 4 * i + 2 = 23 + 4 * i by omega, hp1, ng_ydu] at *; first | (rw [if_neg h12]; done) | (rw [if_pos h12, ng_tk1 h32 h61]; rfl) | (rw [if_pos h12, ng_tk2 h32 h61]; rfl) | (exact absurd h61 (ng_tk5 h32)) | (rw [if_pos h12, ng_tk3 h32 h42]; rfl) | (rw [if_pos h12, ng_tk4 h32 h42]; rfl), hp2⟩
        · refine ng_iconst_0 dX9_buysOf_64 ?_
          refine ng_iload_4 dX9_buysOf_65 ?_
          refine ng_bipush (v := 6) dX9_buysOf_67 (by decide) ?_
          refine ng_aload_0 dX9_buysOf_69 ?_
          refine ng_iload_1 dX9_buysOf_70 ?_
          refine ng_iconst_3 dX9_buysOf_71 ?_
          refine ng_callV_2x (y2 := mi_X9_of) dX9_buysOf_72 lk_X9_108 ms_X9_of my_X9_of (by first | exact ⟨_, rfl⟩ | assumption | exact ng_fld_obj (f := 0) (by assumption)) mc_X9 (by first | decide | exact Nat.le_of_ble_eq_true rfl) (s_X9_of (j := 3) hb rfl hi (by decide)) (by decide) ?_
          refine ng_isub dX9_buysOf_75 ?_
          refine ng_mmin dX9_buysOf_76 lk_X9_67 mms_min li_J9 mmc_min (by first | decide | exact Nat.le_of_ble_eq_true rfl) ?_
          refine ng_mmax dX9_buysOf_79 lk_X9_73 mms_max li_J9 mmc_max (by first | decide | exact Nat.le_of_ble_eq_true rfl) ?_
          refine ng_goto 87 dX9_buysOf_82 (by decide +kernel) ?_
          refine ng_istore_4 dX9_buysOf_87 rfl ?_
          refine ng_iload_4 dX9_buysOf_89 ?_
          refine ng_iload_3 dX9_buysOf_91 ?_
          refine ng_mmin dX9_buysOf_92 lk_X9_67 mms_min li_J9 mmc_min (by first | decide | exact Nat.le_of_ble_eq_true rfl) ?_
          exact ng_ireturn dX9_buysOf_95 ⟨_, rfl, by rw [ng_ybu, hbe]; simp only [Nat.add_zero, e74, show 21 + 4 * i + 3 = 24 + 4 * i by omega, show 21 + 4 * i + 2 = 23 + 4 * i by omega, hp1, ng_ydu] at *; first | (rw [if_neg h12]; done) | (rw [if_pos h12, ng_tk1 h32 h61]; rfl) | (rw [if_pos h12, ng_tk2 h32 h61]; rfl) | (exact absurd h61 (ng_tk5 h32)) | (rw [if_pos h12, ng_tk3 h32 h42]; rfl) | (rw [if_pos h12, ng_tk4 h32 h42]; rfl), hp2⟩
      · refine ng_iconst_2 dX9_buysOf_45 ?_
        refine ng_iload_4 dX9_buysOf_46 ?_
        refine ng_imul dX9_buysOf_48 ?_
        refine ng_goto 54 dX9_buysOf_49 (by decide +kernel) ?_
        refine ng_istore_4 dX9_buysOf_54 rfl ?_
        refine ng_aload_0 dX9_buysOf_56 ?_
        refine ng_iload_1 dX9_buysOf_57 ?_
        refine ng_callV_1x (y2 := mi_X9_isKeeper) dX9_buysOf_58 lk_X9_132 ms_X9_isKeeper my_X9_isKeeper (by first | exact ⟨_, rfl⟩ | assumption | exact ng_fld_obj (f := 0) (by assumption)) mc_X9 (by first | decide | exact Nat.le_of_ble_eq_true rfl) (s_X9_isKeeper hb hi) (by decide) ?_
        refine ng_ifb_eq 85 dX9_buysOf_61 (by decide +kernel) (fun h61 => ?_) (fun h61 => ?_)
        · refine ng_iload_4 dX9_buysOf_85 ?_
          refine ng_istore_4 dX9_buysOf_87 rfl ?_
          refine ng_iload_4 dX9_buysOf_89 ?_
          refine ng_iload_3 dX9_buysOf_91 ?_
          refine ng_mmin dX9_buysOf_92 lk_X9_67 mms_min li_J9 mmc_min (by first | decide | exact Nat.le_of_ble_eq_true rfl) ?_
          exact ng_ireturn dX9_buysOf_95 ⟨_, rfl, by rw [ng_ybu, hbe]; simp only [Nat.add_zero, e74, show 21 + 4 * i + 3 = 24 + 4 * i by omega, show 21 + 4 * i + 2 = 23 + 4 * i by omega, hp1, ng_ydu] at *; first | (rw [if_neg h12]; done) | (rw [if_pos h12, ng_tk1 h32 h61]; rfl) | (rw [if_pos h12, ng_tk2 h32 h61]; rfl) | (exact absurd h61 (ng_tk5 h32)) | (rw [if_pos h12, ng_tk3 h32 h42]; rfl) | (rw [if_pos h12, ng_tk4 h32 h42]; rfl), hp2⟩
        · refine ng_iconst_0 dX9_buysOf_64 ?_
          refine ng_iload_4 dX9_buysOf_65 ?_
          refine ng_bipush (v := 6) dX9_buysOf_67 (by decide) ?_
          refine ng_aload_0 dX9_buysOf_69 ?_
          refine ng_iload_1 dX9_buysOf_70 ?_
          refine ng_iconst_3 dX9_buysOf_71 ?_
          refine ng_callV_2x (y2 := mi_X9_of) dX9_buysOf_72 lk_X9_108 ms_X9_of my_X9_of (by first | exact ⟨_, rfl⟩ | assumption | exact ng_fld_obj (f := 0) (by assumption)) mc_X9 (by first | decide | exact Nat.le_of_ble_eq_true rfl) (s_X9_of (j := 3) hb rfl hi (by decide)) (by decide) ?_
          refine ng_isub dX9_buysOf_75 ?_
          refine ng_mmin dX9_buysOf_76 lk_X9_67 mms_min li_J9 mmc_min (by first | decide | exact Nat.le_of_ble_eq_true rfl) ?_
          refine ng_mmax dX9_buysOf_79 lk_X9_73 mms_max li_J9 mmc_max (by first | decide | exact Nat.le_of_ble_eq_true rfl) ?_
          refine ng_goto 87 dX9_buysOf_82 (by decide +kernel) ?_
          refine ng_istore_4 dX9_buysOf_87 rfl ?_
          refine ng_iload_4 dX9_buysOf_89 ?_
          refine ng_iload_3 dX9_buysOf_91 ?_
          refine ng_mmin dX9_buysOf_92 lk_X9_67 mms_min li_J9 mmc_min (by first | decide | exact Nat.le_of_ble_eq_true rfl) ?_
          exact ng_ireturn dX9_buysOf_95 ⟨_, rfl, by rw [ng_ybu, hbe]; simp only [Nat.add_zero, e74, show 21 + 4 * i + 3 = 24 + 4 * i by omega, show 21 + 4 * i + 2 = 23 + 4 * i by omega, hp1, ng_ydu] at *; first | (rw [if_neg h12]; done) | (rw [if_pos h12, ng_tk1 h32 h61]; rfl) | (rw [if_pos h12, ng_tk2 h32 h61]; rfl) | (exact absurd h61 (ng_tk5 h32)) | (rw [if_pos h12, ng_tk3 h32 h42]; rfl) | (rw [if_pos h12, ng_tk4 h32 h42]; rfl), hp2⟩
  · refine ng_iconst_0 dX9_buysOf_15 ?_
    exact ng_ireturn dX9_buysOf_16 ⟨_, rfl, by rw [ng_ybu, hbe]; simp only [Nat.add_zero, e74, show 21 + 4 * i + 3 = 24 + 4 * i by omega, show 21 + 4 * i + 2 = 23 + 4 * i by omega, hp1, ng_ydu] at *; first | (rw [if_neg h12]; done) | (rw [if_pos h12, ng_tk1 h32 h61]; rfl) | (rw [if_pos h12, ng_tk2 h32 h61]; rfl) | (exact absurd h61 (ng_tk5 h32)) | (rw [if_pos h12, ng_tk3 h32 h42]; rfl) | (rw [if_pos h12, ng_tk4 h32 h42]; rfl), hp2⟩
/-- draws -/
def ng_z (z : Int32) : Int32 := z * 1103515245 + 12345
def ng_zi (z : Int32) : Nat → Int32
  | 0 => z
  | i + 1 => ng_z (ng_zi z i)
def ng_zq (z : Int32) : Int32 := (z.toUInt32 >>> ((8 : Int32).toUInt32 &&& Int32.toUInt32 31)).toInt32
def ng_dr (z : Int32) : Int32 := ng_zq z - ng_zq z / 13 * 13
theorem s_X9_drawn {X : Nat × (Nat → Int32)} {M : ng_M}  : ng_EvX X 1 mi_X9_drawn [.ref 73, .int 13] (M) (some (.int (ng_dr (ng_z (M 74 10))))) (ng_row M 74 (upd (M 74) 10 (ng_z (M 74 10)))) := by
  refine ng_EvX.ofI (lv := [some (.ref 73), some (.int 13)]) (ty := .int) (by decide) (Nat.le_of_ble_eq_true rfl) rfl rfl rfl ?_
  refine ng_aload_0 dX9_drawn_0 ?_
  refine ng_gR dX9_drawn_1 fl_X9_9 (by first | rfl | assumption) ?_
  refine ng_bipush (v := 10) dX9_drawn_4 (by decide) ?_
  refine ng_aload_0 dX9_drawn_6 ?_
  refine ng_gR dX9_drawn_7 fl_X9_9 (by first | rfl | assumption) ?_
  refine ng_bipush (v := 10) dX9_drawn_10 (by decide) ?_
  refine ng_ialdL (j := 10) dX9_drawn_12 (by first | rfl | assumption) (by first | assumption | (unfold vp_in; decide)) (by decide) ?_
  refine ng_ldc dX9_drawn_13 kc_X9_226 ?_
  refine ng_imul dX9_drawn_15 ?_
  refine ng_sipush (v := 12345) dX9_drawn_16 (by decide) ?_
  refine ng_iadd dX9_drawn_19 ?_
  refine ng_iastL (j := 10) dX9_drawn_20 (by first | rfl | assumption) (by first | assumption | (unfold vp_in; decide)) (by decide) ?_
  refine ng_aload_0 dX9_drawn_21 ?_
  refine ng_gR dX9_drawn_22 fl_X9_9 (by first | rfl | assumption) ?_
  refine ng_bipush (v := 10) dX9_drawn_25 (by decide) ?_
  refine ng_ialdL (j := 10) dX9_drawn_27 (by first | rfl | assumption) (by first | assumption | (unfold vp_in; decide)) (by decide) ?_
  refine ng_bipush (v := 8) dX9_drawn_28 (by decide) ?_
  refine ng_iushr dX9_drawn_30 ?_
  refine ng_iload_1 dX9_drawn_31 ?_
  refine ng_irem dX9_drawn_32 (by decide) ?_
  exact ng_ireturn dX9_drawn_33 ⟨by simp [ng_dr, ng_zq, ng_z, ng_row, upd], rfl⟩
