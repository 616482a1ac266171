/-! ===== the best row of steps: the reference; pairs best, never, costs, raise ===== -/
theorem ng_nI_div {a b : Nat} (ha : a < 2 ^ 31) (hb : b < 2 ^ 31) (h0 : 0 < b) : nI a / nI b = nI (a / b) := by
  have q : a / b ≤ a := Nat.div_le_self a b
  apply ng_i_eq
  rw [ng_divI (by rw [nI_toInt ha]; omega) (by rw [nI_toInt hb]; omega), nI_toInt ha, nI_toInt hb, nI_toInt (by omega)]
  rfl
theorem ng_nI_div10 {a : Nat} (ha : a < 2 ^ 31) : nI a / 10 = nI (a / 10) := ng_nI_div (b := 10) ha (by decide) (by decide)
theorem ng_nI_div100 {a : Nat} (ha : a < 2 ^ 31) : nI a / 100 = nI (a / 100) := ng_nI_div (b := 100) ha (by decide) (by decide)
theorem ng_nI_rem10 {a : Nat} (ha : a < 2 ^ 31) : nI a - nI a / 10 * 10 = nI (a % 10) := by
  rw [ng_nI_div10 ha, show (10 : Int32) = nI 10 from rfl, nI_mul]
  have q : a = a % 10 + a / 10 * 10 := by omega
  conv => lhs; lhs; rw [q, ← nI_add]
  rw [Int32.add_sub_cancel]
theorem ng_p10 (m : Nat) : 10 ^ (m + 1) / 10 = 10 ^ m := by rw [Nat.pow_succ, Nat.mul_div_cancel _ (by decide)]
theorem ng_p10le {m : Nat} (h : m ≤ 3) : 10 ^ m ≤ 1000 := Nat.pow_le_pow_right (n := 10) (by decide) h
theorem ng_p10pos (m : Nat) : 0 < 10 ^ m := Nat.pow_pos (by decide)
theorem ng_fsr_1 {nv g : Bool} {m r : Nat} {a : ng_R} (h : g = false) : ng_fsr nv (m + 1) g a r = ng_fsr nv m false a r := by rw [ng_fsr, if_neg (by simp [h])]
theorem ng_fsr_2 {nv g : Bool} {m r : Nat} {a : ng_R} (h : nv = true) (h2 : nI (r / 10 ^ m % 10) < a 2) : ng_fsr nv (m + 1) g a r = ng_fsr nv m false a r := by
  have q := Int32.not_le.mpr h2
  rw [ng_fsr, if_neg (by rw [h, decide_eq_false q]; simp)]
theorem ng_fsr_3 {nv g : Bool} {m r : Nat} {a : ng_R} (h : g = true) (h2 : nv = false) : ng_fsr nv (m + 1) g a r = ng_fsr nv m true (ng_yr a (nI (r / 10 ^ m % 10)) 0 ng_all) r := by rw [ng_fsr, if_pos (by simp [h, h2])]
theorem ng_fsr_4 {nv g : Bool} {m r : Nat} {a : ng_R} (h : g = true) (h2 : ¬ nI (r / 10 ^ m % 10) < a 2) : ng_fsr nv (m + 1) g a r = ng_fsr nv m true (ng_yr a (nI (r / 10 ^ m % 10)) 0 ng_all) r := by
  have q := Int32.not_lt.mp h2
  rw [ng_fsr, if_pos (by rw [h, decide_eq_true q]; simp)]
theorem l_X9_fb {X : Nat × (Nat → Int32)} {M0 : ng_M} {nv : Bool} {n r : Nat} {v4 : Int32} {F : Option Value → ng_M → Prop} (hr : r < 1000) (hn : n ≤ 3) : ∀ (m k : Nat) (g : Bool) (a : ng_R) (M : ng_M) (x9 : Option Value), k + m = n → ng_ra M0 M a →
    (∀ (M' : ng_M) (v7 : Int32) (x9 : Option Value), ng_ra M0 M' (ng_fsr nv m g a r).2 → ng_Go X mi_X9_findBest 9 127 [some (.ref 73), some (.int (nI n)), some (.int (ng_bi nv)), some (.int (nI (10 ^ n))), some (.int v4), some (.int (nI r)), some (.int (ng_bi (ng_fsr nv m g a r).1)), some (.int v7), some (.int (nI n)), x9] [] M' F) →
    ng_Go X mi_X9_findBest 9 59 [some (.ref 73), some (.int (nI n)), some (.int (ng_bi nv)), some (.int (nI (10 ^ n))), some (.int v4), some (.int (nI r)), some (.int (ng_bi g)), some (.int (nI (10 ^ m / 10))), some (.int (nI k)), x9] [] M F := by
  intro m
  induction m with
  | zero =>
    intro k g a M x9 hk h kk
    have hk2 : k = n := by omega
    subst hk2
    refine ng_iload_8 dX9_findBest_59 ?_
    refine ng_iload_1 dX9_findBest_61 ?_
    refine ng_icmp_ge 127 dX9_findBest_62 (by decide +kernel) (fun h62 => ?_) (fun h62 => ?_)
    · exact kk M _ _ h
    · exact absurd (Int32.le_refl _) h62
  | succ m ih =>
    intro k g a M x9 hk h kk
    have hp := ng_p10le (m := m) (by omega)
    have hp0 := ng_p10pos m
    have hq : r / 10 ^ m < 2 ^ 31 := by have := Nat.div_le_self r (10 ^ m); omega
    have hs : r / 10 ^ m % 10 < 10 := Nat.mod_lt _ (by decide)
    have ht : vp_in (nI (r / 10 ^ m % 10)) 10 := vp_in_nI hs (by omega)
    rw [ng_p10]
    refine ng_iload_8 dX9_findBest_59 ?_
    refine ng_iload_1 dX9_findBest_61 ?_
    refine ng_icmp_ge 127 dX9_findBest_62 (by decide +kernel) (fun h62 => ?_) (fun h62 => ?_)
    · exact absurd h62 (nI_ge (by omega) (by omega))
    · refine ng_iload_5 dX9_findBest_65 ?_
      refine ng_iload_7 dX9_findBest_67 ?_
      refine ng_idiv dX9_findBest_69 (by exact nI_ne0 hp0 (by omega)) ?_
      refine ng_bipush (v := 10) dX9_findBest_70 (by decide) ?_
      refine ng_irem dX9_findBest_72 (by decide) ?_
      rw [ng_nI_div (by omega) (by omega) hp0, ng_nI_rem10 hq]
      refine ng_istore_9 dX9_findBest_73 (by first | rfl | assumption) ?_
      refine ng_iload_7 dX9_findBest_75 ?_
      refine ng_bipush (v := 10) dX9_findBest_77 (by decide) ?_
      refine ng_idiv dX9_findBest_79 (by decide) ?_
      rw [ng_nI_div10 (by omega)]
      refine ng_istore_7 dX9_findBest_80 (by first | rfl | assumption) ?_
      refine ng_iload_6 dX9_findBest_82 ?_
      refine ng_ifb_eq 106 dX9_findBest_84 (by decide +kernel) (fun h84 => ?_) (fun h84 => ?_)
      · refine ng_iconst_0 dX9_findBest_106 ?_
        refine ng_istore_6 dX9_findBest_107 (by first | rfl | assumption) ?_
        refine ng_iload_6 dX9_findBest_109 ?_
        refine ng_if_eq 121 dX9_findBest_111 (by decide +kernel) (fun h111 => ?_) (fun h111 => ?_)
        · refine ng_iinc_8 (w := 1) dX9_findBest_121 (by decide) rfl ?_
          refine ng_goto 59 dX9_findBest_124 (by decide +kernel) ?_
          rw [nI_1]
          first
          | (rw [ng_fsr_1 h84] at kk
             exact ih (k + 1) false a M _ (by omega) h kk)
          | (rw [ng_fsr_2 h88 h99] at kk
             exact ih (k + 1) false a M _ (by omega) h kk)
          | (rw [ng_fsr_3 h84 h88] at kk
             exact ih (k + 1) true _ M2 _ (by omega) hg kk)
          | (rw [ng_fsr_4 h84 h99] at kk
             exact ih (k + 1) true _ M2 _ (by omega) hg kk)
        · exact absurd (by decide) h111
      · refine ng_iload_2 dX9_findBest_87 ?_
        refine ng_ifb_eq 102 dX9_findBest_88 (by decide +kernel) (fun h88 => ?_) (fun h88 => ?_)
        · refine ng_iconst_1 dX9_findBest_102 ?_
          refine ng_goto 107 dX9_findBest_103 (by decide +kernel) ?_
          refine ng_istore_6 dX9_findBest_107 (by first | rfl | assumption) ?_
          refine ng_iload_6 dX9_findBest_109 ?_
          refine ng_if_eq 121 dX9_findBest_111 (by decide +kernel) (fun h111 => ?_) (fun h111 => ?_)
          · exact absurd h111 (by decide)
          · refine ng_aload_0 dX9_findBest_114 ?_
            refine ng_iconst_1 dX9_findBest_115 ?_
            refine ng_iload_9 dX9_findBest_116 ?_
            refine ng_callV_2w (y2 := mi_X9_yearsGo) dX9_findBest_118 lk_X9_233 ms_X9_yearsGo my_X9_yearsGo (by first | exact ⟨_, rfl⟩ | assumption | exact ng_fld_obj (f := 0) (by assumption)) mc_X9 (by first | decide | exact Nat.le_of_ble_eq_true rfl) (s_X9_yearsGo (N := 1) h ht rfl (by decide)) (by decide) (fun M2 hg => ?_)
            refine ng_iinc_8 (w := 1) dX9_findBest_121 (by decide) rfl ?_
            refine ng_goto 59 dX9_findBest_124 (by decide +kernel) ?_
            rw [nI_1]
            first
            | (rw [ng_fsr_1 h84] at kk
               exact ih (k + 1) false a M _ (by omega) h kk)
            | (rw [ng_fsr_2 h88 h99] at kk
               exact ih (k + 1) false a M _ (by omega) h kk)
            | (rw [ng_fsr_3 h84 h88] at kk
               exact ih (k + 1) true _ M2 _ (by omega) hg kk)
            | (rw [ng_fsr_4 h84 h99] at kk
               exact ih (k + 1) true _ M2 _ (by omega) hg kk)
        · refine ng_iload_9 dX9_findBest_91 ?_
          refine ng_aload_0 dX9_findBest_93 ?_
          refine ng_gR dX9_findBest_94 fl_X9_9 (by first | rfl | assumption) ?_
          refine ng_iconst_2 dX9_findBest_97 ?_
          refine ng_ialdL (j := 2) dX9_findBest_98 (by first | rfl | assumption) (by first | assumption | (unfold vp_in; decide)) (by decide) ?_
          rw [h.2.1]
          refine ng_icmp_lt 106 dX9_findBest_99 (by decide +kernel) (fun h99 => ?_) (fun h99 => ?_)
          · refine ng_iconst_0 dX9_findBest_106 ?_
            refine ng_istore_6 dX9_findBest_107 (by first | rfl | assumption) ?_
            refine ng_iload_6 dX9_findBest_109 ?_
            refine ng_if_eq 121 dX9_findBest_111 (by decide +kernel) (fun h111 => ?_) (fun h111 => ?_)
            · refine ng_iinc_8 (w := 1) dX9_findBest_121 (by decide) rfl ?_
              refine ng_goto 59 dX9_findBest_124 (by decide +kernel) ?_
              rw [nI_1]
              first
              | (rw [ng_fsr_1 h84] at kk
                 exact ih (k + 1) false a M _ (by omega) h kk)
              | (rw [ng_fsr_2 h88 h99] at kk
                 exact ih (k + 1) false a M _ (by omega) h kk)
              | (rw [ng_fsr_3 h84 h88] at kk
                 exact ih (k + 1) true _ M2 _ (by omega) hg kk)
              | (rw [ng_fsr_4 h84 h99] at kk
                 exact ih (k + 1) true _ M2 _ (by omega) hg kk)
            · exact absurd (by decide) h111
          · refine ng_iconst_1 dX9_findBest_102 ?_
            refine ng_goto 107 dX9_findBest_103 (by decide +kernel) ?_
            refine ng_istore_6 dX9_findBest_107 (by first | rfl | assumption) ?_
            refine ng_iload_6 dX9_findBest_109 ?_
            refine ng_if_eq 121 dX9_findBest_111 (by decide +kernel) (fun h111 => ?_) (fun h111 => ?_)
            · exact absurd h111 (by decide)
            · refine ng_aload_0 dX9_findBest_114 ?_
              refine ng_iconst_1 dX9_findBest_115 ?_
              refine ng_iload_9 dX9_findBest_116 ?_
              refine ng_callV_2w (y2 := mi_X9_yearsGo) dX9_findBest_118 lk_X9_233 ms_X9_yearsGo my_X9_yearsGo (by first | exact ⟨_, rfl⟩ | assumption | exact ng_fld_obj (f := 0) (by assumption)) mc_X9 (by first | decide | exact Nat.le_of_ble_eq_true rfl) (s_X9_yearsGo (N := 1) h ht rfl (by decide)) (by decide) (fun M2 hg => ?_)
              refine ng_iinc_8 (w := 1) dX9_findBest_121 (by decide) rfl ?_
              refine ng_goto 59 dX9_findBest_124 (by decide +kernel) ?_
              rw [nI_1]
              first
              | (rw [ng_fsr_1 h84] at kk
                 exact ih (k + 1) false a M _ (by omega) h kk)
              | (rw [ng_fsr_2 h88 h99] at kk
                 exact ih (k + 1) false a M _ (by omega) h kk)
              | (rw [ng_fsr_3 h84 h88] at kk
                 exact ih (k + 1) true _ M2 _ (by omega) hg kk)
              | (rw [ng_fsr_4 h84 h99] at kk
                 exact ih (k + 1) true _ M2 _ (by omega) hg kk)
theorem l_X9_fbs {X : Nat × (Nat → Int32)} {M : ng_M} {nv : Bool} {n r : Nat} {e v4 : Int32} {x6 x9 : Option Value} {v7 : Int32} {F : Option Value → ng_M → Prop} (hn : n = 1 ∨ n = 2 ∨ n = 3) (hr : r < 1000)
    (kk : ∀ M', ng_off [73, 84] M M' → (∀ f, f ≠ 17 → M' 73 f = M 73 f) → M' 73 17 = e → (∀ i, i < n → M' 84 i = nI (ng_dgt n r i)) → ng_Go X mi_X9_findBest 9 225 [some (.ref 73), some (.int (nI n)), some (.int (ng_bi nv)), some (.int (nI (10 ^ n))), some (.int 1), some (.int (nI r)), x6, some (.int v7), some (.int e), x9] [] M' F) :
    ng_Go X mi_X9_findBest 9 163 [some (.ref 73), some (.int (nI n)), some (.int (ng_bi nv)), some (.int (nI (10 ^ n))), some (.int v4), some (.int (nI r)), x6, some (.int v7), some (.int e), x9] [] M F := by
  have hp : 10 ^ n ≤ 1000 := ng_p10le (by omega)
  have hp1 : 0 < 10 ^ n / 10 := by rcases hn with q | q | q <;> subst q <;> decide
  have hd1 : r / (10 ^ n / 10) < 2 ^ 31 := by have := Nat.div_le_self r (10 ^ n / 10); omega
  have hd2 : r / (10 ^ n / 100) < 2 ^ 31 := by have := Nat.div_le_self r (10 ^ n / 100); omega
  have key : ∀ (v0 v1 v2 : Int32), (∀ i, i < n → ([v0, v1, v2] : List Int32)[i]? = some (nI (ng_dgt n r i))) → ∀ M' : ng_M, M' = ng_row (ng_row (ng_row (ng_row M 73 (upd (M 73) 17 e)) 84 (upd ((ng_row M 73 (upd (M 73) 17 e)) 84) 0 v0)) 84 (upd ((ng_row (ng_row M 73 (upd (M 73) 17 e)) 84 (upd ((ng_row M 73 (upd (M 73) 17 e)) 84) 0 v0)) 84) 1 v1)) 84 (upd ((ng_row (ng_row (ng_row M 73 (upd (M 73) 17 e)) 84 (upd ((ng_row M 73 (upd (M 73) 17 e)) 84) 0 v0)) 84 (upd ((ng_row (ng_row M 73 (upd (M 73) 17 e)) 84 (upd ((ng_row M 73 (upd (M 73) 17 e)) 84) 0 v0)) 84) 1 v1)) 84) 2 v2) →
      ng_Go X mi_X9_findBest 9 225 [some (.ref 73), some (.int (nI n)), some (.int (ng_bi nv)), some (.int (nI (10 ^ n))), some (.int 1), some (.int (nI r)), x6, some (.int v7), some (.int e), x9] [] M' F := by
    intro v0 v1 v2 hv M' hM
    refine kk M' ?_ (fun f hf => ?_) ?_ (fun i hi => ?_)
    · rw [hM]; exact (((ng_off.rf.row (by simp)).row (by simp)).row (by simp)).row (by simp)
    · rw [hM, ng_row_ne (by decide), ng_row_ne (by decide), ng_row_ne (by decide), ng_row_eq, ng_upd_ne hf]
    · rw [hM, ng_row_ne (by decide), ng_row_ne (by decide), ng_row_ne (by decide), ng_row_eq, ng_upd_eq]
    · have z := hv i hi
      have g0 : M' 84 0 = v0 := by rw [hM, ng_row_eq, ng_upd_ne (by decide), ng_row_eq, ng_upd_ne (by decide), ng_row_eq, ng_upd_eq]
      have g1 : M' 84 1 = v1 := by rw [hM, ng_row_eq, ng_upd_ne (by decide), ng_row_eq, ng_upd_eq]
      have g2 : M' 84 2 = v2 := by rw [hM, ng_row_eq, ng_upd_eq]
      have hi3 : i = 0 ∨ i = 1 ∨ i = 2 := by omega
      rcases hi3 with q | q | q <;> subst q
      · rw [g0]; exact Option.some.inj z
      · rw [g1]; exact Option.some.inj z
      · rw [g2]; exact Option.some.inj z
  refine ng_iconst_1 dX9_findBest_163 ?_
  refine ng_istore_4 dX9_findBest_164 (by first | rfl | assumption) ?_
  refine ng_aload_0 dX9_findBest_166 ?_
  refine ng_iload_8 dX9_findBest_167 ?_
  refine ng_pI dX9_findBest_169 fp_X9_243 (by first | rfl | assumption) rfl rfl ?_
  refine ng_aload_0 dX9_findBest_172 ?_
  refine ng_gR dX9_findBest_173 fl_X9_48 (by first | rfl | assumption) ?_
  refine ng_iconst_0 dX9_findBest_176 ?_
  refine ng_iload_5 dX9_findBest_177 ?_
  refine ng_iload_3 dX9_findBest_179 ?_
  refine ng_bipush (v := 10) dX9_findBest_180 (by decide) ?_
  refine ng_idiv dX9_findBest_182 (by decide) ?_
  refine ng_idiv dX9_findBest_183 (by rw [ng_nI_div10 (by omega)]; exact nI_ne0 hp1 (by omega)) ?_
  refine ng_bipush (v := 10) dX9_findBest_184 (by decide) ?_
  refine ng_irem dX9_findBest_186 (by decide) ?_
  rw [ng_nI_div10 (by omega), ng_nI_div (by omega) (by omega) hp1, ng_nI_rem10 hd1]
  refine ng_iastL (j := 0) dX9_findBest_187 (by first | rfl | assumption) (by first | assumption | (unfold vp_in; decide)) (by decide) ?_
  refine ng_aload_0 dX9_findBest_188 ?_
  refine ng_gR dX9_findBest_189 fl_X9_48 (by first | rfl | assumption) ?_
  refine ng_iconst_1 dX9_findBest_192 ?_
  refine ng_iload_3 dX9_findBest_193 ?_
  refine ng_bipush (v := 10) dX9_findBest_194 (by decide) ?_
  skip
  refine ng_icmp_le 212 dX9_findBest_196 (by decide +kernel) (fun h196 => ?_) (fun h196 => ?_)
  · refine ng_iconst_0 dX9_findBest_212 ?_
    refine ng_iastL (j := 1) dX9_findBest_213 (by first | rfl | assumption) (by first | assumption | (unfold vp_in; decide)) (by decide) ?_
    refine ng_aload_0 dX9_findBest_214 ?_
    refine ng_gR dX9_findBest_215 fl_X9_48 (by first | rfl | assumption) ?_
    refine ng_iconst_2 dX9_findBest_218 ?_
    refine ng_iload_5 dX9_findBest_219 ?_
    refine ng_bipush (v := 10) dX9_findBest_221 (by decide) ?_
    refine ng_irem dX9_findBest_223 (by decide) ?_
    rw [ng_nI_rem10 (by omega)]
    refine ng_iastL (j := 2) dX9_findBest_224 (by first | rfl | assumption) (by first | assumption | (unfold vp_in; decide)) (by decide) ?_
    refine key _ _ _ (fun i hi => ?_) _ rfl
    rcases hn with q | q | q
    · subst q
      have hi0 : i = 0 := by omega
      subst hi0
      rfl
    · subst q
      have hi3 : i = 0 ∨ i = 1 := by omega
      rcases hi3 with q | q
      · subst q; rfl
      · subst q
        first
        | exact absurd h196 (by decide)
        | (simp [ng_dgt]; done)
        | rfl
    · subst q
      have hi3 : i = 0 ∨ i = 1 ∨ i = 2 := by omega
      rcases hi3 with q | q | q
      · subst q; rfl
      · subst q
        first
        | exact absurd h196 (by decide)
        | rfl
      · subst q
        first
        | (simp [ng_dgt]; done)
        | rfl
  · have hn1 : n ≠ 1 := fun q => by
      subst q
      exact absurd (show nI (10 ^ 1) ≤ 10 by decide) h196
    have hp2 : 0 < 10 ^ n / 100 := by
      rcases hn with q | q | q
      · exact absurd q hn1
      · subst q; decide
      · subst q; decide
    refine ng_iload_5 dX9_findBest_199 ?_
    refine ng_iload_3 dX9_findBest_201 ?_
    refine ng_bipush (v := 100) dX9_findBest_202 (by decide) ?_
    refine ng_idiv dX9_findBest_204 (by decide) ?_
    refine ng_idiv dX9_findBest_205 (by rw [ng_nI_div100 (by omega)]; exact nI_ne0 hp2 (by omega)) ?_
    refine ng_bipush (v := 10) dX9_findBest_206 (by decide) ?_
    refine ng_irem dX9_findBest_208 (by decide) ?_
    rw [ng_nI_div100 (by omega), ng_nI_div (by omega) (by omega) hp2, ng_nI_rem10 hd2]
    refine ng_goto 213 dX9_findBest_209 (by decide +kernel) ?_
    refine ng_iastL (j := 1) dX9_findBest_213 (by first | rfl | assumption) (by first | assumption | (unfold vp_in; decide)) (by decide) ?_
    refine ng_aload_0 dX9_findBest_214 ?_
    refine ng_gR dX9_findBest_215 fl_X9_48 (by first | rfl | assumption) ?_
    refine ng_iconst_2 dX9_findBest_218 ?_
    refine ng_iload_5 dX9_findBest_219 ?_
    refine ng_bipush (v := 10) dX9_findBest_221 (by decide) ?_
    refine ng_irem dX9_findBest_223 (by decide) ?_
    rw [ng_nI_rem10 (by omega)]
    refine ng_iastL (j := 2) dX9_findBest_224 (by first | rfl | assumption) (by first | assumption | (unfold vp_in; decide)) (by decide) ?_
    refine key _ _ _ (fun i hi => ?_) _ rfl
    rcases hn with q | q | q
    · subst q
      have hi0 : i = 0 := by omega
      subst hi0
      rfl
    · subst q
      have hi3 : i = 0 ∨ i = 1 := by omega
      rcases hi3 with q | q
      · subst q; rfl
      · subst q
        first
        | exact absurd h196 (by decide)
        | (simp [ng_dgt]; done)
        | rfl
    · subst q
      have hi3 : i = 0 ∨ i = 1 ∨ i = 2 := by omega
      rcases hi3 with q | q | q
      · subst q; rfl
      · subst q
        first
        | exact absurd h196 (by decide)
        | rfl
      · subst q
        first
        | (simp [ng_dgt]; done)
        | rfl
def ng_RBr (M : ng_M) (n : Nat) (acc : Option (Int32 × Nat)) : Prop := match acc with | none => True | some q => M 73 17 = q.1 ∧ ∀ i, i < n → M 84 i = nI (ng_dgt n q.2 i)
theorem ng_RBr.congr {M M' : ng_M} {n : Nat} {acc : Option (Int32 × Nat)} (h : ng_RBr M n acc) (h1 : M' 73 = M 73) (h2 : M' 84 = M 84) : ng_RBr M' n acc := by
  unfold ng_RBr
  rw [h1, h2]
  exact h
/-- between two rows of steps -/
def ng_FB (M0 M : ng_M) (n : Nat) (acc : Option (Int32 × Nat)) : Prop := ng_off [73, 76, 81, 82, 83, 84] M0 M ∧ (∀ f, f ≠ 17 → M 73 f = M0 73 f) ∧ (∀ k, k < 227 → M 76 k = M0 74 k) ∧ ng_RBr M n acc
theorem l_X9_fbe {X : Nat × (Nat → Int32)} {M0 M1 : ng_M} {nv g : Bool} {n r : Nat} {a1 : ng_R} {acc : Option (Int32 × Nat)} {v7 : Int32} {x9 : Option Value} {F : Option Value → ng_M → Prop} (hn : n = 1 ∨ n = 2 ∨ n = 3) (hr : r < 1000) (f1 : M1 74 = a1) (hl : vp_in (a1 2) 10) (hb : ng_FB M0 (ng_row M1 74 (ng_cp (M1 76) (M1 74))) n acc)
    (kk : ∀ (M' : ng_M) (x6 x7 x8 x9 : Option Value), ng_FB M0 M' n (ng_kpO acc (if g = true then some (ng_ends a1) else none) r) → ng_Go X mi_X9_findBest 9 41 [some (.ref 73), some (.int (nI n)), some (.int (ng_bi nv)), some (.int (nI (10 ^ n))), some (.int (ng_bi (ng_kpO acc (if g = true then some (ng_ends a1) else none) r).isSome)), some (.int (nI (r + 1))), x6, x7, x8, x9] [] M' F) :
    ng_Go X mi_X9_findBest 9 127 [some (.ref 73), some (.int (nI n)), some (.int (ng_bi nv)), some (.int (nI (10 ^ n))), some (.int (ng_bi acc.isSome)), some (.int (nI r)), some (.int (ng_bi g)), some (.int v7), some (.int (nI n)), x9] [] M1 F := by
  have st : ∀ (M2 : ng_M) (x6 x9 : Option Value) (v4 : Int32), ng_FB M0 M2 n acc → ng_kpO acc (if g = true then some (ng_ends a1) else none) r = some (ng_ends a1, r) → ng_Go X mi_X9_findBest 9 163 [some (.ref 73), some (.int (nI n)), some (.int (ng_bi nv)), some (.int (nI (10 ^ n))), some (.int v4), some (.int (nI r)), x6, some (.int v7), some (.int (ng_ends a1)), x9] [] M2 F := by
    intro M2 x6 x9 v4 h2 hk
    rw [hk] at kk
    refine l_X9_fbs hn hr (fun M3 o1 o2 o3 o4 => ?_)
    refine ng_iinc_5 (w := 1) dX9_findBest_225 (by decide) rfl ?_
    refine ng_goto 41 dX9_findBest_228 (by decide +kernel) ?_
    rw [nI_1]
    refine kk M3 _ _ _ _ ⟨fun k hk => ?_, fun f hf => ?_, fun k hk => ?_, o3, o4⟩
    · rw [o1 k (by simp at hk ⊢; omega)]; exact h2.1 k hk
    · rw [o2 f hf]; exact h2.2.1 f hf
    · rw [o1 76 (by decide)]; exact h2.2.2.1 k hk
  have hb2 : ∀ M2 : ng_M, M2 = ng_row M1 74 (ng_cp (M1 76) (M1 74)) → ng_FB M0 M2 n acc := fun M2 e => by rw [e]; exact hb
  refine ng_aload_0 dX9_findBest_127 ?_
  refine ng_callV_0x (y2 := mi_X9_ends) dX9_findBest_128 lk_X9_227 ms_X9_ends my_X9_ends (by first | exact ⟨_, rfl⟩ | assumption | exact ng_fld_obj (f := 0) (by assumption)) mc_X9 (by first | decide | exact Nat.le_of_ble_eq_true rfl) (s_X9_ends (by rw [f1]; exact hl)) (by decide) ?_
  rw [f1]
  refine ng_istore_8 dX9_findBest_131 (by first | rfl | assumption) ?_
  refine ng_aload_0 dX9_findBest_133 ?_
  refine ng_gR dX9_findBest_134 fl_X9_16 (by first | rfl | assumption) ?_
  refine ng_aload_0 dX9_findBest_137 ?_
  refine ng_gR dX9_findBest_138 fl_X9_9 (by first | rfl | assumption) ?_
  refine ng_callS_2v (y2 := mi_X9_copy) dX9_findBest_141 lk_X9_76 ms_X9_copy my_X9_copy (by first | decide | exact Nat.le_of_ble_eq_true rfl) (s_X9_copy rfl rfl (by decide)) (by decide) ?_
  have hb3 := hb2 _ rfl
  generalize ng_row M1 74 (ng_cp (M1 76) (M1 74)) = M2 at hb3 ⊢
  refine ng_iload_6 dX9_findBest_144 ?_
  refine ng_ifb_eq 225 dX9_findBest_146 (by decide +kernel) (fun h146 => ?_) (fun h146 => ?_)
  · refine ng_iinc_5 (w := 1) dX9_findBest_225 (by decide) rfl ?_
    refine ng_goto 41 dX9_findBest_228 (by decide +kernel) ?_
    rw [nI_1]
    rw [if_neg (by rw [h146]; decide)] at kk
    exact kk M2 _ _ _ _ hb3
  · refine ng_iload_4 dX9_findBest_149 ?_
    refine ng_ifb_eq 163 dX9_findBest_151 (by decide +kernel) (fun h151 => ?_) (fun h151 => ?_)
    · have ha : acc = none := by
        cases acc with
        | none => rfl
        | some q => exact absurd h151 (by simp)
      subst ha
      exact st M2 _ _ _ hb3 (by rw [if_pos h146]; rfl)
    · refine ng_iload_8 dX9_findBest_154 ?_
      refine ng_aload_0 dX9_findBest_156 ?_
      refine ng_gI dX9_findBest_157 fl_X9_243 (by first | rfl | assumption) ?_
      obtain ⟨q, hq⟩ := Option.isSome_iff_exists.mp h151
      subst hq
      rw [hb3.2.2.2.1]
      refine ng_icmp_le 225 dX9_findBest_160 (by decide +kernel) (fun h160 => ?_) (fun h160 => ?_)
      · refine ng_iinc_5 (w := 1) dX9_findBest_225 (by decide) rfl ?_
        refine ng_goto 41 dX9_findBest_228 (by decide +kernel) ?_
        rw [nI_1]
        have ek : ng_kpO (some q) (some (ng_ends a1)) r = some q := ng_kpA_f (Int32.not_lt.mpr h160)
        rw [if_pos h146, ek] at kk
        exact kk M2 _ _ _ _ hb3
      · exact st M2 _ _ _ hb3 (by rw [if_pos h146]; exact ng_kpA_t (Int32.not_le.mp h160))
theorem l_X9_findBest {X : Nat × (Nat → Int32)} {M0 : ng_M} {nv : Bool} {n : Nat} (hn : n = 1 ∨ n = 2 ∨ n = 3) (hok : ng_okY (M0 74)) : ∀ (m r : Nat) (acc : Option (Int32 × Nat)) (M : ng_M) (x6 x7 x8 x9 : Option Value), r + m = 10 ^ n → ng_FB M0 M n acc →
    ng_Go X mi_X9_findBest 9 41 [some (.ref 73), some (.int (nI n)), some (.int (ng_bi nv)), some (.int (nI (10 ^ n))), some (.int (ng_bi acc.isSome)), some (.int (nI r)), x6, x7, x8, x9] [] M (fun r' M' => r' = none ∧ ng_FB M0 M' n ((List.range' r m).foldl (fun acc r => ng_kpO acc (ng_fo nv n (M0 74) r) r) acc)) := by
  have hp : 10 ^ n ≤ 1000 := ng_p10le (by omega)
  intro m
  induction m with
  | zero =>
    intro r acc M x6 x7 x8 x9 hr h
    have hr2 : r = 10 ^ n := by omega
    subst hr2
    refine ng_iload_5 dX9_findBest_41 ?_
    refine ng_iload_3 dX9_findBest_43 ?_
    refine ng_icmp_ge 231 dX9_findBest_44 (by decide +kernel) (fun h44 => ?_) (fun h44 => ?_)
    · exact ng_return dX9_findBest_231 ⟨rfl, h⟩
    · exact absurd (Int32.le_refl _) h44
  | succ m ih =>
    intro r acc M x6 x7 x8 x9 hr h
    have e74 : M 74 = M0 74 := h.1 74 (by decide)
    have hra : ng_ra M M (M0 74) := ⟨ng_off.rf, e74, fun k _ => by rw [e74], hok⟩
    rw [List.range'_succ, List.foldl_cons]
    refine ng_iload_5 dX9_findBest_41 ?_
    refine ng_iload_3 dX9_findBest_43 ?_
    refine ng_icmp_ge 231 dX9_findBest_44 (by decide +kernel) (fun h44 => ?_) (fun h44 => ?_)
    · exact absurd h44 (nI_ge (by omega) (by omega))
    · refine ng_iconst_1 dX9_findBest_47 ?_
      refine ng_istore_6 dX9_findBest_48 (by first | rfl | assumption) ?_
      refine ng_iload_3 dX9_findBest_50 ?_
      refine ng_bipush (v := 10) dX9_findBest_51 (by decide) ?_
      refine ng_idiv dX9_findBest_53 (by decide) ?_
      rw [ng_nI_div10 (by omega)]
      refine ng_istore_7 dX9_findBest_54 (by first | rfl | assumption) ?_
      refine ng_iconst_0 dX9_findBest_56 ?_
      refine ng_istore_8 dX9_findBest_57 (by first | rfl | assumption) ?_
      refine l_X9_fb (by omega) (by omega) n 0 true (M0 74) M _ (by omega) hra (fun M1 v7 y9 h1 => ?_)
      have f1 := h1.2.1
      have hl1 := h1.2.2.2.wfr.1.1.2.1
      have hcp : ng_cp (M1 76) (M1 74) = M0 74 := by
        funext k
        by_cases q : k < 227
        · rw [ng_cp_at q, h1.1 76 (by decide), h.2.2.1 k q]
        · rw [ng_cp, if_neg q, f1, h1.2.2.1 k (by omega), e74]
      have hb : ∀ M2 : ng_M, M2 = ng_row M1 74 (ng_cp (M1 76) (M1 74)) → ng_FB M0 M2 n acc := by
        intro M2 e2
        have e : ∀ k, k ∉ [74, 81, 82, 83] → M2 k = M k := fun k hk => by
          rw [e2, ng_row_ne (by simp at hk; omega)]
          exact h1.1 k hk
        refine ⟨fun k hk => ?_, fun f hf => ?_, fun k hk => ?_, h.2.2.2.congr (e 73 (by decide)) (e 84 (by decide))⟩
        · by_cases q : k = 74
          · subst q; rw [e2, ng_row_eq, hcp]
          · simp at hk
            rw [e k (by simp; omega)]
            exact h.1 k (by simp; omega)
        · rw [e 73 (by decide)]; exact h.2.1 f hf
        · rw [e 76 (by decide)]; exact h.2.2.1 k hk
      refine l_X9_fbe hn (by omega) f1 hl1 (hb _ rfl) (fun M2 x6 x7 x8 x9 h2 => ?_)
      exact ih (r + 1) _ M2 _ _ _ _ (by omega) h2
theorem s_X9_findBest {X : Nat × (Nat → Int32)} {M : ng_M} {n : Int32} {N : Nat} {nv : Bool} (hok : ng_okY (M 74)) (hn : n = nI N) (h1 : 1 ≤ N) (h3 : N ≤ 3) : ng_EvV X 9 mi_X9_findBest [.ref 73, .int n, .int (ng_bi nv)] M (fun M' => ng_off [73, 76, 81, 82, 83, 84] M M' ∧ (∀ f, f ≠ 17 → M' 73 f = M 73 f) ∧ M' 73 17 = (ng_bst nv N (M 74)).1 ∧ ∀ i, i < N → M' 84 i = nI (ng_dgt N (ng_bst nv N (M 74)).2 i)) := by
  subst hn
  have hN : N = 1 ∨ N = 2 ∨ N = 3 := by omega
  refine ng_EvV.of (lv := [some (.ref 73), some (.int (nI N)), some (.int (ng_bi nv)), none, none, none, none, none, none, none]) (by decide) (Nat.le_of_ble_eq_true rfl) rfl rfl ?_
  have key : ng_Go X mi_X9_findBest 9 41 [some (.ref 73), some (.int (nI N)), some (.int (ng_bi nv)), some (.int (nI (10 ^ N))), some (.int 0), some (.int (nI 0)), none, none, none, none] [] (ng_row M 76 (ng_cp (M 74) (M 76))) (fun r' M' => r' = none ∧ ng_off [73, 76, 81, 82, 83, 84] M M' ∧ (∀ f, f ≠ 17 → M' 73 f = M 73 f) ∧ M' 73 17 = (ng_bst nv N (M 74)).1 ∧ ∀ i, i < N → M' 84 i = nI (ng_dgt N (ng_bst nv N (M 74)).2 i)) := by
    have e : ∀ k, k ≠ 76 → ng_row M 76 (ng_cp (M 74) (M 76)) k = M k := fun k hk => ng_row_ne hk
    have z := l_X9_findBest (X := X) (M0 := M) (nv := nv) hN hok (10 ^ N) 0 none (ng_row M 76 (ng_cp (M 74) (M 76))) none none none none (by omega) ⟨fun k hk => e k (by simp at hk; omega), fun f _ => by rw [e 73 (by decide)], fun k hk => by rw [ng_row_eq, ng_cp_at hk], trivial⟩
    refine z.imp (fun r' M' hz => ?_)
    obtain ⟨z1, z2, z3, z4, z5⟩ := hz
    rw [← List.range_eq_range', ng_flat0 (ng_l10 hok), ng_bst_some hok] at z5
    exact ⟨z1, z2, z3, z5.1, z5.2⟩
  refine ng_aload_0 dX9_findBest_0 ?_
  refine ng_gR dX9_findBest_1 fl_X9_9 (by first | rfl | assumption) ?_
  refine ng_aload_0 dX9_findBest_4 ?_
  refine ng_gR dX9_findBest_5 fl_X9_16 (by first | rfl | assumption) ?_
  refine ng_callS_2v (y2 := mi_X9_copy) dX9_findBest_8 lk_X9_76 ms_X9_copy my_X9_copy (by first | decide | exact Nat.le_of_ble_eq_true rfl) (s_X9_copy rfl rfl (by decide)) (by decide) ?_
  refine ng_iload_1 dX9_findBest_11 ?_
  refine ng_iconst_1 dX9_findBest_12 ?_
  refine ng_icmp_ne 21 dX9_findBest_13 (by decide +kernel) (fun h13 => ?_) (fun h13 => ?_)
  · refine ng_iload_1 dX9_findBest_21 ?_
    refine ng_iconst_2 dX9_findBest_22 ?_
    refine ng_icmp_ne 31 dX9_findBest_23 (by decide +kernel) (fun h23 => ?_) (fun h23 => ?_)
    · refine ng_sipush (v := 1000) dX9_findBest_31 (by decide) ?_
      refine ng_istore_3 dX9_findBest_34 (by first | rfl | assumption) ?_
      refine ng_iconst_0 dX9_findBest_35 ?_
      refine ng_istore_4 dX9_findBest_36 (by first | rfl | assumption) ?_
      refine ng_iconst_0 dX9_findBest_38 ?_
      refine ng_istore_5 dX9_findBest_39 (by first | rfl | assumption) ?_
      first
      | (have hN1 : N = 1 := (nI_eq (a := N) (b := 1) (by omega) (by omega)).mp h13
         subst hN1
         exact key)
      | (have hN2 : N = 2 := (nI_eq (a := N) (b := 2) (by omega) (by omega)).mp h23
         subst hN2
         exact key)
      | (have hN3 : N = 3 := by
           rcases hN with q | q | q
           · subst q; exact absurd rfl h13
           · subst q; exact absurd rfl h23
           · exact q
         subst hN3
         exact key)
    · refine ng_bipush (v := 100) dX9_findBest_26 (by decide) ?_
      refine ng_goto 34 dX9_findBest_28 (by decide +kernel) ?_
      refine ng_istore_3 dX9_findBest_34 (by first | rfl | assumption) ?_
      refine ng_iconst_0 dX9_findBest_35 ?_
      refine ng_istore_4 dX9_findBest_36 (by first | rfl | assumption) ?_
      refine ng_iconst_0 dX9_findBest_38 ?_
      refine ng_istore_5 dX9_findBest_39 (by first | rfl | assumption) ?_
      first
      | (have hN1 : N = 1 := (nI_eq (a := N) (b := 1) (by omega) (by omega)).mp h13
         subst hN1
         exact key)
      | (have hN2 : N = 2 := (nI_eq (a := N) (b := 2) (by omega) (by omega)).mp h23
         subst hN2
         exact key)
      | (have hN3 : N = 3 := by
           rcases hN with q | q | q
           · subst q; exact absurd rfl h13
           · subst q; exact absurd rfl h23
           · exact q
         subst hN3
         exact key)
  · refine ng_bipush (v := 10) dX9_findBest_16 (by decide) ?_
    refine ng_goto 34 dX9_findBest_18 (by decide +kernel) ?_
    refine ng_istore_3 dX9_findBest_34 (by first | rfl | assumption) ?_
    refine ng_iconst_0 dX9_findBest_35 ?_
    refine ng_istore_4 dX9_findBest_36 (by first | rfl | assumption) ?_
    refine ng_iconst_0 dX9_findBest_38 ?_
    refine ng_istore_5 dX9_findBest_39 (by first | rfl | assumption) ?_
    first
    | (have hN1 : N = 1 := (nI_eq (a := N) (b := 1) (by omega) (by omega)).mp h13
       subst hN1
       exact key)
    | (have hN2 : N = 2 := (nI_eq (a := N) (b := 2) (by omega) (by omega)).mp h23
       subst hN2
       exact key)
    | (have hN3 : N = 3 := by
         rcases hN with q | q | q
         · subst q; exact absurd rfl h13
         · subst q; exact absurd rfl h23
         · exact q
       subst hN3
       exact key)
theorem ng_rout.fb {M M' : ng_M} (h : ng_off [73, 76, 81, 82, 83, 84] M M') (h2 : ∀ f, f ≠ 17 → M' 73 f = M 73 f) : ng_rout M M' := ⟨fun k hk => h k (by simp; omega), h2 3 (by decide), h2 19 (by decide)⟩
theorem s_X9_ofBest {X : Nat × (Nat → Int32)} {M : ng_M} {n i : Int32} {nv : Bool} (h : ng_ok (M 74)) : ng_EvI X 10 mi_X9_ofBest [.ref 73, .int n, .int i, .int (ng_bi nv)] M (fun r M1 => ng_a9 M (ng_beE (M 74) nv n i) r M1) := by
  refine ng_EvI.of (lv := [some (.ref 73), some (.int n), some (.int i), some (.int (ng_bi nv))]) (ty := .int) (by decide) (Nat.le_of_ble_eq_true rfl) rfl rfl (fun _ _ _ => rfl) ?_
  unfold ng_beE
  refine ng_iload_1 dX9_ofBest_0 ?_
  refine ng_iconst_1 dX9_ofBest_1 ?_
  refine ng_iconst_3 dX9_ofBest_2 ?_
  refine ng_callS_3x (y2 := mi_X9_within) dX9_ofBest_3 lk_X9_80 ms_X9_within my_X9_within (by first | decide | exact Nat.le_of_ble_eq_true rfl) (s_X9_within) (by decide) ?_
  refine ng_ifb_eq 20 dX9_ofBest_6 (by decide +kernel) (fun h6 => ?_) (fun h6 => ?_)
  · refine ng_aload_0 dX9_ofBest_20 ?_
    refine ng_ldc dX9_ofBest_21 kc_X9_91 ?_
    refine ng_callV_1x (y2 := mi_X9_finding) dX9_ofBest_23 lk_X9_92 ms_X9_finding my_X9_finding (by first | exact ⟨_, rfl⟩ | assumption | exact ng_fld_obj (f := 0) (by assumption)) mc_X9 (by first | decide | exact Nat.le_of_ble_eq_true rfl) (s_X9_finding (k := 1) (by decide) (by decide) (by decide)) (by decide) ?_
    exact ng_ireturn dX9_ofBest_26 ⟨_, rfl, by rw [if_neg (by simp_all)]; exact ⟨M, ng_rout.rf, by decide, rfl⟩⟩
  · refine ng_iload_2 dX9_ofBest_9 ?_
    refine ng_iconst_m1 dX9_ofBest_10 ?_
    refine ng_iload_1 dX9_ofBest_11 ?_
    refine ng_iconst_1 dX9_ofBest_12 ?_
    refine ng_isub dX9_ofBest_13 ?_
    refine ng_callS_3x (y2 := mi_X9_within) dX9_ofBest_14 lk_X9_80 ms_X9_within my_X9_within (by first | decide | exact Nat.le_of_ble_eq_true rfl) (s_X9_within) (by decide) ?_
    refine ng_ifb_ne 27 dX9_ofBest_17 (by decide +kernel) (fun h17 => ?_) (fun h17 => ?_)
    · obtain ⟨e, e1, e3⟩ := ng_n3v h6
      refine ng_aload_0 dX9_ofBest_27 ?_
      refine ng_iload_1 dX9_ofBest_28 ?_
      refine ng_iload_3 dX9_ofBest_29 ?_
      refine ng_callV_2w (y2 := mi_X9_findBest) dX9_ofBest_30 lk_X9_246 ms_X9_findBest my_X9_findBest (by first | exact ⟨_, rfl⟩ | assumption | exact ng_fld_obj (f := 0) (by assumption)) mc_X9 (by first | decide | exact Nat.le_of_ble_eq_true rfl) (s_X9_findBest (nv := nv) h.Y e e1 e3) (by decide) (fun M2 hf => ?_)
      refine ng_iload_2 dX9_ofBest_33 ?_
      refine ng_if_ge 44 dX9_ofBest_34 (by decide +kernel) (fun h34 => ?_) (fun h34 => ?_)
      · obtain ⟨i1, i2, i3⟩ := ng_i3v h6 h17 h34
        refine ng_aload_0 dX9_ofBest_44 ?_
        refine ng_gR dX9_ofBest_45 fl_X9_48 (by first | rfl | assumption) ?_
        refine ng_iload_2 dX9_ofBest_48 ?_
        refine ng_iald dX9_ofBest_49 (by first | rfl | assumption) (by exact i3) ?_
        exact ng_ireturn dX9_ofBest_50 ⟨_, rfl, by
  rw [if_pos (by rw [h6, h17]; rfl)]
  first
  | (rw [if_pos h34]; exact ⟨M2, ng_rout.fb hf.1 hf.2.1, hf.2.2.2 _ i2, rfl⟩)
  | (rw [if_neg h34]; exact ⟨M2, ng_rout.fb hf.1 hf.2.1, hf.2.2.1, rfl⟩)⟩
      · refine ng_aload_0 dX9_ofBest_37 ?_
        refine ng_gI dX9_ofBest_38 fl_X9_243 (by first | rfl | assumption) ?_
        refine ng_goto 50 dX9_ofBest_41 (by decide +kernel) ?_
        exact ng_ireturn dX9_ofBest_50 ⟨_, rfl, by
  rw [if_pos (by rw [h6, h17]; rfl)]
  first
  | (rw [if_pos h34]; exact ⟨M2, ng_rout.fb hf.1 hf.2.1, hf.2.2.2 _ i2, rfl⟩)
  | (rw [if_neg h34]; exact ⟨M2, ng_rout.fb hf.1 hf.2.1, hf.2.2.1, rfl⟩)⟩
    · refine ng_aload_0 dX9_ofBest_20 ?_
      refine ng_ldc dX9_ofBest_21 kc_X9_91 ?_
      refine ng_callV_1x (y2 := mi_X9_finding) dX9_ofBest_23 lk_X9_92 ms_X9_finding my_X9_finding (by first | exact ⟨_, rfl⟩ | assumption | exact ng_fld_obj (f := 0) (by assumption)) mc_X9 (by first | decide | exact Nat.le_of_ble_eq_true rfl) (s_X9_finding (k := 1) (by decide) (by decide) (by decide)) (by decide) ?_
      exact ng_ireturn dX9_ofBest_26 ⟨_, rfl, by rw [if_neg (by simp_all)]; exact ⟨M, ng_rout.rf, by decide, rfl⟩⟩
theorem r_best {X : Nat × (Nat → Int32)} {M : ng_M} {n i : Int32} (h : ng_ok (M 74)) : ng_EvI X 11 mi_X9_best [.ref 73, .int n, .int i] M (ng_a9 M (ng_beE (M 74) false n i)) := by
  refine ng_EvI.of (lv := [some (.ref 73), some (.int n), some (.int i)]) (ty := .int) (by decide) (Nat.le_of_ble_eq_true rfl) rfl rfl (fun _ _ _ => rfl) ?_
  have z : ng_EvI X 10 mi_X9_ofBest [.ref 73, .int n, .int i, .int 0] M (ng_a9 M (ng_beE (M 74) false n i)) := s_X9_ofBest (nv := false) h
  refine ng_aload_0 dX9_best_0 ?_
  refine ng_iload_1 dX9_best_1 ?_
  refine ng_iload_2 dX9_best_2 ?_
  refine ng_iconst_0 dX9_best_3 ?_
  refine ng_callV_3i (y2 := mi_X9_ofBest) dX9_best_4 lk_X9_250 ms_X9_ofBest my_X9_ofBest (by first | exact ⟨_, rfl⟩ | assumption | exact ng_fld_obj (f := 0) (by assumption)) mc_X9 (by first | decide | exact Nat.le_of_ble_eq_true rfl) (z) (by decide) (fun v M2 hf => ?_)
  exact ng_ireturn dX9_best_7 ⟨_, rfl, hf⟩
theorem pr_best {X : Nat × (Nat → Int32)} {M : ng_M} {n i : Int32} (h : ng_inv M) : ng_pair X mi_X8_best mi_X9_best [.int n, .int i] M :=
  ng_pair.A h (c_best h.1) (by decide) (d9 := 11) (by decide) (fun M1 e => by rw [← e 74 (by decide)]; exact r_best (by rw [e 74 (by decide)]; exact h.1.2))
theorem r_never {X : Nat × (Nat → Int32)} {M : ng_M} {n i : Int32} (h : ng_ok (M 74)) : ng_EvI X 11 mi_X9_never [.ref 73, .int n, .int i] M (ng_a9 M (ng_beE (M 74) true n i)) := by
  refine ng_EvI.of (lv := [some (.ref 73), some (.int n), some (.int i)]) (ty := .int) (by decide) (Nat.le_of_ble_eq_true rfl) rfl rfl (fun _ _ _ => rfl) ?_
  have z : ng_EvI X 10 mi_X9_ofBest [.ref 73, .int n, .int i, .int 1] M (ng_a9 M (ng_beE (M 74) true n i)) := s_X9_ofBest (nv := true) h
  refine ng_aload_0 dX9_never_0 ?_
  refine ng_iload_1 dX9_never_1 ?_
  refine ng_iload_2 dX9_never_2 ?_
  refine ng_iconst_1 dX9_never_3 ?_
  refine ng_callV_3i (y2 := mi_X9_ofBest) dX9_never_4 lk_X9_250 ms_X9_ofBest my_X9_ofBest (by first | exact ⟨_, rfl⟩ | assumption | exact ng_fld_obj (f := 0) (by assumption)) mc_X9 (by first | decide | exact Nat.le_of_ble_eq_true rfl) (z) (by decide) (fun v M2 hf => ?_)
  exact ng_ireturn dX9_never_7 ⟨_, rfl, hf⟩
theorem pr_never {X : Nat × (Nat → Int32)} {M : ng_M} {n i : Int32} (h : ng_inv M) : ng_pair X mi_X8_never mi_X9_never [.int n, .int i] M :=
  ng_pair.A h (c_never h.1) (by decide) (d9 := 11) (by decide) (fun M1 e => by rw [← e 74 (by decide)]; exact r_never (by rw [e 74 (by decide)]; exact h.1.2))
theorem r_costs {X : Nat × (Nat → Int32)} {M : ng_M} {n : Int32} (h : ng_ok (M 74)) : ng_EvI X 10 mi_X9_costs [.ref 73, .int n] M (ng_a9 M (ng_coE (M 74) n)) := by
  refine ng_EvI.of (lv := [some (.ref 73), some (.int n), none]) (ty := .int) (by decide) (Nat.le_of_ble_eq_true rfl) rfl rfl (fun _ _ _ => rfl) ?_
  unfold ng_coE
  refine ng_iload_1 dX9_costs_0 ?_
  refine ng_iconst_1 dX9_costs_1 ?_
  refine ng_iconst_3 dX9_costs_2 ?_
  refine ng_callS_3x (y2 := mi_X9_within) dX9_costs_3 lk_X9_80 ms_X9_within my_X9_within (by first | decide | exact Nat.le_of_ble_eq_true rfl) (s_X9_within) (by decide) ?_
  refine ng_ifb_ne 16 dX9_costs_6 (by decide +kernel) (fun h6 => ?_) (fun h6 => ?_)
  · obtain ⟨e, e1, e3⟩ := ng_n3v h6
    refine ng_aload_0 dX9_costs_16 ?_
    refine ng_iload_1 dX9_costs_17 ?_
    refine ng_iconst_0 dX9_costs_18 ?_
    refine ng_callV_2w (y2 := mi_X9_findBest) dX9_costs_19 lk_X9_246 ms_X9_findBest my_X9_findBest (by first | exact ⟨_, rfl⟩ | assumption | exact ng_fld_obj (f := 0) (by assumption)) mc_X9 (by first | decide | exact Nat.le_of_ble_eq_true rfl) (s_X9_findBest (nv := false) h.Y e e1 e3) (by decide) (fun M2 hf => ?_)
    have e74 : M2 74 = M 74 := hf.1 74 (by decide)
    refine ng_aload_0 dX9_costs_22 ?_
    refine ng_gI dX9_costs_23 fl_X9_243 (by first | rfl | assumption) ?_
    refine ng_istore_2 dX9_costs_26 (by first | rfl | assumption) ?_
    refine ng_aload_0 dX9_costs_27 ?_
    refine ng_iload_1 dX9_costs_28 ?_
    refine ng_iconst_1 dX9_costs_29 ?_
    refine ng_callV_2w (y2 := mi_X9_findBest) dX9_costs_30 lk_X9_246 ms_X9_findBest my_X9_findBest (by first | exact ⟨_, rfl⟩ | assumption | exact ng_fld_obj (f := 0) (by assumption)) mc_X9 (by first | decide | exact Nat.le_of_ble_eq_true rfl) (s_X9_findBest (nv := true) (by rw [e74]; exact h.Y) e e1 e3) (by decide) (fun M3 hg => ?_)
    refine ng_iload_2 dX9_costs_33 ?_
    refine ng_aload_0 dX9_costs_34 ?_
    refine ng_gI dX9_costs_35 fl_X9_243 (by first | rfl | assumption) ?_
    refine ng_isub dX9_costs_38 ?_
    exact ng_ireturn dX9_costs_39 ⟨_, rfl, by rw [if_pos h6]; exact ⟨M3, (ng_rout.fb hf.1 hf.2.1).tr (ng_rout.fb hg.1 hg.2.1), by rw [hf.2.2.1, hg.2.2.1, e74], rfl⟩⟩
  · refine ng_aload_0 dX9_costs_9 ?_
    refine ng_ldc dX9_costs_10 kc_X9_91 ?_
    refine ng_callV_1x (y2 := mi_X9_finding) dX9_costs_12 lk_X9_92 ms_X9_finding my_X9_finding (by first | exact ⟨_, rfl⟩ | assumption | exact ng_fld_obj (f := 0) (by assumption)) mc_X9 (by first | decide | exact Nat.le_of_ble_eq_true rfl) (s_X9_finding (k := 1) (by decide) (by decide) (by decide)) (by decide) ?_
    exact ng_ireturn dX9_costs_15 ⟨_, rfl, by rw [if_neg (by rw [h6]; decide)]; exact ⟨M, ng_rout.rf, by decide, rfl⟩⟩
theorem pr_costs {X : Nat × (Nat → Int32)} {M : ng_M} {n : Int32} (h : ng_inv M) : ng_pair X mi_X8_costs mi_X9_costs [.int n] M :=
  ng_pair.A h (c_costs h.1) (by decide) (d9 := 10) (by decide) (fun M1 e => by rw [← e 74 (by decide)]; exact r_costs (by rw [e 74 (by decide)]; exact h.1.2))
/-- while the reference tries how many to keep -/
def ng_RZ (M0 M : ng_M) : Prop := ng_off [73, 74, 76, 81, 82, 83, 84] M0 M ∧ (∀ f, f ≠ 17 → M 73 f = M0 73 f) ∧ ∃ v, M 74 = upd (M0 74) 5 v
theorem ng_upd2 {a : ng_R} {i : Nat} {v w : Int32} : upd (upd a i v) i w = upd a i w := by
  funext k
  by_cases q : k = i
  · subst q; rw [ng_upd_eq, ng_upd_eq]
  · rw [ng_upd_ne q, ng_upd_ne q, ng_upd_ne q]
theorem l_X9_raise {X : Nat × (Nat → Int32)} {M0 : ng_M} {n v2 : Int32} {N : Nat} {F : Option Value → ng_M → Prop} (hok : ng_okY (M0 74)) (hn : n = nI N) (h1 : 1 ≤ N) (h3 : N ≤ 3) : ∀ (m k : Nat) (M : ng_M), k + m = 61 → ng_RZ M0 M →
    (∀ (M' : ng_M) (x4 : Option Value), ng_RZ M0 M' → ng_Go X mi_X9_raise 10 81 [some (.ref 73), some (.int n), some (.int v2), some (.int (ng_rs (M0 74) N m k)), x4] [] M' F) →
    ng_Go X mi_X9_raise 10 28 [some (.ref 73), some (.int n), some (.int v2), some (.int (-1)), some (.int (nI k))] [] M F := by
  intro m
  induction m with
  | zero =>
    intro k M hk h kk
    have hk2 : k = 61 := by omega
    subst hk2
    refine ng_iload_4 dX9_raise_28 ?_
    refine ng_bipush (v := 60) dX9_raise_30 (by decide) ?_
    refine ng_icmp_gt 81 dX9_raise_32 (by decide +kernel) (fun h32 => ?_) (fun h32 => ?_)
    · exact kk M _ h
    · exact absurd (show (60 : Int32) < nI 61 by decide) h32
  | succ m ih =>
    intro k M hk h kk
    obtain ⟨o1, o2, v, o3⟩ := id h
    have e5 : ng_row M 74 (upd (M 74) 5 (nI k)) 74 = upd (M0 74) 5 (nI k) := by rw [ng_row_eq, o3, ng_upd2]
    refine ng_iload_4 dX9_raise_28 ?_
    refine ng_bipush (v := 60) dX9_raise_30 (by decide) ?_
    refine ng_icmp_gt 81 dX9_raise_32 (by decide +kernel) (fun h32 => ?_) (fun h32 => ?_)
    · exact absurd (show nI 60 < nI k from h32) (ng_nI_lt (by omega) (by omega))
    · refine ng_iload_3 dX9_raise_35 ?_
      refine ng_if_ge 81 dX9_raise_36 (by decide +kernel) (fun h36 => ?_) (fun h36 => ?_)
      · exact absurd h36 (by decide)
      · refine ng_aload_0 dX9_raise_39 ?_
        refine ng_gR dX9_raise_40 fl_X9_9 (by first | rfl | assumption) ?_
        refine ng_iconst_5 dX9_raise_43 ?_
        refine ng_iload_4 dX9_raise_44 ?_
        refine ng_iastL (j := 5) dX9_raise_46 (by first | rfl | assumption) (by first | assumption | (unfold vp_in; decide)) (by decide) ?_
        refine ng_aload_0 dX9_raise_47 ?_
        refine ng_iload_1 dX9_raise_48 ?_
        refine ng_iconst_0 dX9_raise_49 ?_
        refine ng_callV_2w (y2 := mi_X9_findBest) dX9_raise_50 lk_X9_246 ms_X9_findBest my_X9_findBest (by first | exact ⟨_, rfl⟩ | assumption | exact ng_fld_obj (f := 0) (by assumption)) mc_X9 (by first | decide | exact Nat.le_of_ble_eq_true rfl) (s_X9_findBest (nv := false) (by rw [e5]; exact ng_ok5 hok (by omega)) hn h1 h3) (by decide) (fun M2 hf => ?_)
        have e74 : M2 74 = upd (M0 74) 5 (nI k) := by rw [hf.1 74 (by decide), e5]
        have hz : ng_RZ M0 M2 := ⟨fun j hj => by
          simp at hj
          rw [hf.1 j (by simp; omega), ng_row_ne (by omega)]
          exact o1 j (by simp; omega), fun f hq => by rw [hf.2.1 f hq, ng_row_ne (by decide)]; exact o2 f hq, _, e74⟩
        refine ng_aload_0 dX9_raise_53 ?_
        refine ng_gR dX9_raise_54 fl_X9_48 (by first | rfl | assumption) ?_
        refine ng_iconst_0 dX9_raise_57 ?_
        refine ng_ialdL (j := 0) dX9_raise_58 (by first | rfl | assumption) (by first | assumption | (unfold vp_in; decide)) (by decide) ?_
        refine ng_aload_0 dX9_raise_59 ?_
        refine ng_gR dX9_raise_60 fl_X9_9 (by first | rfl | assumption) ?_
        refine ng_iconst_2 dX9_raise_63 ?_
        refine ng_ialdL (j := 2) dX9_raise_64 (by first | rfl | assumption) (by first | assumption | (unfold vp_in; decide)) (by decide) ?_
        rw [hf.2.2.2 0 (by omega), e5, e74, ng_upd_ne (by decide)]
        refine ng_icmp_le 73 dX9_raise_65 (by decide +kernel) (fun h65 => ?_) (fun h65 => ?_)
        · refine ng_iconst_m1 dX9_raise_73 ?_
          refine ng_istore_3 dX9_raise_74 (by first | rfl | assumption) ?_
          refine ng_iinc_4 (w := 1) dX9_raise_75 (by decide) rfl ?_
          refine ng_goto 28 dX9_raise_78 (by decide +kernel) ?_
          rw [nI_1]
          rw [ng_rs, if_neg (Int32.not_lt.mpr h65)] at kk
          exact ih (k + 1) M2 (by omega) hz kk
        · have g0 : (0 : Int32) ≤ nI k := by rw [ng_le, ng_0, nI_toInt (by omega)]; omega
          rw [ng_rs, if_pos (Int32.not_le.mp h65)] at kk
          refine ng_iload_4 dX9_raise_68 ?_
          refine ng_goto 74 dX9_raise_70 (by decide +kernel) ?_
          refine ng_istore_3 dX9_raise_74 (by first | rfl | assumption) ?_
          refine ng_iinc_4 (w := 1) dX9_raise_75 (by decide) rfl ?_
          refine ng_goto 28 dX9_raise_78 (by decide +kernel) ?_
          refine ng_iload_4 dX9_raise_28 ?_
          refine ng_bipush (v := 60) dX9_raise_30 (by decide) ?_
          refine ng_icmp_gt 81 dX9_raise_32 (by decide +kernel) (fun _ => ?_) (fun _ => ?_)
          · exact kk M2 _ hz
          · refine ng_iload_3 dX9_raise_35 ?_
            refine ng_if_ge 81 dX9_raise_36 (by decide +kernel) (fun _ => ?_) (fun q => ?_)
            · exact kk M2 _ hz
            · exact absurd g0 q
theorem r_raise {X : Nat × (Nat → Int32)} {M : ng_M} {n : Int32} (h : ng_ok (M 74)) : ng_EvI X 10 mi_X9_raise [.ref 73, .int n] M (ng_a9 M (ng_raE (M 74) n)) := by
  refine ng_EvI.of (lv := [some (.ref 73), some (.int n), none, none, none]) (ty := .int) (by decide) (Nat.le_of_ble_eq_true rfl) rfl rfl (fun _ _ _ => rfl) ?_
  unfold ng_raE
  refine ng_iload_1 dX9_raise_0 ?_
  refine ng_iconst_1 dX9_raise_1 ?_
  refine ng_iconst_2 dX9_raise_2 ?_
  refine ng_callS_3x (y2 := mi_X9_within) dX9_raise_3 lk_X9_80 ms_X9_within my_X9_within (by first | decide | exact Nat.le_of_ble_eq_true rfl) (s_X9_within) (by decide) ?_
  refine ng_ifb_ne 16 dX9_raise_6 (by decide +kernel) (fun h6 => ?_) (fun h6 => ?_)
  · obtain ⟨e, e1, e3⟩ := ng_n2v h6
    refine ng_aload_0 dX9_raise_16 ?_
    refine ng_gR dX9_raise_17 fl_X9_9 (by first | rfl | assumption) ?_
    refine ng_iconst_5 dX9_raise_20 ?_
    refine ng_ialdL (j := 5) dX9_raise_21 (by first | rfl | assumption) (by first | assumption | (unfold vp_in; decide)) (by decide) ?_
    refine ng_istore_2 dX9_raise_22 (by first | rfl | assumption) ?_
    refine ng_iconst_m1 dX9_raise_23 ?_
    refine ng_istore_3 dX9_raise_24 (by first | rfl | assumption) ?_
    refine ng_iconst_0 dX9_raise_25 ?_
    refine ng_istore_4 dX9_raise_26 (by first | rfl | assumption) ?_
    rw [if_pos h6]
    refine l_X9_raise (M0 := M) h.Y e e1 e3 61 0 M (by omega) ⟨ng_off.rf, fun _ _ => rfl, _, ng_upd_same.symm⟩ (fun M2 x4 hz => ?_)
    obtain ⟨o1, o2, v, o3⟩ := hz
    have eM : ng_rout M (ng_row M2 74 (upd (M2 74) 5 (M 74 5))) := ⟨fun k hk => by
      by_cases q : k = 74
      · subst q; rw [ng_row_eq, o3, ng_upd2, ng_upd_same]
      · rw [ng_row_ne q]; exact o1 k (by simp; omega), by rw [ng_row_ne (by decide)]; exact o2 3 (by decide), by rw [ng_row_ne (by decide)]; exact o2 19 (by decide)⟩
    refine ng_aload_0 dX9_raise_81 ?_
    refine ng_gR dX9_raise_82 fl_X9_9 (by first | rfl | assumption) ?_
    refine ng_iconst_5 dX9_raise_85 ?_
    refine ng_iload_2 dX9_raise_86 ?_
    refine ng_iastL (j := 5) dX9_raise_87 (by first | rfl | assumption) (by first | assumption | (unfold vp_in; decide)) (by decide) ?_
    refine ng_iload_3 dX9_raise_88 ?_
    refine ng_if_ge 101 dX9_raise_89 (by decide +kernel) (fun h89 => ?_) (fun h89 => ?_)
    · refine ng_iload_3 dX9_raise_101 ?_
      refine ng_ireturn dX9_raise_102 ⟨_, rfl, ?_⟩
      rw [if_neg (Int32.not_lt.mpr h89)]
      exact ⟨_, eM, rfl, rfl⟩
    · refine ng_aload_0 dX9_raise_92 ?_
      refine ng_ldc dX9_raise_93 kc_X9_118 ?_
      refine ng_callV_1x (y2 := mi_X9_finding) dX9_raise_95 lk_X9_92 ms_X9_finding my_X9_finding (by first | exact ⟨_, rfl⟩ | assumption | exact ng_fld_obj (f := 0) (by assumption)) mc_X9 (by first | decide | exact Nat.le_of_ble_eq_true rfl) (s_X9_finding (k := 2) (by decide) (by decide) (by decide)) (by decide) ?_
      refine ng_goto 102 dX9_raise_98 (by decide +kernel) ?_
      exact ng_ireturn dX9_raise_102 ⟨_, rfl, by rw [if_pos (Int32.not_le.mp h89)]; exact ⟨_, eM, by decide, rfl⟩⟩
  · refine ng_aload_0 dX9_raise_9 ?_
    refine ng_ldc dX9_raise_10 kc_X9_91 ?_
    refine ng_callV_1x (y2 := mi_X9_finding) dX9_raise_12 lk_X9_92 ms_X9_finding my_X9_finding (by first | exact ⟨_, rfl⟩ | assumption | exact ng_fld_obj (f := 0) (by assumption)) mc_X9 (by first | decide | exact Nat.le_of_ble_eq_true rfl) (s_X9_finding (k := 1) (by decide) (by decide) (by decide)) (by decide) ?_
    exact ng_ireturn dX9_raise_15 ⟨_, rfl, by rw [if_neg (by rw [h6]; decide)]; exact ⟨M, ng_rout.rf, by decide, rfl⟩⟩
theorem pr_raise {X : Nat × (Nat → Int32)} {M : ng_M} {n : Int32} (h : ng_inv M) : ng_pair X mi_X8_raise mi_X9_raise [.int n] M :=
  ng_pair.A h (c_raise h.1) (by decide) (d9 := 10) (by decide) (fun M1 e => by rw [← e 74 (by decide)]; exact r_raise (by rw [e 74 (by decide)]; exact h.1.2))
