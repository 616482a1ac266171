/-! ===== pair: voice; the class ===== -/
def ng_bdo (i : Nat) : Int32 := ([10, 11, 12, 13, 0, 20, 0, 0, 30, 0, 0, 0, 0, 0, 40, 0, 50, 0, 0, 51, 0, 60, 0, 0, 0, 0, 70, 71] : List Int32).getD i 0
def ng_bfN : Nat → Int32 → Int32 → Int32
  | 0, _, _ => 0
  | n + 1, k, a => if ng_in k 0 6 then (if ng_bdo (4 * k + a).toNatClampNeg = 0 then ng_bfN n (ng_ab k) a else ng_bdo (4 * k + a).toNatClampNeg) else 0
def ng_vb (K N O : Int32) : Nat → Int32 → Int32 → List Int32 × Int32
  | 0, _, _ => ([], 0)
  | f + 1, b, x =>
    if b = 10 then ([b], x + N)
    else if b = 11 then (b :: (ng_vb K N O f (ng_bfN 7 K 0) x).1, (ng_vb K N O f (ng_bfN 7 K 0) x).2 * 2)
    else if b = 12 then ([b], x - O)
    else if b = 13 then (b :: ((ng_vb K N O f (ng_bfN 7 K 1) x).1 ++ (ng_vb K N O f (ng_bfN 7 K 2) x).1), (ng_vb K N O f (ng_bfN 7 K 1) x).2 ^^^ (ng_vb K N O f (ng_bfN 7 K 2) x).2)
    else if b = 20 then (b :: ((ng_vb K N O f (ng_bfN 7 0 1) x).1 ++ (ng_vb K N O f (ng_bfN 7 K 2) 1).1), (ng_vb K N O f (ng_bfN 7 0 1) x).2 - (ng_vb K N O f (ng_bfN 7 K 2) 1).2)
    else if b = 30 then (b :: (ng_vb K N O f (ng_bfN 7 1 0) x).1, (ng_vb K N O f (ng_bfN 7 1 0) x).2 * 3)
    else if b = 40 then (b :: (ng_vb K N O f (ng_bfN 7 0 2) x).1, -(ng_vb K N O f (ng_bfN 7 0 2) x).2)
    else if b = 50 then (b :: (ng_vb K N O f (ng_bfN 7 3 0) (x + 1)).1, (ng_vb K N O f (ng_bfN 7 3 0) (x + 1)).2)
    else if b = 51 then (b :: ((ng_vb K N O f (ng_bfN 7 3 3) x).1 ++ (ng_vb K N O f (ng_bfN 7 K 0) 2).1), (ng_vb K N O f (ng_bfN 7 3 3) x).2 - (ng_vb K N O f (ng_bfN 7 K 0) 2).2)
    else if b = 60 then (b :: (ng_vb K N O f (ng_bfN 7 0 1) x).1, (ng_vb K N O f (ng_bfN 7 0 1) x).2 ^^^ N)
    else if b = 70 then (b :: (ng_vb K N O f (ng_bfN 7 1 2) x).1, (ng_vb K N O f (ng_bfN 7 1 2) x).2 + O)
    else if b = 71 then (b :: ((ng_vb K N O f (ng_bfN 7 K 1) x).1 ++ (ng_vb K N O f (ng_bfN 7 1 3) x).1), (ng_vb K N O f (ng_bfN 7 K 1) x).2 - (ng_vb K N O f (ng_bfN 7 1 3) x).2)
    else ([b], 0)
def ng_tp (M : ng_M) (b : Int32) : ng_M := if M 58 1 < 40 then ng_row (ng_row M 59 (upd (M 59) (M 58 1).toNatClampNeg b)) 58 (upd (M 58) 1 (M 58 1 + 1)) else M
def ng_tps (M : ng_M) (l : List Int32) : ng_M := l.foldl ng_tp M
theorem ng_tps_app {M : ng_M} {l k : List Int32} : ng_tps (ng_tps M l) k = ng_tps M (l ++ k) := (List.foldl_append).symm
theorem ng_tps_cons {M : ng_M} {b : Int32} {l : List Int32} : ng_tps (ng_tp M b) l = ng_tps M (b :: l) := rfl
def ng_vc (K N O : Int32) (M : ng_M) : Prop := (∃ n, M 58 1 = nI n ∧ n ≤ 40) ∧ M 58 2 = K ∧ M 58 3 = N ∧ M 58 4 = O
theorem ng_lt40 {n : Nat} (h : n ≤ 40) : nI n < 40 ↔ n < 40 := by
  rw [ng_lt, nI_toInt (by omega), show (40 : Int32).toInt = 40 by decide]
  omega
theorem ng_vc.tp {K N O : Int32} {M : ng_M} (h : ng_vc K N O M) (b : Int32) : ng_vc K N O (ng_tp M b) := by
  obtain ⟨⟨n, h1, h2⟩, h3, h4, h5⟩ := h
  unfold ng_tp
  by_cases q : M 58 1 < 40
  · rw [if_pos q]
    rw [h1, ng_lt40 h2] at q
    refine ⟨⟨n + 1, by rw [ng_row_eq, ng_upd_eq, h1, nI_1], by omega⟩, ?_, ?_, ?_⟩
    · rw [ng_row_eq, ng_upd_ne (by decide)]; exact h3
    · rw [ng_row_eq, ng_upd_ne (by decide)]; exact h4
    · rw [ng_row_eq, ng_upd_ne (by decide)]; exact h5
  · rw [if_neg q]; exact ⟨⟨n, h1, h2⟩, h3, h4, h5⟩
theorem ng_vc.tps {K N O : Int32} : ∀ (l : List Int32) (M : ng_M), ng_vc K N O M → ng_vc K N O (ng_tps M l)
  | [], _, h => h
  | b :: l, M, h => ng_vc.tps l (ng_tp M b) (h.tp b)
theorem s_X6_begins {X : Nat × (Nat → Int32)} {M : ng_M} {K N O b : Int32} (h : ng_vc K N O M) : ng_EvX X 1 mi_X6_begins [.ref 58, .int b] M none (ng_tp M b) := by
  obtain ⟨⟨n, h1, h2⟩, h3, h4, h5⟩ := h
  refine ng_EvX.ofV (lv := [some (.ref 58), some (.int b)]) (by decide) (Nat.le_of_ble_eq_true rfl) rfl rfl ?_
  refine ng_aload_0 dX6_begins_0 ?_
  refine ng_gI dX6_begins_1 fl_X6_33 (by first | rfl | assumption) ?_
  refine ng_aload_0 dX6_begins_4 ?_
  refine ng_gR dX6_begins_5 fl_X6_9 (by first | rfl | assumption) ?_
  refine ng_alen dX6_begins_8 (by first | rfl | assumption) ?_
  refine ng_icmp_ge 32 dX6_begins_9 (by decide +kernel) (fun h9 => ?_) (fun h9 => ?_)
  · exact ng_return dX6_begins_32 ⟨rfl, by rw [ng_tp, if_neg (show ¬ M 58 1 < 40 from Int32.not_lt.mpr h9)]⟩
  · have hlt : n < 40 := (ng_lt40 h2).mp (by rw [← h1]; exact Int32.not_le.mp h9)
    refine ng_aload_0 dX6_begins_12 ?_
    refine ng_gR dX6_begins_13 fl_X6_9 (by first | rfl | assumption) ?_
    refine ng_aload_0 dX6_begins_16 ?_
    refine ng_gI dX6_begins_17 fl_X6_33 (by first | rfl | assumption) ?_
    refine ng_iload_1 dX6_begins_20 ?_
    refine ng_iast dX6_begins_21 (by first | rfl | assumption) (by rw [h1]; exact vp_in_nI hlt (by omega)) ?_
    refine ng_aload_0 dX6_begins_22 ?_
    refine ng_dup dX6_begins_23 rfl ?_
    refine ng_gI dX6_begins_24 fl_X6_33 (by first | rfl | assumption) ?_
    refine ng_iconst_1 dX6_begins_27 ?_
    refine ng_iadd dX6_begins_28 ?_
    refine ng_pI dX6_begins_29 fp_X6_33 (by first | rfl | assumption) rfl rfl ?_
    exact ng_return dX6_begins_32 ⟨rfl, by rw [ng_tp, if_pos (show M 58 1 < 40 from Int32.not_le.mp h9)]; rfl⟩
theorem ng_bfi {k a : Int32} (hk : ng_in k 0 6 = true) (ha : ng_in a 0 3 = true) : vp_in (4 * k + a) 28 := by
  have q1 := ng_vin hk (n := 7) (by decide)
  have q2 := ng_vin ha (n := 4) (by decide)
  have e : 4 * k + a = nI (4 * k.toNatClampNeg + a.toNatClampNeg) := by
    have z := nI_mul 4 k.toNatClampNeg
    rw [← ng_nat q1.1] at z
    have z2 : nI (4 * k.toNatClampNeg) + nI a.toNatClampNeg = _ := nI_add _ _
    rw [← ng_nat q2.1, ← z] at z2
    exact z2
  rw [e]
  exact vp_in_nI (by omega) (by omega)
theorem l_X6_bodyFrom {X : Nat × (Nat → Int32)} {M : ng_M} {k0 act : Int32} (ha : ng_in act 0 3 = true) : ∀ (n i : Nat) (k : Int32) (x4 : Option Value), i + n = 7 → ng_nl x4 = true →
    ng_Go X mi_X6_bodyFrom 2 4 [some (.int k0), some (.int act), some (.int k), some (.int (nI i)), x4] [] M (fun r' M' => r' = some (.int (ng_bfN n k act)) ∧ M' = M) := by
  intro n
  induction n with
  | zero =>
    intro i k x4 hi n4
    have hi2 : i = 7 := by omega
    subst hi2
    refine ng_iload_3 dX6_bodyFrom_4 ?_
    refine ng_bipush (v := 7) dX6_bodyFrom_5 (by decide) ?_
    refine ng_icmp_ge 51 dX6_bodyFrom_7 (by decide +kernel) (fun h7 => ?_) (fun h7 => ?_)
    · refine ng_iconst_0 dX6_bodyFrom_51 ?_
      exact ng_ireturn dX6_bodyFrom_52 ⟨rfl, rfl⟩
    · exact absurd (show (7 : Int32) ≤ nI 7 by decide) h7
  | succ n ih =>
    intro i k x4 hi n4
    refine ng_iload_3 dX6_bodyFrom_4 ?_
    refine ng_bipush (v := 7) dX6_bodyFrom_5 (by decide) ?_
    refine ng_icmp_ge 51 dX6_bodyFrom_7 (by decide +kernel) (fun h7 => ?_) (fun h7 => ?_)
    · exact absurd (show nI 7 ≤ nI i from h7) (nI_ge (by omega) (by omega))
    · refine ng_iload_2 dX6_bodyFrom_10 ?_
      refine ng_iconst_0 dX6_bodyFrom_11 ?_
      refine ng_bipush (v := 6) dX6_bodyFrom_12 (by decide) ?_
      refine ng_callSN_3x (y2 := mi_X8_isWithin) dX6_bodyFrom_14 (by decide : (RX6, 50, yX8_isWithin, "NinePots") ∈ ng_nm) ms_X8_isWithin my_X8_isWithin (by first | decide | exact Nat.le_of_ble_eq_true rfl) (s_X8_isWithin) (by decide) ?_
      refine ng_ifb_eq 51 dX6_bodyFrom_17 (by decide +kernel) (fun h17 => ?_) (fun h17 => ?_)
      · refine ng_iconst_0 dX6_bodyFrom_51 ?_
        exact ng_ireturn dX6_bodyFrom_52 ⟨by rw [ng_bfN, if_neg (by rw [h17]; decide)], rfl⟩
      · refine ng_gets (v := .ref 1004) dX6_bodyFrom_20 (by decide) fs_X6_54 ?_
        refine ng_iconst_4 dX6_bodyFrom_23 ?_
        refine ng_iload_2 dX6_bodyFrom_24 ?_
        refine ng_imul dX6_bodyFrom_25 ?_
        refine ng_iload_1 dX6_bodyFrom_26 ?_
        refine ng_iadd dX6_bodyFrom_27 ?_
        refine ng_kld (k := 4) dX6_bodyFrom_28 rfl (by exact ng_bfi h17 ha) ?_
        refine ng_istore_4 dX6_bodyFrom_29 (by first | rfl | assumption) ?_
        refine ng_iload_4 dX6_bodyFrom_31 ?_
        refine ng_if_eq 39 dX6_bodyFrom_33 (by decide +kernel) (fun h33 => ?_) (fun h33 => ?_)
        · refine ng_getsN (C0 := "NinePots") (n0 := "ABOVE") (d0 := "[I") (host := "NinePots") (v := .ref 1002) dX6_bodyFrom_39 (by decide) (by decide) ?_
          refine ng_iload_2 dX6_bodyFrom_42 ?_
          refine ng_kld (k := 2) dX6_bodyFrom_43 rfl (by exact ng_in_vp h17 (by decide)) ?_
          refine ng_istore_2 dX6_bodyFrom_44 (by first | rfl | assumption) ?_
          refine ng_iinc_3 (w := 1) dX6_bodyFrom_45 (by decide) rfl ?_
          refine ng_goto 4 dX6_bodyFrom_48 (by decide +kernel) ?_
          rw [nI_1, ng_bfN, if_pos h17, if_pos (show ng_bdo (4 * k + act).toNatClampNeg = 0 from h33)]
          exact ih (i + 1) _ _ (by omega) rfl
        · refine ng_iload_4 dX6_bodyFrom_36 ?_
          exact ng_ireturn dX6_bodyFrom_38 ⟨by rw [ng_bfN, if_pos h17, if_neg (show ¬ ng_bdo (4 * k + act).toNatClampNeg = 0 from h33)]; rfl, rfl⟩
theorem s_X6_bodyFrom {X : Nat × (Nat → Int32)} {M : ng_M} {k act : Int32} (ha : ng_in act 0 3 = true) : ng_EvX X 2 mi_X6_bodyFrom [.int k, .int act] M (some (.int (ng_bfN 7 k act))) M := by
  refine ng_EvX.ofI (lv := [some (.int k), some (.int act), none, none, none]) (ty := .int) (by decide) (Nat.le_of_ble_eq_true rfl) rfl rfl rfl ?_
  refine ng_iload_0 dX6_bodyFrom_0 ?_
  refine ng_istore_2 dX6_bodyFrom_1 (by first | rfl | assumption) ?_
  refine ng_iconst_0 dX6_bodyFrom_2 ?_
  refine ng_istore_3 dX6_bodyFrom_3 (by first | rfl | assumption) ?_
  exact l_X6_bodyFrom ha 7 0 k _ (by omega) rfl
/-- a body of the class, with f calls left -/
def ng_VB (X : Nat × (Nat → Int32)) (K N O : Int32) (f : Nat) : Prop := ∀ (b x : Int32) (M : ng_M) (dd : Nat), dd + f = 21 → ng_vc K N O M → ng_EvX X (2 * f + 4) mi_X6_body [.ref 58, .int b, .int x, .int (nI dd)] M (some (.int (ng_vb K N O f b x).2)) (ng_tps M (ng_vb K N O f b x).1)
theorem s_X6_own {X : Nat × (Nat → Int32)} {K N O act x : Int32} {f dd : Nat} {M : ng_M} (hB : ng_VB X K N O f) (ha : ng_in act 0 3 = true) (hd : dd + 1 + f = 21) (h : ng_vc K N O M) : ng_EvX X (2 * f + 5) mi_X6_own [.ref 58, .int act, .int x, .int (nI dd)] M (some (.int (ng_vb K N O f (ng_bfN 7 K act) x).2)) (ng_tps M (ng_vb K N O f (ng_bfN 7 K act) x).1) := by
  have hk := h.2.1
  refine ng_EvX.ofI (lv := [some (.ref 58), some (.int act), some (.int x), some (.int (nI dd))]) (ty := .int) (by decide) (Nat.le_of_ble_eq_true rfl) rfl rfl rfl ?_
  refine ng_aload_0 dX6_own_0 ?_
  refine ng_aload_0 dX6_own_1 ?_
  refine ng_gI dX6_own_2 fl_X6_20 (by first | rfl | assumption) ?_
  rw [hk]
  refine ng_iload_1 dX6_own_5 ?_
  refine ng_callS_2x (y2 := mi_X6_bodyFrom) dX6_own_6 lk_X6_40 ms_X6_bodyFrom my_X6_bodyFrom (by first | decide | exact Nat.le_of_ble_eq_true rfl) (s_X6_bodyFrom ha) (by omega) ?_
  refine ng_iload_2 dX6_own_9 ?_
  refine ng_iload_3 dX6_own_10 ?_
  refine ng_iconst_1 dX6_own_11 ?_
  refine ng_iadd dX6_own_12 ?_
  rw [nI_1]
  refine ng_callV_3x (y2 := mi_X6_body) dX6_own_13 lk_X6_44 ms_X6_body my_X6_body (by first | exact ⟨_, rfl⟩ | assumption | exact ng_fld_obj (f := 0) (by assumption)) mc_X6 (by first | decide | exact Nat.le_of_ble_eq_true rfl) (hB (ng_bfN 7 K act) x M (dd + 1) hd h) (by omega) ?_
  exact ng_ireturn dX6_own_16 ⟨rfl, rfl⟩
theorem s_X6_above {X : Nat × (Nat → Int32)} {K N O act x : Int32} {k k2 : Int32} {f dd : Nat} {M : ng_M} (hB : ng_VB X K N O f) (ha : ng_in act 0 3 = true) (hk : ng_in k 0 6 = true) (hk2 : ng_ab k = k2) (hd : dd + 1 + f = 21) (h : ng_vc K N O M) : ng_EvX X (2 * f + 5) mi_X6_above [.ref 58, .int k, .int act, .int x, .int (nI dd)] M (some (.int (ng_vb K N O f (ng_bfN 7 k2 act) x).2)) (ng_tps M (ng_vb K N O f (ng_bfN 7 k2 act) x).1) := by
  subst hk2
  refine ng_EvX.ofI (lv := [some (.ref 58), some (.int k), some (.int act), some (.int x), some (.int (nI dd))]) (ty := .int) (by decide) (Nat.le_of_ble_eq_true rfl) rfl rfl rfl ?_
  refine ng_aload_0 dX6_above_0 ?_
  refine ng_getsN (C0 := "NinePots") (n0 := "ABOVE") (d0 := "[I") (host := "NinePots") (v := .ref 1002) dX6_above_1 (by decide) (by decide) ?_
  refine ng_iload_1 dX6_above_4 ?_
  refine ng_kld (k := 2) dX6_above_5 rfl (by exact ng_in_vp hk (by decide)) ?_
  refine ng_iload_2 dX6_above_6 ?_
  refine ng_callS_2x (y2 := mi_X6_bodyFrom) dX6_above_7 lk_X6_40 ms_X6_bodyFrom my_X6_bodyFrom (by first | decide | exact Nat.le_of_ble_eq_true rfl) (s_X6_bodyFrom ha) (by omega) ?_
  refine ng_iload_3 dX6_above_10 ?_
  refine ng_iload_4 dX6_above_11 ?_
  refine ng_iconst_1 dX6_above_13 ?_
  refine ng_iadd dX6_above_14 ?_
  rw [nI_1]
  refine ng_callV_3x (y2 := mi_X6_body) dX6_above_15 lk_X6_44 ms_X6_body my_X6_body (by first | exact ⟨_, rfl⟩ | assumption | exact ng_fld_obj (f := 0) (by assumption)) mc_X6 (by first | decide | exact Nat.le_of_ble_eq_true rfl) (hB (ng_bfN 7 (ng_ab k) act) x M (dd + 1) hd h) (by omega) ?_
  exact ng_ireturn dX6_above_18 ⟨rfl, rfl⟩
theorem sw_X6_body_14 {X : Nat × (Nat → Int32)} {d : Nat} {lv : ng_L} {st : List Value} {M : ng_M} {F : Option Value → ng_M → Prop} {x : Int32} (k0 : x = 10 → ng_Go X mi_X6_body d 120 lv st M F) (k1 : x = 11 → ng_Go X mi_X6_body d 127 lv st M F) (k2 : x = 12 → ng_Go X mi_X6_body d 137 lv st M F) (k3 : x = 13 → ng_Go X mi_X6_body d 144 lv st M F) (k4 : x = 20 → ng_Go X mi_X6_body d 160 lv st M F) (k5 : x = 30 → ng_Go X mi_X6_body d 177 lv st M F) (k6 : x = 40 → ng_Go X mi_X6_body d 188 lv st M F) (k7 : x = 50 → ng_Go X mi_X6_body d 198 lv st M F) (k8 : x = 51 → ng_Go X mi_X6_body d 209 lv st M F) (k9 : x = 60 → ng_Go X mi_X6_body d 226 lv st M F) (k10 : x = 70 → ng_Go X mi_X6_body d 240 lv st M F) (k11 : x = 71 → ng_Go X mi_X6_body d 255 lv st M F) (kd : ¬ x = 10 → ¬ x = 11 → ¬ x = 12 → ¬ x = 13 → ¬ x = 20 → ¬ x = 30 → ¬ x = 40 → ¬ x = 50 → ¬ x = 51 → ¬ x = 60 → ¬ x = 70 → ¬ x = 71 → ng_Go X mi_X6_body d 273 lv st M F) : ng_Go X mi_X6_body d 14 lv (.int x :: st) M F := by
  by_cases h0 : x = 10
  · subst h0
    intro l D cA ad A p e R s m args below meth c cells slots Q C fin H locs ls hP hS hl
    exact lv_lookup (tgt := 120) C.1.1 C.1.2.1 dX6_body_14 (by decide +kernel) rfl (by decide +kernel) (k0 rfl l D cA ad A p e R s m args below meth c cells slots Q C fin H locs ls hP hS hl)
  by_cases h1 : x = 11
  · subst h1
    intro l D cA ad A p e R s m args below meth c cells slots Q C fin H locs ls hP hS hl
    exact lv_lookup (tgt := 127) C.1.1 C.1.2.1 dX6_body_14 (by decide +kernel) rfl (by decide +kernel) (k1 rfl l D cA ad A p e R s m args below meth c cells slots Q C fin H locs ls hP hS hl)
  by_cases h2 : x = 12
  · subst h2
    intro l D cA ad A p e R s m args below meth c cells slots Q C fin H locs ls hP hS hl
    exact lv_lookup (tgt := 137) C.1.1 C.1.2.1 dX6_body_14 (by decide +kernel) rfl (by decide +kernel) (k2 rfl l D cA ad A p e R s m args below meth c cells slots Q C fin H locs ls hP hS hl)
  by_cases h3 : x = 13
  · subst h3
    intro l D cA ad A p e R s m args below meth c cells slots Q C fin H locs ls hP hS hl
    exact lv_lookup (tgt := 144) C.1.1 C.1.2.1 dX6_body_14 (by decide +kernel) rfl (by decide +kernel) (k3 rfl l D cA ad A p e R s m args below meth c cells slots Q C fin H locs ls hP hS hl)
  by_cases h4 : x = 20
  · subst h4
    intro l D cA ad A p e R s m args below meth c cells slots Q C fin H locs ls hP hS hl
    exact lv_lookup (tgt := 160) C.1.1 C.1.2.1 dX6_body_14 (by decide +kernel) rfl (by decide +kernel) (k4 rfl l D cA ad A p e R s m args below meth c cells slots Q C fin H locs ls hP hS hl)
  by_cases h5 : x = 30
  · subst h5
    intro l D cA ad A p e R s m args below meth c cells slots Q C fin H locs ls hP hS hl
    exact lv_lookup (tgt := 177) C.1.1 C.1.2.1 dX6_body_14 (by decide +kernel) rfl (by decide +kernel) (k5 rfl l D cA ad A p e R s m args below meth c cells slots Q C fin H locs ls hP hS hl)
  by_cases h6 : x = 40
  · subst h6
    intro l D cA ad A p e R s m args below meth c cells slots Q C fin H locs ls hP hS hl
    exact lv_lookup (tgt := 188) C.1.1 C.1.2.1 dX6_body_14 (by decide +kernel) rfl (by decide +kernel) (k6 rfl l D cA ad A p e R s m args below meth c cells slots Q C fin H locs ls hP hS hl)
  by_cases h7 : x = 50
  · subst h7
    intro l D cA ad A p e R s m args below meth c cells slots Q C fin H locs ls hP hS hl
    exact lv_lookup (tgt := 198) C.1.1 C.1.2.1 dX6_body_14 (by decide +kernel) rfl (by decide +kernel) (k7 rfl l D cA ad A p e R s m args below meth c cells slots Q C fin H locs ls hP hS hl)
  by_cases h8 : x = 51
  · subst h8
    intro l D cA ad A p e R s m args below meth c cells slots Q C fin H locs ls hP hS hl
    exact lv_lookup (tgt := 209) C.1.1 C.1.2.1 dX6_body_14 (by decide +kernel) rfl (by decide +kernel) (k8 rfl l D cA ad A p e R s m args below meth c cells slots Q C fin H locs ls hP hS hl)
  by_cases h9 : x = 60
  · subst h9
    intro l D cA ad A p e R s m args below meth c cells slots Q C fin H locs ls hP hS hl
    exact lv_lookup (tgt := 226) C.1.1 C.1.2.1 dX6_body_14 (by decide +kernel) rfl (by decide +kernel) (k9 rfl l D cA ad A p e R s m args below meth c cells slots Q C fin H locs ls hP hS hl)
  by_cases h10 : x = 70
  · subst h10
    intro l D cA ad A p e R s m args below meth c cells slots Q C fin H locs ls hP hS hl
    exact lv_lookup (tgt := 240) C.1.1 C.1.2.1 dX6_body_14 (by decide +kernel) rfl (by decide +kernel) (k10 rfl l D cA ad A p e R s m args below meth c cells slots Q C fin H locs ls hP hS hl)
  by_cases h11 : x = 71
  · subst h11
    intro l D cA ad A p e R s m args below meth c cells slots Q C fin H locs ls hP hS hl
    exact lv_lookup (tgt := 255) C.1.1 C.1.2.1 dX6_body_14 (by decide +kernel) rfl (by decide +kernel) (k11 rfl l D cA ad A p e R s m args below meth c cells slots Q C fin H locs ls hP hS hl)
  intro l D cA ad A p e R s m args below meth c cells slots Q C fin H locs ls hP hS hl
  have g0 := lv_neT h0 (show (10 : Int32).toInt = 10 from by decide)
  have g1 := lv_neT h1 (show (11 : Int32).toInt = 11 from by decide)
  have g2 := lv_neT h2 (show (12 : Int32).toInt = 12 from by decide)
  have g3 := lv_neT h3 (show (13 : Int32).toInt = 13 from by decide)
  have g4 := lv_neT h4 (show (20 : Int32).toInt = 20 from by decide)
  have g5 := lv_neT h5 (show (30 : Int32).toInt = 30 from by decide)
  have g6 := lv_neT h6 (show (40 : Int32).toInt = 40 from by decide)
  have g7 := lv_neT h7 (show (50 : Int32).toInt = 50 from by decide)
  have g8 := lv_neT h8 (show (51 : Int32).toInt = 51 from by decide)
  have g9 := lv_neT h9 (show (60 : Int32).toInt = 60 from by decide)
  have g10 := lv_neT h10 (show (70 : Int32).toInt = 70 from by decide)
  have g11 := lv_neT h11 (show (71 : Int32).toInt = 71 from by decide)
  refine lv_lookup (tgt := 273) (off := 259) C.1.1 C.1.2.1 dX6_body_14 (by decide +kernel) ?_ (by decide) (kd h0 h1 h2 h3 h4 h5 h6 h7 h8 h9 h10 h11 l D cA ad A p e R s m args below meth c cells slots Q C fin H locs ls hP hS hl)
  show Op.lookupswitch.offset [((10 : Int), (106 : Int)), ((11 : Int), (113 : Int)), ((12 : Int), (123 : Int)), ((13 : Int), (130 : Int)), ((20 : Int), (146 : Int)), ((30 : Int), (163 : Int)), ((40 : Int), (174 : Int)), ((50 : Int), (184 : Int)), ((51 : Int), (195 : Int)), ((60 : Int), (212 : Int)), ((70 : Int), (226 : Int)), ((71 : Int), (241 : Int))] _ _ = _
  rw [lv_osw h0 (show (10 : Int32).toInt = 10 from by decide), lv_osw h1 (show (11 : Int32).toInt = 11 from by decide), lv_osw h2 (show (12 : Int32).toInt = 12 from by decide), lv_osw h3 (show (13 : Int32).toInt = 13 from by decide), lv_osw h4 (show (20 : Int32).toInt = 20 from by decide), lv_osw h5 (show (30 : Int32).toInt = 30 from by decide), lv_osw h6 (show (40 : Int32).toInt = 40 from by decide), lv_osw h7 (show (50 : Int32).toInt = 50 from by decide), lv_osw h8 (show (51 : Int32).toInt = 51 from by decide), lv_osw h9 (show (60 : Int32).toInt = 60 from by decide), lv_osw h10 (show (70 : Int32).toInt = 70 from by decide), lv_osw h11 (show (71 : Int32).toInt = 71 from by decide)]
  rfl
theorem ng_vb_10 {K N O x : Int32} {f : Nat} : ng_vb K N O (f + 1) 10 x = ([10], x + N) := rfl
theorem ng_vb_11 {K N O x : Int32} {f : Nat} : ng_vb K N O (f + 1) 11 x = (11 :: (ng_vb K N O f (ng_bfN 7 K 0) x).1, (ng_vb K N O f (ng_bfN 7 K 0) x).2 * 2) := rfl
theorem ng_vb_12 {K N O x : Int32} {f : Nat} : ng_vb K N O (f + 1) 12 x = ([12], x - O) := rfl
theorem ng_vb_13 {K N O x : Int32} {f : Nat} : ng_vb K N O (f + 1) 13 x = (13 :: ((ng_vb K N O f (ng_bfN 7 K 1) x).1 ++ (ng_vb K N O f (ng_bfN 7 K 2) x).1), (ng_vb K N O f (ng_bfN 7 K 1) x).2 ^^^ (ng_vb K N O f (ng_bfN 7 K 2) x).2) := rfl
theorem ng_vb_20 {K N O x : Int32} {f : Nat} : ng_vb K N O (f + 1) 20 x = (20 :: ((ng_vb K N O f (ng_bfN 7 0 1) x).1 ++ (ng_vb K N O f (ng_bfN 7 K 2) 1).1), (ng_vb K N O f (ng_bfN 7 0 1) x).2 - (ng_vb K N O f (ng_bfN 7 K 2) 1).2) := rfl
theorem ng_vb_30 {K N O x : Int32} {f : Nat} : ng_vb K N O (f + 1) 30 x = (30 :: (ng_vb K N O f (ng_bfN 7 1 0) x).1, (ng_vb K N O f (ng_bfN 7 1 0) x).2 * 3) := rfl
theorem ng_vb_40 {K N O x : Int32} {f : Nat} : ng_vb K N O (f + 1) 40 x = (40 :: (ng_vb K N O f (ng_bfN 7 0 2) x).1, -(ng_vb K N O f (ng_bfN 7 0 2) x).2) := rfl
theorem ng_vb_50 {K N O x : Int32} {f : Nat} : ng_vb K N O (f + 1) 50 x = (50 :: (ng_vb K N O f (ng_bfN 7 3 0) (x + 1)).1, (ng_vb K N O f (ng_bfN 7 3 0) (x + 1)).2) := rfl
theorem ng_vb_51 {K N O x : Int32} {f : Nat} : ng_vb K N O (f + 1) 51 x = (51 :: ((ng_vb K N O f (ng_bfN 7 3 3) x).1 ++ (ng_vb K N O f (ng_bfN 7 K 0) 2).1), (ng_vb K N O f (ng_bfN 7 3 3) x).2 - (ng_vb K N O f (ng_bfN 7 K 0) 2).2) := rfl
theorem ng_vb_60 {K N O x : Int32} {f : Nat} : ng_vb K N O (f + 1) 60 x = (60 :: (ng_vb K N O f (ng_bfN 7 0 1) x).1, (ng_vb K N O f (ng_bfN 7 0 1) x).2 ^^^ N) := rfl
theorem ng_vb_70 {K N O x : Int32} {f : Nat} : ng_vb K N O (f + 1) 70 x = (70 :: (ng_vb K N O f (ng_bfN 7 1 2) x).1, (ng_vb K N O f (ng_bfN 7 1 2) x).2 + O) := rfl
theorem ng_vb_71 {K N O x : Int32} {f : Nat} : ng_vb K N O (f + 1) 71 x = (71 :: ((ng_vb K N O f (ng_bfN 7 K 1) x).1 ++ (ng_vb K N O f (ng_bfN 7 1 3) x).1), (ng_vb K N O f (ng_bfN 7 K 1) x).2 - (ng_vb K N O f (ng_bfN 7 1 3) x).2) := rfl
theorem s_X6_body {X : Nat × (Nat → Int32)} {K N O : Int32} : ∀ f, ng_VB X K N O f := by
  intro f
  induction f with
  | zero =>
    intro b x M dd hd h
    have hd2 : dd = 21 := by omega
    subst hd2
    refine ng_EvX.ofI (lv := [some (.ref 58), some (.int b), some (.int x), some (.int (nI 21))]) (ty := .int) (by decide) (Nat.le_of_ble_eq_true rfl) rfl rfl rfl ?_
    refine ng_iload_3 dX6_body_0 ?_
    refine ng_bipush (v := 20) dX6_body_1 (by decide) ?_
    refine ng_icmp_le 8 dX6_body_3 (by decide +kernel) (fun h3 => ?_) (fun h3 => ?_)
    · exact absurd h3 (show ¬ nI 21 ≤ 20 by decide)
    · refine ng_iconst_0 dX6_body_6 ?_
      exact ng_ireturn dX6_body_7 ⟨rfl, rfl⟩
  | succ f ih =>
    intro b x M dd hd h
    have hb := h.tp b
    have e3 : (ng_tp M b) 58 3 = N := hb.2.2.1
    have e4 : (ng_tp M b) 58 4 = O := hb.2.2.2
    refine ng_EvX.ofI (lv := [some (.ref 58), some (.int b), some (.int x), some (.int (nI dd))]) (ty := .int) (by decide) (Nat.le_of_ble_eq_true rfl) rfl rfl rfl ?_
    refine ng_iload_3 dX6_body_0 ?_
    refine ng_bipush (v := 20) dX6_body_1 (by decide) ?_
    refine ng_icmp_le 8 dX6_body_3 (by decide +kernel) (fun h3 => ?_) (fun h3 => ?_)
    · refine ng_aload_0 dX6_body_8 ?_
      refine ng_iload_1 dX6_body_9 ?_
      refine ng_callV_1v (y2 := mi_X6_begins) dX6_body_10 lk_X6_57 ms_X6_begins my_X6_begins (by first | exact ⟨_, rfl⟩ | assumption | exact ng_fld_obj (f := 0) (by assumption)) mc_X6 (by first | decide | exact Nat.le_of_ble_eq_true rfl) (s_X6_begins h) (by omega) ?_
      refine ng_iload_1 dX6_body_13 ?_
      refine sw_X6_body_14 (fun h14 => ?_) (fun h14 => ?_) (fun h14 => ?_) (fun h14 => ?_) (fun h14 => ?_) (fun h14 => ?_) (fun h14 => ?_) (fun h14 => ?_) (fun h14 => ?_) (fun h14 => ?_) (fun h14 => ?_) (fun h14 => ?_) (fun h14n0 h14n1 h14n2 h14n3 h14n4 h14n5 h14n6 h14n7 h14n8 h14n9 h14n10 h14n11 => ?_)
      · refine ng_iload_2 dX6_body_120 ?_
        refine ng_aload_0 dX6_body_121 ?_
        refine ng_gI dX6_body_122 fl_X6_24 (by first | rfl | assumption) ?_
        rw [e3]
        refine ng_iadd dX6_body_125 ?_
        exact ng_ireturn dX6_body_126 ⟨by subst h14; rw [ng_vb_10], by subst h14; rw [ng_vb_10]; first | rfl | (simp only [ng_tps_cons, ng_tps_app]; done) | (simp only [ng_tps_cons, ng_tps_app]; rfl)⟩
      · refine ng_aload_0 dX6_body_127 ?_
        refine ng_iconst_0 dX6_body_128 ?_
        refine ng_iload_2 dX6_body_129 ?_
        refine ng_iload_3 dX6_body_130 ?_
        refine ng_callV_3x (y2 := mi_X6_own) dX6_body_131 lk_X6_36 ms_X6_own my_X6_own (by first | exact ⟨_, rfl⟩ | assumption | exact ng_fld_obj (f := 0) (by assumption)) mc_X6 (by first | decide | exact Nat.le_of_ble_eq_true rfl) (s_X6_own ih (act := 0) (by decide) (by omega) hb) (by omega) ?_
        refine ng_iconst_2 dX6_body_134 ?_
        refine ng_imul dX6_body_135 ?_
        exact ng_ireturn dX6_body_136 ⟨by subst h14; rw [ng_vb_11], by subst h14; rw [ng_vb_11]; first | rfl | (simp only [ng_tps_cons, ng_tps_app]; done) | (simp only [ng_tps_cons, ng_tps_app]; rfl)⟩
      · refine ng_iload_2 dX6_body_137 ?_
        refine ng_aload_0 dX6_body_138 ?_
        refine ng_gI dX6_body_139 fl_X6_30 (by first | rfl | assumption) ?_
        rw [e4]
        refine ng_isub dX6_body_142 ?_
        exact ng_ireturn dX6_body_143 ⟨by subst h14; rw [ng_vb_12], by subst h14; rw [ng_vb_12]; first | rfl | (simp only [ng_tps_cons, ng_tps_app]; done) | (simp only [ng_tps_cons, ng_tps_app]; rfl)⟩
      · refine ng_aload_0 dX6_body_144 ?_
        refine ng_iconst_1 dX6_body_145 ?_
        refine ng_iload_2 dX6_body_146 ?_
        refine ng_iload_3 dX6_body_147 ?_
        refine ng_callV_3x (y2 := mi_X6_own) dX6_body_148 lk_X6_36 ms_X6_own my_X6_own (by first | exact ⟨_, rfl⟩ | assumption | exact ng_fld_obj (f := 0) (by assumption)) mc_X6 (by first | decide | exact Nat.le_of_ble_eq_true rfl) (s_X6_own ih (act := 1) (by decide) (by omega) hb) (by omega) ?_
        refine ng_aload_0 dX6_body_151 ?_
        refine ng_iconst_2 dX6_body_152 ?_
        refine ng_iload_2 dX6_body_153 ?_
        refine ng_iload_3 dX6_body_154 ?_
        refine ng_callV_3x (y2 := mi_X6_own) dX6_body_155 lk_X6_36 ms_X6_own my_X6_own (by first | exact ⟨_, rfl⟩ | assumption | exact ng_fld_obj (f := 0) (by assumption)) mc_X6 (by first | decide | exact Nat.le_of_ble_eq_true rfl) (s_X6_own ih (act := 2) (by decide) (by omega) (hb.tps _ _)) (by omega) ?_
        refine ng_ixor dX6_body_158 ?_
        exact ng_ireturn dX6_body_159 ⟨by subst h14; rw [ng_vb_13], by subst h14; rw [ng_vb_13]; first | rfl | (simp only [ng_tps_cons, ng_tps_app]; done) | (simp only [ng_tps_cons, ng_tps_app]; rfl)⟩
      · refine ng_aload_0 dX6_body_160 ?_
        refine ng_iconst_1 dX6_body_161 ?_
        refine ng_iconst_1 dX6_body_162 ?_
        refine ng_iload_2 dX6_body_163 ?_
        refine ng_iload_3 dX6_body_164 ?_
        refine ng_callV_4x (y2 := mi_X6_above) dX6_body_165 lk_X6_61 ms_X6_above my_X6_above (by first | exact ⟨_, rfl⟩ | assumption | exact ng_fld_obj (f := 0) (by assumption)) mc_X6 (by first | decide | exact Nat.le_of_ble_eq_true rfl) (s_X6_above ih (k := 1) (k2 := 0) (act := 1) (by decide) (by decide) (by decide) (by omega) hb) (by omega) ?_
        refine ng_aload_0 dX6_body_168 ?_
        refine ng_iconst_2 dX6_body_169 ?_
        refine ng_iconst_1 dX6_body_170 ?_
        refine ng_iload_3 dX6_body_171 ?_
        refine ng_callV_3x (y2 := mi_X6_own) dX6_body_172 lk_X6_36 ms_X6_own my_X6_own (by first | exact ⟨_, rfl⟩ | assumption | exact ng_fld_obj (f := 0) (by assumption)) mc_X6 (by first | decide | exact Nat.le_of_ble_eq_true rfl) (s_X6_own ih (act := 2) (by decide) (by omega) (hb.tps _ _)) (by omega) ?_
        refine ng_isub dX6_body_175 ?_
        exact ng_ireturn dX6_body_176 ⟨by subst h14; rw [ng_vb_20], by subst h14; rw [ng_vb_20]; first | rfl | (simp only [ng_tps_cons, ng_tps_app]; done) | (simp only [ng_tps_cons, ng_tps_app]; rfl)⟩
      · refine ng_aload_0 dX6_body_177 ?_
        refine ng_iconst_2 dX6_body_178 ?_
        refine ng_iconst_0 dX6_body_179 ?_
        refine ng_iload_2 dX6_body_180 ?_
        refine ng_iload_3 dX6_body_181 ?_
        refine ng_callV_4x (y2 := mi_X6_above) dX6_body_182 lk_X6_61 ms_X6_above my_X6_above (by first | exact ⟨_, rfl⟩ | assumption | exact ng_fld_obj (f := 0) (by assumption)) mc_X6 (by first | decide | exact Nat.le_of_ble_eq_true rfl) (s_X6_above ih (k := 2) (k2 := 1) (act := 0) (by decide) (by decide) (by decide) (by omega) hb) (by omega) ?_
        refine ng_iconst_3 dX6_body_185 ?_
        refine ng_imul dX6_body_186 ?_
        exact ng_ireturn dX6_body_187 ⟨by subst h14; rw [ng_vb_30], by subst h14; rw [ng_vb_30]; first | rfl | (simp only [ng_tps_cons, ng_tps_app]; done) | (simp only [ng_tps_cons, ng_tps_app]; rfl)⟩
      · refine ng_aload_0 dX6_body_188 ?_
        refine ng_iconst_3 dX6_body_189 ?_
        refine ng_iconst_2 dX6_body_190 ?_
        refine ng_iload_2 dX6_body_191 ?_
        refine ng_iload_3 dX6_body_192 ?_
        refine ng_callV_4x (y2 := mi_X6_above) dX6_body_193 lk_X6_61 ms_X6_above my_X6_above (by first | exact ⟨_, rfl⟩ | assumption | exact ng_fld_obj (f := 0) (by assumption)) mc_X6 (by first | decide | exact Nat.le_of_ble_eq_true rfl) (s_X6_above ih (k := 3) (k2 := 0) (act := 2) (by decide) (by decide) (by decide) (by omega) hb) (by omega) ?_
        refine ng_ineg dX6_body_196 ?_
        exact ng_ireturn dX6_body_197 ⟨by subst h14; rw [ng_vb_40], by subst h14; rw [ng_vb_40]; first | rfl | (simp only [ng_tps_cons, ng_tps_app]; done) | (simp only [ng_tps_cons, ng_tps_app]; rfl)⟩
      · refine ng_aload_0 dX6_body_198 ?_
        refine ng_iconst_4 dX6_body_199 ?_
        refine ng_iconst_0 dX6_body_200 ?_
        refine ng_iload_2 dX6_body_201 ?_
        refine ng_iconst_1 dX6_body_202 ?_
        refine ng_iadd dX6_body_203 ?_
        refine ng_iload_3 dX6_body_204 ?_
        refine ng_callV_4x (y2 := mi_X6_above) dX6_body_205 lk_X6_61 ms_X6_above my_X6_above (by first | exact ⟨_, rfl⟩ | assumption | exact ng_fld_obj (f := 0) (by assumption)) mc_X6 (by first | decide | exact Nat.le_of_ble_eq_true rfl) (s_X6_above ih (k := 4) (k2 := 3) (act := 0) (by decide) (by decide) (by decide) (by omega) hb) (by omega) ?_
        exact ng_ireturn dX6_body_208 ⟨by subst h14; rw [ng_vb_50], by subst h14; rw [ng_vb_50]; first | rfl | (simp only [ng_tps_cons, ng_tps_app]; done) | (simp only [ng_tps_cons, ng_tps_app]; rfl)⟩
      · refine ng_aload_0 dX6_body_209 ?_
        refine ng_iconst_4 dX6_body_210 ?_
        refine ng_iconst_3 dX6_body_211 ?_
        refine ng_iload_2 dX6_body_212 ?_
        refine ng_iload_3 dX6_body_213 ?_
        refine ng_callV_4x (y2 := mi_X6_above) dX6_body_214 lk_X6_61 ms_X6_above my_X6_above (by first | exact ⟨_, rfl⟩ | assumption | exact ng_fld_obj (f := 0) (by assumption)) mc_X6 (by first | decide | exact Nat.le_of_ble_eq_true rfl) (s_X6_above ih (k := 4) (k2 := 3) (act := 3) (by decide) (by decide) (by decide) (by omega) hb) (by omega) ?_
        refine ng_aload_0 dX6_body_217 ?_
        refine ng_iconst_0 dX6_body_218 ?_
        refine ng_iconst_2 dX6_body_219 ?_
        refine ng_iload_3 dX6_body_220 ?_
        refine ng_callV_3x (y2 := mi_X6_own) dX6_body_221 lk_X6_36 ms_X6_own my_X6_own (by first | exact ⟨_, rfl⟩ | assumption | exact ng_fld_obj (f := 0) (by assumption)) mc_X6 (by first | decide | exact Nat.le_of_ble_eq_true rfl) (s_X6_own ih (act := 0) (by decide) (by omega) (hb.tps _ _)) (by omega) ?_
        refine ng_isub dX6_body_224 ?_
        exact ng_ireturn dX6_body_225 ⟨by subst h14; rw [ng_vb_51], by subst h14; rw [ng_vb_51]; first | rfl | (simp only [ng_tps_cons, ng_tps_app]; done) | (simp only [ng_tps_cons, ng_tps_app]; rfl)⟩
      · refine ng_aload_0 dX6_body_226 ?_
        refine ng_iconst_5 dX6_body_227 ?_
        refine ng_iconst_1 dX6_body_228 ?_
        refine ng_iload_2 dX6_body_229 ?_
        refine ng_iload_3 dX6_body_230 ?_
        refine ng_callV_4x (y2 := mi_X6_above) dX6_body_231 lk_X6_61 ms_X6_above my_X6_above (by first | exact ⟨_, rfl⟩ | assumption | exact ng_fld_obj (f := 0) (by assumption)) mc_X6 (by first | decide | exact Nat.le_of_ble_eq_true rfl) (s_X6_above ih (k := 5) (k2 := 0) (act := 1) (by decide) (by decide) (by decide) (by omega) hb) (by omega) ?_
        refine ng_aload_0 dX6_body_234 ?_
        have e3' := (hb.tps (ng_vb K N O f (ng_bfN 7 0 1) x).1 _).2.2.1
        refine ng_gI dX6_body_235 fl_X6_24 (by first | rfl | assumption) ?_
        rw [e3']
        refine ng_ixor dX6_body_238 ?_
        exact ng_ireturn dX6_body_239 ⟨by subst h14; rw [ng_vb_60], by subst h14; rw [ng_vb_60]; first | rfl | (simp only [ng_tps_cons, ng_tps_app]; done) | (simp only [ng_tps_cons, ng_tps_app]; rfl)⟩
      · refine ng_aload_0 dX6_body_240 ?_
        refine ng_bipush (v := 6) dX6_body_241 (by decide) ?_
        refine ng_iconst_2 dX6_body_243 ?_
        refine ng_iload_2 dX6_body_244 ?_
        refine ng_iload_3 dX6_body_245 ?_
        refine ng_callV_4x (y2 := mi_X6_above) dX6_body_246 lk_X6_61 ms_X6_above my_X6_above (by first | exact ⟨_, rfl⟩ | assumption | exact ng_fld_obj (f := 0) (by assumption)) mc_X6 (by first | decide | exact Nat.le_of_ble_eq_true rfl) (s_X6_above ih (k := 6) (k2 := 1) (act := 2) (by decide) (by decide) (by decide) (by omega) hb) (by omega) ?_
        refine ng_aload_0 dX6_body_249 ?_
        have e4' := (hb.tps (ng_vb K N O f (ng_bfN 7 1 2) x).1 _).2.2.2
        refine ng_gI dX6_body_250 fl_X6_30 (by first | rfl | assumption) ?_
        rw [e4']
        refine ng_iadd dX6_body_253 ?_
        exact ng_ireturn dX6_body_254 ⟨by subst h14; rw [ng_vb_70], by subst h14; rw [ng_vb_70]; first | rfl | (simp only [ng_tps_cons, ng_tps_app]; done) | (simp only [ng_tps_cons, ng_tps_app]; rfl)⟩
      · refine ng_aload_0 dX6_body_255 ?_
        refine ng_iconst_1 dX6_body_256 ?_
        refine ng_iload_2 dX6_body_257 ?_
        refine ng_iload_3 dX6_body_258 ?_
        refine ng_callV_3x (y2 := mi_X6_own) dX6_body_259 lk_X6_36 ms_X6_own my_X6_own (by first | exact ⟨_, rfl⟩ | assumption | exact ng_fld_obj (f := 0) (by assumption)) mc_X6 (by first | decide | exact Nat.le_of_ble_eq_true rfl) (s_X6_own ih (act := 1) (by decide) (by omega) hb) (by omega) ?_
        refine ng_aload_0 dX6_body_262 ?_
        refine ng_bipush (v := 6) dX6_body_263 (by decide) ?_
        refine ng_iconst_3 dX6_body_265 ?_
        refine ng_iload_2 dX6_body_266 ?_
        refine ng_iload_3 dX6_body_267 ?_
        refine ng_callV_4x (y2 := mi_X6_above) dX6_body_268 lk_X6_61 ms_X6_above my_X6_above (by first | exact ⟨_, rfl⟩ | assumption | exact ng_fld_obj (f := 0) (by assumption)) mc_X6 (by first | decide | exact Nat.le_of_ble_eq_true rfl) (s_X6_above ih (k := 6) (k2 := 1) (act := 3) (by decide) (by decide) (by decide) (by omega) (hb.tps _ _)) (by omega) ?_
        refine ng_isub dX6_body_271 ?_
        exact ng_ireturn dX6_body_272 ⟨by subst h14; rw [ng_vb_71], by subst h14; rw [ng_vb_71]; first | rfl | (simp only [ng_tps_cons, ng_tps_app]; done) | (simp only [ng_tps_cons, ng_tps_app]; rfl)⟩
      · refine ng_iconst_0 dX6_body_273 ?_
        exact ng_ireturn dX6_body_274 ⟨by rw [ng_vb, if_neg h14n0, if_neg h14n1, if_neg h14n2, if_neg h14n3, if_neg h14n4, if_neg h14n5, if_neg h14n6, if_neg h14n7, if_neg h14n8, if_neg h14n9, if_neg h14n10, if_neg h14n11], by rw [ng_vb, if_neg h14n0, if_neg h14n1, if_neg h14n2, if_neg h14n3, if_neg h14n4, if_neg h14n5, if_neg h14n6, if_neg h14n7, if_neg h14n8, if_neg h14n9, if_neg h14n10, if_neg h14n11]; rfl⟩
    · exact absurd (show nI dd ≤ nI 20 by rw [ng_le, nI_toInt (by omega), nI_toInt (by omega)]; omega) h3
theorem s_X6_speaks {X : Nat × (Nat → Int32)} {M : ng_M} {b act x : Int32} {i : Nat} (hb : b = nI i) (hi : i < 8) (ha : ng_in act 0 3 = true) : ng_EvX X 46 mi_X6_speaks [.ref 58, .ref 2, .int b, .int act, .int x] M (some (.int (ng_vb (M 4 i) b (M 6 i) 20 (ng_bfN 7 (M 4 i) act) x).2)) (ng_tps (ng_row M 58 (upd (upd (upd (upd (M 58) 2 (M 4 i)) 3 b) 4 (M 6 i)) 1 0)) (ng_vb (M 4 i) b (M 6 i) 20 (ng_bfN 7 (M 4 i) act) x).1) := by
  have hv : vp_in b 8 := by rw [hb]; exact vp_in_nI hi (by omega)
  have hc : b.toNatClampNeg = i := by rw [hb, nI_clamp (by omega)]
  have hcond : ng_vc (M 4 i) b (M 6 i) (ng_row M 58 (upd (upd (upd (upd (M 58) 2 (M 4 i)) 3 b) 4 (M 6 i)) 1 0)) := by
    refine ⟨⟨0, by rw [ng_row_eq, ng_upd_eq]; rfl, by omega⟩, ?_, ?_, ?_⟩
    · rw [ng_row_eq, ng_upd_ne (by decide), ng_upd_ne (by decide), ng_upd_ne (by decide), ng_upd_eq]
    · rw [ng_row_eq, ng_upd_ne (by decide), ng_upd_ne (by decide), ng_upd_eq]
    · rw [ng_row_eq, ng_upd_ne (by decide), ng_upd_eq]
  refine ng_EvX.ofI (lv := [some (.ref 58), some (.ref 2), some (.int b), some (.int act), some (.int x)]) (ty := .int) (by decide) (Nat.le_of_ble_eq_true rfl) rfl rfl rfl ?_
  refine ng_aload_0 dX6_speaks_0 ?_
  refine ng_aload_1 dX6_speaks_1 ?_
  refine ng_gR dX6_speaks_2 fl_X6_15 (by first | rfl | assumption) ?_
  refine ng_iload_2 dX6_speaks_5 ?_
  refine ng_ialdL (j := i) dX6_speaks_6 (by first | rfl | assumption) (by exact hv) (by exact hc) ?_
  refine ng_pI dX6_speaks_7 fp_X6_20 (by first | rfl | assumption) rfl rfl ?_
  refine ng_aload_0 dX6_speaks_10 ?_
  refine ng_iload_2 dX6_speaks_11 ?_
  refine ng_pI dX6_speaks_12 fp_X6_24 (by first | rfl | assumption) rfl rfl ?_
  refine ng_aload_0 dX6_speaks_15 ?_
  refine ng_aload_1 dX6_speaks_16 ?_
  refine ng_gR dX6_speaks_17 fl_X6_27 (by first | rfl | assumption) ?_
  refine ng_iload_2 dX6_speaks_20 ?_
  refine ng_ialdL (j := i) dX6_speaks_21 (by first | rfl | assumption) (by exact hv) (by exact hc) ?_
  refine ng_pI dX6_speaks_22 fp_X6_30 (by first | rfl | assumption) rfl rfl ?_
  refine ng_aload_0 dX6_speaks_25 ?_
  refine ng_iconst_0 dX6_speaks_26 ?_
  refine ng_pI dX6_speaks_27 fp_X6_33 (by first | rfl | assumption) rfl rfl ?_
  refine ng_aload_0 dX6_speaks_30 ?_
  refine ng_iload_3 dX6_speaks_31 ?_
  refine ng_iload_4 dX6_speaks_32 ?_
  refine ng_iconst_0 dX6_speaks_34 ?_
  simp only [ng_row_row, ng_row_eq]
  refine ng_callV_3x (y2 := mi_X6_own) dX6_speaks_35 lk_X6_36 ms_X6_own my_X6_own (by first | exact ⟨_, rfl⟩ | assumption | exact ng_fld_obj (f := 0) (by assumption)) mc_X6 (by first | decide | exact Nat.le_of_ble_eq_true rfl) (s_X6_own (dd := 0) (s_X6_body 20) ha (by omega) hcond) (by decide) ?_
  exact ng_ireturn dX6_speaks_38 ⟨rfl, rfl⟩
