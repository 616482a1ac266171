/-! ===== texts: the reference's reader, compared, sum, product, one ===== -/
theorem z_X9_product {X : Nat × (Nat → Int32)} {M : ng_M} {d : Nat} {F : Option Value → ng_M → Prop} (k : F none M) : ng_Go X mi_X9_product d 51 [some (.ref 73), some (.int 0)] [] M F := by
  refine ng_iload_1 dX9_product_51 ?_
  refine ng_if_le 114 dX9_product_52 (by decide +kernel) (fun h52 => ?_) (fun h52 => ?_)
  · exact ng_return dX9_product_114 k
  · exact absurd (by decide) h52
theorem w_X9_product {X : Nat × (Nat → Int32)} {M : ng_M} {H : Nat → Int32} {L d o q : Nat} {u : Int32} {cs : List Int32} {x1 : Option Value} {F : Option Value → ng_M → Prop} (hc : ng_RG M H L u) (hd : 2 ≤ d) (hq : q ≤ L) (k : F none (ng_RF M q cs o true)) : ng_Go X mi_X9_product (d + 1) 64 [some (.ref 73), x1] [] (ng_RF M q cs o true) F := by
  refine ng_aload_0 dX9_product_64 ?_
  refine ng_bipush (v := 42) dX9_product_65 (by decide) ?_
  refine ng_callV_1x (y2 := mi_X9_takes) dX9_product_67 lk_X9_158 ms_X9_takes my_X9_takes (by first | exact ⟨_, rfl⟩ | assumption | exact ng_fld_obj (f := 0) (by assumption)) mc_X9 (by first | decide | exact Nat.le_of_ble_eq_true rfl) (s_X9_takes hc hq (by decide)) hd ?_
  refine ng_ifb_eq 79 dX9_product_70 (by decide +kernel) (fun h70 => ?_) (fun h70 => ?_)
  · rw [if_neg (by simp)]
    refine ng_aload_0 dX9_product_79 ?_
    refine ng_bipush (v := 47) dX9_product_80 (by decide) ?_
    refine ng_callV_1x (y2 := mi_X9_takes) dX9_product_82 lk_X9_158 ms_X9_takes my_X9_takes (by first | exact ⟨_, rfl⟩ | assumption | exact ng_fld_obj (f := 0) (by assumption)) mc_X9 (by first | decide | exact Nat.le_of_ble_eq_true rfl) (s_X9_takes hc hq (by decide)) hd ?_
    refine ng_ifb_eq 94 dX9_product_85 (by decide +kernel) (fun h85 => ?_) (fun h85 => ?_)
    · rw [if_neg (by simp)]
      refine ng_aload_0 dX9_product_94 ?_
      refine ng_bipush (v := 37) dX9_product_95 (by decide) ?_
      refine ng_callV_1x (y2 := mi_X9_takes) dX9_product_97 lk_X9_158 ms_X9_takes my_X9_takes (by first | exact ⟨_, rfl⟩ | assumption | exact ng_fld_obj (f := 0) (by assumption)) mc_X9 (by first | decide | exact Nat.le_of_ble_eq_true rfl) (s_X9_takes hc hq (by decide)) hd ?_
      refine ng_ifb_eq 109 dX9_product_100 (by decide +kernel) (fun h100 => ?_) (fun h100 => ?_)
      · rw [if_neg (by simp)]
        refine ng_iconst_0 dX9_product_109 ?_
        refine ng_istore_1 dX9_product_110 (by first | rfl | assumption) ?_
        refine ng_goto 51 dX9_product_111 (by decide +kernel) ?_
        exact z_X9_product k
      · exact absurd h100 (by simp)
    · exact absurd h85 (by simp)
  · exact absurd h70 (by simp)
theorem v_X9_product {X : Nat × (Nat → Int32)} {M : ng_M} {H : Nat → Int32} {L d o q : Nat} {u : Int32} {cs : List Int32} {x1 : Option Value} {F : Option Value → ng_M → Prop} (hc : ng_RG M H L u) (hd : 2 ≤ d) (hq : q ≤ L) (k : F none (ng_RF M q cs o true)) : ng_Go X mi_X9_product (d + 1) 4 [some (.ref 73), x1] [] (ng_RF M q cs o true) F := by
  refine ng_aload_0 dX9_product_4 ?_
  refine ng_bipush (v := 42) dX9_product_5 (by decide) ?_
  refine ng_callV_1x (y2 := mi_X9_takes) dX9_product_7 lk_X9_158 ms_X9_takes my_X9_takes (by first | exact ⟨_, rfl⟩ | assumption | exact ng_fld_obj (f := 0) (by assumption)) mc_X9 (by first | decide | exact Nat.le_of_ble_eq_true rfl) (s_X9_takes hc hq (by decide)) hd ?_
  refine ng_ifb_eq 19 dX9_product_10 (by decide +kernel) (fun h10 => ?_) (fun h10 => ?_)
  · rw [if_neg (by simp)]
    refine ng_aload_0 dX9_product_19 ?_
    refine ng_bipush (v := 47) dX9_product_20 (by decide) ?_
    refine ng_callV_1x (y2 := mi_X9_takes) dX9_product_22 lk_X9_158 ms_X9_takes my_X9_takes (by first | exact ⟨_, rfl⟩ | assumption | exact ng_fld_obj (f := 0) (by assumption)) mc_X9 (by first | decide | exact Nat.le_of_ble_eq_true rfl) (s_X9_takes hc hq (by decide)) hd ?_
    refine ng_ifb_eq 34 dX9_product_25 (by decide +kernel) (fun h25 => ?_) (fun h25 => ?_)
    · rw [if_neg (by simp)]
      refine ng_aload_0 dX9_product_34 ?_
      refine ng_bipush (v := 37) dX9_product_35 (by decide) ?_
      refine ng_callV_1x (y2 := mi_X9_takes) dX9_product_37 lk_X9_158 ms_X9_takes my_X9_takes (by first | exact ⟨_, rfl⟩ | assumption | exact ng_fld_obj (f := 0) (by assumption)) mc_X9 (by first | decide | exact Nat.le_of_ble_eq_true rfl) (s_X9_takes hc hq (by decide)) hd ?_
      refine ng_ifb_eq 49 dX9_product_40 (by decide +kernel) (fun h40 => ?_) (fun h40 => ?_)
      · rw [if_neg (by simp)]
        refine ng_iconst_0 dX9_product_49 ?_
        refine ng_istore_1 dX9_product_50 (by first | rfl | assumption) ?_
        exact z_X9_product k
      · exact absurd h40 (by simp)
    · exact absurd h25 (by simp)
  · exact absurd h10 (by simp)
theorem h_X9_product {X : Nat × (Nat → Int32)} {M : ng_M} {H : Nat → Int32} {L d o : Nat} {u : Int32} {f : Nat → ng_Rs} {cs0 : List Int32} {n : Nat} (hc : ng_RG M H L u) (hg : ng_gd L f) (hd : 2 ≤ d) (hs : ng_KF X M L d mi_X9_one o f) (ih : ∀ (q : Nat) (cs : List Int32) (x1 : Option Value), q ≤ L → (cs0 ++ cs).length ≤ q → 50 ≤ q + n → ng_Go X mi_X9_product (d + 1) 64 [some (.ref 73), x1] [] (ng_RF M q (cs0 ++ cs) o false) (fun r' M' => r' = none ∧ M' = ng_RF M (ng_jl H 4 f n q cs).2.1 (cs0 ++ (ng_jl H 4 f n q cs).2.2) o (!(ng_jl H 4 f n q cs).1)))
    {q : Nat} {cs : List Int32} {v : Int32} (hv : v = ng_oc (H q)) (hro : ng_ro (H q) = 4) (hl : (cs0 ++ cs).length ≤ q) (hn : 50 ≤ q + (n + 1)) : ng_Go X mi_X9_product (d + 1) 51 [some (.ref 73), some (.int v)] [] (ng_RF M (q + 1) (cs0 ++ cs) o false) (fun r' M' => r' = none ∧ M' = ng_RF M (ng_jl H 4 f (n + 1) q cs).2.1 (cs0 ++ (ng_jl H 4 f (n + 1) q cs).2.2) o (!(ng_jl H 4 f (n + 1) q cs).1)) := by
  have hL := hc.1.1
  have h0 : 0 ≤ ng_ro (H q) := by rw [hro]; decide
  have hlt : q < L := hc.1.lt (ng_ro_oc h0).2.2.2.2
  obtain ⟨g1, g2, g3, g4⟩ := hg (q + 1) (by omega)
  refine ng_iload_1 dX9_product_51 ?_
  refine ng_if_le 114 dX9_product_52 (by decide +kernel) (fun h52 => ?_) (fun h52 => ?_)
  · exact absurd h52 (by rw [hv]; exact ng_oc_pos h0)
  · refine ng_aload_0 dX9_product_55 ?_
    refine ng_callV_0v (y2 := mi_X9_one) dX9_product_56 lk_X9_174 ms_X9_one my_X9_one (by first | exact ⟨_, rfl⟩ | assumption | exact ng_fld_obj (f := 0) (by assumption)) mc_X9 (by first | decide | exact Nat.le_of_ble_eq_true rfl) (hs (q + 1) (cs0 ++ cs) (by omega) (by omega)) (by omega) ?_
    refine ng_aload_0 dX9_product_59 ?_
    refine ng_iload_1 dX9_product_60 ?_
    refine ng_callV_1v (y2 := mi_X9_codes) dX9_product_61 lk_X9_161 ms_X9_codes my_X9_codes (by first | exact ⟨_, rfl⟩ | assumption | exact ng_fld_obj (f := 0) (by assumption)) mc_X9 (by first | decide | exact Nat.le_of_ble_eq_true rfl) (s_X9_codes (by simp at hl ⊢; omega)) (by omega) ?_
    cases hx : (f (q + 1)).1 with
    | true =>
      rw [ng_jl_ok hro hx, if_neg (by decide), List.append_assoc, List.append_assoc, ← List.append_assoc cs, hv]
      exact ih _ _ _ g2 (by simp at hl ⊢; omega) (by omega)
    | false =>
      rw [if_pos (by decide)]
      exact w_X9_product hc hd g2 ⟨rfl, by rw [ng_jl_bad hro hx, List.append_assoc]; rfl⟩
theorem ng_take_t {c x : Int32} (h : (!false && decide (x = c)) = true) : x = c := by simpa using h
theorem ng_take_f {c x : Int32} (h : (!false && decide (x = c)) = false) : ¬ x = c := by simpa using h
theorem l_X9_product {X : Nat × (Nat → Int32)} {M : ng_M} {H : Nat → Int32} {L d o : Nat} {u : Int32} {f : Nat → ng_Rs} {cs0 : List Int32} (hc : ng_RG M H L u) (hg : ng_gd L f) (hd : 2 ≤ d) (hs : ng_KF X M L d mi_X9_one o f) : ∀ (n q : Nat) (cs : List Int32) (x1 : Option Value), q ≤ L → (cs0 ++ cs).length ≤ q → 50 ≤ q + n →
    ng_Go X mi_X9_product (d + 1) 64 [some (.ref 73), x1] [] (ng_RF M q (cs0 ++ cs) o false) (fun r' M' => r' = none ∧ M' = ng_RF M (ng_jl H 4 f n q cs).2.1 (cs0 ++ (ng_jl H 4 f n q cs).2.2) o (!(ng_jl H 4 f n q cs).1)) := by
  have hL := hc.1.1
  intro n
  induction n with
  | zero =>
    intro q cs x1 hq hl hn
    refine ng_aload_0 dX9_product_64 ?_
    refine ng_bipush (v := 42) dX9_product_65 (by decide) ?_
    refine ng_callV_1x (y2 := mi_X9_takes) dX9_product_67 lk_X9_158 ms_X9_takes my_X9_takes (by first | exact ⟨_, rfl⟩ | assumption | exact ng_fld_obj (f := 0) (by assumption)) mc_X9 (by first | decide | exact Nat.le_of_ble_eq_true rfl) (s_X9_takes hc hq (by decide)) hd ?_
    refine ng_ifb_eq 79 dX9_product_70 (by decide +kernel) (fun h70 => ?_) (fun h70 => ?_)
    · rw [if_neg (by rw [h70]; decide)]
      refine ng_aload_0 dX9_product_79 ?_
      refine ng_bipush (v := 47) dX9_product_80 (by decide) ?_
      refine ng_callV_1x (y2 := mi_X9_takes) dX9_product_82 lk_X9_158 ms_X9_takes my_X9_takes (by first | exact ⟨_, rfl⟩ | assumption | exact ng_fld_obj (f := 0) (by assumption)) mc_X9 (by first | decide | exact Nat.le_of_ble_eq_true rfl) (s_X9_takes hc hq (by decide)) hd ?_
      refine ng_ifb_eq 94 dX9_product_85 (by decide +kernel) (fun h85 => ?_) (fun h85 => ?_)
      · rw [if_neg (by rw [h85]; decide)]
        refine ng_aload_0 dX9_product_94 ?_
        refine ng_bipush (v := 37) dX9_product_95 (by decide) ?_
        refine ng_callV_1x (y2 := mi_X9_takes) dX9_product_97 lk_X9_158 ms_X9_takes my_X9_takes (by first | exact ⟨_, rfl⟩ | assumption | exact ng_fld_obj (f := 0) (by assumption)) mc_X9 (by first | decide | exact Nat.le_of_ble_eq_true rfl) (s_X9_takes hc hq (by decide)) hd ?_
        refine ng_ifb_eq 109 dX9_product_100 (by decide +kernel) (fun h100 => ?_) (fun h100 => ?_)
        · rw [if_neg (by rw [h100]; decide)]
          refine ng_iconst_0 dX9_product_109 ?_
          refine ng_istore_1 dX9_product_110 (by first | rfl | assumption) ?_
          refine ng_goto 51 dX9_product_111 (by decide +kernel) ?_
          exact z_X9_product ⟨rfl, rfl⟩
        · simp at h100; rw [hc.1.2.1 q (by omega)] at h100; exact absurd h100 (by decide)
      · simp at h85; rw [hc.1.2.1 q (by omega)] at h85; exact absurd h85 (by decide)
    · simp at h70; rw [hc.1.2.1 q (by omega)] at h70; exact absurd h70 (by decide)
  | succ n ih =>
    intro q cs x1 hq hl hn
    refine ng_aload_0 dX9_product_64 ?_
    refine ng_bipush (v := 42) dX9_product_65 (by decide) ?_
    refine ng_callV_1x (y2 := mi_X9_takes) dX9_product_67 lk_X9_158 ms_X9_takes my_X9_takes (by first | exact ⟨_, rfl⟩ | assumption | exact ng_fld_obj (f := 0) (by assumption)) mc_X9 (by first | decide | exact Nat.le_of_ble_eq_true rfl) (s_X9_takes hc hq (by decide)) hd ?_
    refine ng_ifb_eq 79 dX9_product_70 (by decide +kernel) (fun h70 => ?_) (fun h70 => ?_)
    · rw [if_neg (by rw [h70]; decide)]
      refine ng_aload_0 dX9_product_79 ?_
      refine ng_bipush (v := 47) dX9_product_80 (by decide) ?_
      refine ng_callV_1x (y2 := mi_X9_takes) dX9_product_82 lk_X9_158 ms_X9_takes my_X9_takes (by first | exact ⟨_, rfl⟩ | assumption | exact ng_fld_obj (f := 0) (by assumption)) mc_X9 (by first | decide | exact Nat.le_of_ble_eq_true rfl) (s_X9_takes hc hq (by decide)) hd ?_
      refine ng_ifb_eq 94 dX9_product_85 (by decide +kernel) (fun h85 => ?_) (fun h85 => ?_)
      · rw [if_neg (by rw [h85]; decide)]
        refine ng_aload_0 dX9_product_94 ?_
        refine ng_bipush (v := 37) dX9_product_95 (by decide) ?_
        refine ng_callV_1x (y2 := mi_X9_takes) dX9_product_97 lk_X9_158 ms_X9_takes my_X9_takes (by first | exact ⟨_, rfl⟩ | assumption | exact ng_fld_obj (f := 0) (by assumption)) mc_X9 (by first | decide | exact Nat.le_of_ble_eq_true rfl) (s_X9_takes hc hq (by decide)) hd ?_
        refine ng_ifb_eq 109 dX9_product_100 (by decide +kernel) (fun h100 => ?_) (fun h100 => ?_)
        · rw [if_neg (by rw [h100]; decide)]
          refine ng_iconst_0 dX9_product_109 ?_
          refine ng_istore_1 dX9_product_110 (by first | rfl | assumption) ?_
          refine ng_goto 51 dX9_product_111 (by decide +kernel) ?_
          first
          | (rw [if_pos h70]; have e := ng_take_t h70; exact h_X9_product hc hg hd hs ih (by rw [e]; decide) (by rw [e]; decide) hl hn)
          | (rw [if_pos h85]; have e := ng_take_t h85; exact h_X9_product hc hg hd hs ih (by rw [e]; decide) (by rw [e]; decide) hl hn)
          | (rw [if_pos h100]; have e := ng_take_t h100; exact h_X9_product hc hg hd hs ih (by rw [e]; decide) (by rw [e]; decide) hl hn)
          | exact z_X9_product ⟨rfl, by rw [ng_jl_no (fun z => (ng_ro4.mp z).elim (ng_take_f h70) (fun z => z.elim (ng_take_f h85) (ng_take_f h100)))]; rfl⟩
        · refine ng_sipush (v := 20009) dX9_product_103 (by decide) ?_
          refine ng_goto 110 dX9_product_106 (by decide +kernel) ?_
          refine ng_istore_1 dX9_product_110 (by first | rfl | assumption) ?_
          refine ng_goto 51 dX9_product_111 (by decide +kernel) ?_
          first
          | (rw [if_pos h70]; have e := ng_take_t h70; exact h_X9_product hc hg hd hs ih (by rw [e]; decide) (by rw [e]; decide) hl hn)
          | (rw [if_pos h85]; have e := ng_take_t h85; exact h_X9_product hc hg hd hs ih (by rw [e]; decide) (by rw [e]; decide) hl hn)
          | (rw [if_pos h100]; have e := ng_take_t h100; exact h_X9_product hc hg hd hs ih (by rw [e]; decide) (by rw [e]; decide) hl hn)
          | exact z_X9_product ⟨rfl, by rw [ng_jl_no (fun z => (ng_ro4.mp z).elim (ng_take_f h70) (fun z => z.elim (ng_take_f h85) (ng_take_f h100)))]; rfl⟩
      · refine ng_sipush (v := 20008) dX9_product_88 (by decide) ?_
        refine ng_goto 110 dX9_product_91 (by decide +kernel) ?_
        refine ng_istore_1 dX9_product_110 (by first | rfl | assumption) ?_
        refine ng_goto 51 dX9_product_111 (by decide +kernel) ?_
        first
        | (rw [if_pos h70]; have e := ng_take_t h70; exact h_X9_product hc hg hd hs ih (by rw [e]; decide) (by rw [e]; decide) hl hn)
        | (rw [if_pos h85]; have e := ng_take_t h85; exact h_X9_product hc hg hd hs ih (by rw [e]; decide) (by rw [e]; decide) hl hn)
        | (rw [if_pos h100]; have e := ng_take_t h100; exact h_X9_product hc hg hd hs ih (by rw [e]; decide) (by rw [e]; decide) hl hn)
        | exact z_X9_product ⟨rfl, by rw [ng_jl_no (fun z => (ng_ro4.mp z).elim (ng_take_f h70) (fun z => z.elim (ng_take_f h85) (ng_take_f h100)))]; rfl⟩
    · refine ng_sipush (v := 20007) dX9_product_73 (by decide) ?_
      refine ng_goto 110 dX9_product_76 (by decide +kernel) ?_
      refine ng_istore_1 dX9_product_110 (by first | rfl | assumption) ?_
      refine ng_goto 51 dX9_product_111 (by decide +kernel) ?_
      first
      | (rw [if_pos h70]; have e := ng_take_t h70; exact h_X9_product hc hg hd hs ih (by rw [e]; decide) (by rw [e]; decide) hl hn)
      | (rw [if_pos h85]; have e := ng_take_t h85; exact h_X9_product hc hg hd hs ih (by rw [e]; decide) (by rw [e]; decide) hl hn)
      | (rw [if_pos h100]; have e := ng_take_t h100; exact h_X9_product hc hg hd hs ih (by rw [e]; decide) (by rw [e]; decide) hl hn)
      | exact z_X9_product ⟨rfl, by rw [ng_jl_no (fun z => (ng_ro4.mp z).elim (ng_take_f h70) (fun z => z.elim (ng_take_f h85) (ng_take_f h100)))]; rfl⟩
theorem k_X9_product {X : Nat × (Nat → Int32)} {M : ng_M} {H : Nat → Int32} {L d o : Nat} {u : Int32} {f : Nat → ng_Rs} {cs0 : List Int32} (hc : ng_RG M H L u) (hg : ng_gd L f) (hd : 2 ≤ d) (hs : ng_KF X M L d mi_X9_one o f) {n q : Nat} {cs : List Int32} {x1 : Option Value} (hq : q ≤ L) (hl : (cs0 ++ cs).length ≤ q) (hn : 50 ≤ q + (n + 1)) :
    ng_Go X mi_X9_product (d + 1) 4 [some (.ref 73), x1] [] (ng_RF M q (cs0 ++ cs) o false) (fun r' M' => r' = none ∧ M' = ng_RF M (ng_jl H 4 f (n + 1) q cs).2.1 (cs0 ++ (ng_jl H 4 f (n + 1) q cs).2.2) o (!(ng_jl H 4 f (n + 1) q cs).1)) := by
    have ih := l_X9_product (cs0 := cs0) hc hg hd hs n
    refine ng_aload_0 dX9_product_4 ?_
    refine ng_bipush (v := 42) dX9_product_5 (by decide) ?_
    refine ng_callV_1x (y2 := mi_X9_takes) dX9_product_7 lk_X9_158 ms_X9_takes my_X9_takes (by first | exact ⟨_, rfl⟩ | assumption | exact ng_fld_obj (f := 0) (by assumption)) mc_X9 (by first | decide | exact Nat.le_of_ble_eq_true rfl) (s_X9_takes hc hq (by decide)) hd ?_
    refine ng_ifb_eq 19 dX9_product_10 (by decide +kernel) (fun h10 => ?_) (fun h10 => ?_)
    · rw [if_neg (by rw [h10]; decide)]
      refine ng_aload_0 dX9_product_19 ?_
      refine ng_bipush (v := 47) dX9_product_20 (by decide) ?_
      refine ng_callV_1x (y2 := mi_X9_takes) dX9_product_22 lk_X9_158 ms_X9_takes my_X9_takes (by first | exact ⟨_, rfl⟩ | assumption | exact ng_fld_obj (f := 0) (by assumption)) mc_X9 (by first | decide | exact Nat.le_of_ble_eq_true rfl) (s_X9_takes hc hq (by decide)) hd ?_
      refine ng_ifb_eq 34 dX9_product_25 (by decide +kernel) (fun h25 => ?_) (fun h25 => ?_)
      · rw [if_neg (by rw [h25]; decide)]
        refine ng_aload_0 dX9_product_34 ?_
        refine ng_bipush (v := 37) dX9_product_35 (by decide) ?_
        refine ng_callV_1x (y2 := mi_X9_takes) dX9_product_37 lk_X9_158 ms_X9_takes my_X9_takes (by first | exact ⟨_, rfl⟩ | assumption | exact ng_fld_obj (f := 0) (by assumption)) mc_X9 (by first | decide | exact Nat.le_of_ble_eq_true rfl) (s_X9_takes hc hq (by decide)) hd ?_
        refine ng_ifb_eq 49 dX9_product_40 (by decide +kernel) (fun h40 => ?_) (fun h40 => ?_)
        · rw [if_neg (by rw [h40]; decide)]
          refine ng_iconst_0 dX9_product_49 ?_
          refine ng_istore_1 dX9_product_50 (by first | rfl | assumption) ?_
          first
          | (rw [if_pos h10]; have e := ng_take_t h10; exact h_X9_product hc hg hd hs ih (by rw [e]; decide) (by rw [e]; decide) hl hn)
          | (rw [if_pos h25]; have e := ng_take_t h25; exact h_X9_product hc hg hd hs ih (by rw [e]; decide) (by rw [e]; decide) hl hn)
          | (rw [if_pos h40]; have e := ng_take_t h40; exact h_X9_product hc hg hd hs ih (by rw [e]; decide) (by rw [e]; decide) hl hn)
          | exact z_X9_product ⟨rfl, by rw [ng_jl_no (fun z => (ng_ro4.mp z).elim (ng_take_f h10) (fun z => z.elim (ng_take_f h25) (ng_take_f h40)))]; rfl⟩
        · refine ng_sipush (v := 20009) dX9_product_43 (by decide) ?_
          refine ng_goto 50 dX9_product_46 (by decide +kernel) ?_
          refine ng_istore_1 dX9_product_50 (by first | rfl | assumption) ?_
          first
          | (rw [if_pos h10]; have e := ng_take_t h10; exact h_X9_product hc hg hd hs ih (by rw [e]; decide) (by rw [e]; decide) hl hn)
          | (rw [if_pos h25]; have e := ng_take_t h25; exact h_X9_product hc hg hd hs ih (by rw [e]; decide) (by rw [e]; decide) hl hn)
          | (rw [if_pos h40]; have e := ng_take_t h40; exact h_X9_product hc hg hd hs ih (by rw [e]; decide) (by rw [e]; decide) hl hn)
          | exact z_X9_product ⟨rfl, by rw [ng_jl_no (fun z => (ng_ro4.mp z).elim (ng_take_f h10) (fun z => z.elim (ng_take_f h25) (ng_take_f h40)))]; rfl⟩
      · refine ng_sipush (v := 20008) dX9_product_28 (by decide) ?_
        refine ng_goto 50 dX9_product_31 (by decide +kernel) ?_
        refine ng_istore_1 dX9_product_50 (by first | rfl | assumption) ?_
        first
        | (rw [if_pos h10]; have e := ng_take_t h10; exact h_X9_product hc hg hd hs ih (by rw [e]; decide) (by rw [e]; decide) hl hn)
        | (rw [if_pos h25]; have e := ng_take_t h25; exact h_X9_product hc hg hd hs ih (by rw [e]; decide) (by rw [e]; decide) hl hn)
        | (rw [if_pos h40]; have e := ng_take_t h40; exact h_X9_product hc hg hd hs ih (by rw [e]; decide) (by rw [e]; decide) hl hn)
        | exact z_X9_product ⟨rfl, by rw [ng_jl_no (fun z => (ng_ro4.mp z).elim (ng_take_f h10) (fun z => z.elim (ng_take_f h25) (ng_take_f h40)))]; rfl⟩
    · refine ng_sipush (v := 20007) dX9_product_13 (by decide) ?_
      refine ng_goto 50 dX9_product_16 (by decide +kernel) ?_
      refine ng_istore_1 dX9_product_50 (by first | rfl | assumption) ?_
      first
      | (rw [if_pos h10]; have e := ng_take_t h10; exact h_X9_product hc hg hd hs ih (by rw [e]; decide) (by rw [e]; decide) hl hn)
      | (rw [if_pos h25]; have e := ng_take_t h25; exact h_X9_product hc hg hd hs ih (by rw [e]; decide) (by rw [e]; decide) hl hn)
      | (rw [if_pos h40]; have e := ng_take_t h40; exact h_X9_product hc hg hd hs ih (by rw [e]; decide) (by rw [e]; decide) hl hn)
      | exact z_X9_product ⟨rfl, by rw [ng_jl_no (fun z => (ng_ro4.mp z).elim (ng_take_f h10) (fun z => z.elim (ng_take_f h25) (ng_take_f h40)))]; rfl⟩
theorem s_X9_product {X : Nat × (Nat → Int32)} {M : ng_M} {H : Nat → Int32} {L d o : Nat} {u : Int32} {f : Nat → ng_Rs} (hc : ng_RG M H L u) (hg : ng_gd L f) (hd : 2 ≤ d) (hs : ng_KF X M L d mi_X9_one o f) : ng_KF X M L (d + 1) mi_X9_product o (ng_jn H 4 50 f) := by
  intro p cs hp hl
  obtain ⟨g1, g2, g3, g4⟩ := hg p hp
  refine ng_EvX.ofV (lv := [some (.ref 73), none]) (by decide) (Nat.le_of_ble_eq_true rfl) rfl rfl ?_
  refine ng_aload_0 dX9_product_0 ?_
  refine ng_callV_0v (y2 := mi_X9_one) dX9_product_1 lk_X9_174 ms_X9_one my_X9_one (by first | exact ⟨_, rfl⟩ | assumption | exact ng_fld_obj (f := 0) (by assumption)) mc_X9 (by first | decide | exact Nat.le_of_ble_eq_true rfl) (hs p cs hp hl) (by omega) ?_
  cases hx : (f p).1 with
  | true =>
    rw [ng_jn, if_pos hx]
    exact k_X9_product hc hg hd hs (n := 49) g2 (by simp; omega) (by omega)
  | false =>
    rw [ng_jn, if_neg (by rw [hx]; decide)]
    exact v_X9_product hc hd g2 ⟨rfl, by rw [hx]; rfl⟩
theorem z_X9_sum {X : Nat × (Nat → Int32)} {M : ng_M} {d : Nat} {F : Option Value → ng_M → Prop} (k : F none M) : ng_Go X mi_X9_sum d 36 [some (.ref 73), some (.int 0)] [] M F := by
  refine ng_iload_1 dX9_sum_36 ?_
  refine ng_if_le 84 dX9_sum_37 (by decide +kernel) (fun h37 => ?_) (fun h37 => ?_)
  · exact ng_return dX9_sum_84 k
  · exact absurd (by decide) h37
theorem w_X9_sum {X : Nat × (Nat → Int32)} {M : ng_M} {H : Nat → Int32} {L d o q : Nat} {u : Int32} {cs : List Int32} {x1 : Option Value} {F : Option Value → ng_M → Prop} (hc : ng_RG M H L u) (hd : 2 ≤ d) (hq : q ≤ L) (k : F none (ng_RF M q cs o true)) : ng_Go X mi_X9_sum (d + 1) 49 [some (.ref 73), x1] [] (ng_RF M q cs o true) F := by
  refine ng_aload_0 dX9_sum_49 ?_
  refine ng_bipush (v := 43) dX9_sum_50 (by decide) ?_
  refine ng_callV_1x (y2 := mi_X9_takes) dX9_sum_52 lk_X9_158 ms_X9_takes my_X9_takes (by first | exact ⟨_, rfl⟩ | assumption | exact ng_fld_obj (f := 0) (by assumption)) mc_X9 (by first | decide | exact Nat.le_of_ble_eq_true rfl) (s_X9_takes hc hq (by decide)) hd ?_
  refine ng_ifb_eq 64 dX9_sum_55 (by decide +kernel) (fun h55 => ?_) (fun h55 => ?_)
  · rw [if_neg (by simp)]
    refine ng_aload_0 dX9_sum_64 ?_
    refine ng_bipush (v := 45) dX9_sum_65 (by decide) ?_
    refine ng_callV_1x (y2 := mi_X9_takes) dX9_sum_67 lk_X9_158 ms_X9_takes my_X9_takes (by first | exact ⟨_, rfl⟩ | assumption | exact ng_fld_obj (f := 0) (by assumption)) mc_X9 (by first | decide | exact Nat.le_of_ble_eq_true rfl) (s_X9_takes hc hq (by decide)) hd ?_
    refine ng_ifb_eq 79 dX9_sum_70 (by decide +kernel) (fun h70 => ?_) (fun h70 => ?_)
    · rw [if_neg (by simp)]
      refine ng_iconst_0 dX9_sum_79 ?_
      refine ng_istore_1 dX9_sum_80 (by first | rfl | assumption) ?_
      refine ng_goto 36 dX9_sum_81 (by decide +kernel) ?_
      exact z_X9_sum k
    · exact absurd h70 (by simp)
  · exact absurd h55 (by simp)
theorem v_X9_sum {X : Nat × (Nat → Int32)} {M : ng_M} {H : Nat → Int32} {L d o q : Nat} {u : Int32} {cs : List Int32} {x1 : Option Value} {F : Option Value → ng_M → Prop} (hc : ng_RG M H L u) (hd : 2 ≤ d) (hq : q ≤ L) (k : F none (ng_RF M q cs o true)) : ng_Go X mi_X9_sum (d + 1) 4 [some (.ref 73), x1] [] (ng_RF M q cs o true) F := by
  refine ng_aload_0 dX9_sum_4 ?_
  refine ng_bipush (v := 43) dX9_sum_5 (by decide) ?_
  refine ng_callV_1x (y2 := mi_X9_takes) dX9_sum_7 lk_X9_158 ms_X9_takes my_X9_takes (by first | exact ⟨_, rfl⟩ | assumption | exact ng_fld_obj (f := 0) (by assumption)) mc_X9 (by first | decide | exact Nat.le_of_ble_eq_true rfl) (s_X9_takes hc hq (by decide)) hd ?_
  refine ng_ifb_eq 19 dX9_sum_10 (by decide +kernel) (fun h10 => ?_) (fun h10 => ?_)
  · rw [if_neg (by simp)]
    refine ng_aload_0 dX9_sum_19 ?_
    refine ng_bipush (v := 45) dX9_sum_20 (by decide) ?_
    refine ng_callV_1x (y2 := mi_X9_takes) dX9_sum_22 lk_X9_158 ms_X9_takes my_X9_takes (by first | exact ⟨_, rfl⟩ | assumption | exact ng_fld_obj (f := 0) (by assumption)) mc_X9 (by first | decide | exact Nat.le_of_ble_eq_true rfl) (s_X9_takes hc hq (by decide)) hd ?_
    refine ng_ifb_eq 34 dX9_sum_25 (by decide +kernel) (fun h25 => ?_) (fun h25 => ?_)
    · rw [if_neg (by simp)]
      refine ng_iconst_0 dX9_sum_34 ?_
      refine ng_istore_1 dX9_sum_35 (by first | rfl | assumption) ?_
      exact z_X9_sum k
    · exact absurd h25 (by simp)
  · exact absurd h10 (by simp)
theorem h_X9_sum {X : Nat × (Nat → Int32)} {M : ng_M} {H : Nat → Int32} {L d o : Nat} {u : Int32} {f : Nat → ng_Rs} {cs0 : List Int32} {n : Nat} (hc : ng_RG M H L u) (hg : ng_gd L f) (hd : 2 ≤ d) (hs : ng_KF X M L d mi_X9_product o f) (ih : ∀ (q : Nat) (cs : List Int32) (x1 : Option Value), q ≤ L → (cs0 ++ cs).length ≤ q → 50 ≤ q + n → ng_Go X mi_X9_sum (d + 1) 49 [some (.ref 73), x1] [] (ng_RF M q (cs0 ++ cs) o false) (fun r' M' => r' = none ∧ M' = ng_RF M (ng_jl H 3 f n q cs).2.1 (cs0 ++ (ng_jl H 3 f n q cs).2.2) o (!(ng_jl H 3 f n q cs).1)))
    {q : Nat} {cs : List Int32} {v : Int32} (hv : v = ng_oc (H q)) (hro : ng_ro (H q) = 3) (hl : (cs0 ++ cs).length ≤ q) (hn : 50 ≤ q + (n + 1)) : ng_Go X mi_X9_sum (d + 1) 36 [some (.ref 73), some (.int v)] [] (ng_RF M (q + 1) (cs0 ++ cs) o false) (fun r' M' => r' = none ∧ M' = ng_RF M (ng_jl H 3 f (n + 1) q cs).2.1 (cs0 ++ (ng_jl H 3 f (n + 1) q cs).2.2) o (!(ng_jl H 3 f (n + 1) q cs).1)) := by
  have hL := hc.1.1
  have h0 : 0 ≤ ng_ro (H q) := by rw [hro]; decide
  have hlt : q < L := hc.1.lt (ng_ro_oc h0).2.2.2.2
  obtain ⟨g1, g2, g3, g4⟩ := hg (q + 1) (by omega)
  refine ng_iload_1 dX9_sum_36 ?_
  refine ng_if_le 84 dX9_sum_37 (by decide +kernel) (fun h37 => ?_) (fun h37 => ?_)
  · exact absurd h37 (by rw [hv]; exact ng_oc_pos h0)
  · refine ng_aload_0 dX9_sum_40 ?_
    refine ng_callV_0v (y2 := mi_X9_product) dX9_sum_41 lk_X9_171 ms_X9_product my_X9_product (by first | exact ⟨_, rfl⟩ | assumption | exact ng_fld_obj (f := 0) (by assumption)) mc_X9 (by first | decide | exact Nat.le_of_ble_eq_true rfl) (hs (q + 1) (cs0 ++ cs) (by omega) (by omega)) (by omega) ?_
    refine ng_aload_0 dX9_sum_44 ?_
    refine ng_iload_1 dX9_sum_45 ?_
    refine ng_callV_1v (y2 := mi_X9_codes) dX9_sum_46 lk_X9_161 ms_X9_codes my_X9_codes (by first | exact ⟨_, rfl⟩ | assumption | exact ng_fld_obj (f := 0) (by assumption)) mc_X9 (by first | decide | exact Nat.le_of_ble_eq_true rfl) (s_X9_codes (by simp at hl ⊢; omega)) (by omega) ?_
    cases hx : (f (q + 1)).1 with
    | true =>
      rw [ng_jl_ok hro hx, if_neg (by decide), List.append_assoc, List.append_assoc, ← List.append_assoc cs, hv]
      exact ih _ _ _ g2 (by simp at hl ⊢; omega) (by omega)
    | false =>
      rw [if_pos (by decide)]
      exact w_X9_sum hc hd g2 ⟨rfl, by rw [ng_jl_bad hro hx, List.append_assoc]; rfl⟩
theorem l_X9_sum {X : Nat × (Nat → Int32)} {M : ng_M} {H : Nat → Int32} {L d o : Nat} {u : Int32} {f : Nat → ng_Rs} {cs0 : List Int32} (hc : ng_RG M H L u) (hg : ng_gd L f) (hd : 2 ≤ d) (hs : ng_KF X M L d mi_X9_product o f) : ∀ (n q : Nat) (cs : List Int32) (x1 : Option Value), q ≤ L → (cs0 ++ cs).length ≤ q → 50 ≤ q + n →
    ng_Go X mi_X9_sum (d + 1) 49 [some (.ref 73), x1] [] (ng_RF M q (cs0 ++ cs) o false) (fun r' M' => r' = none ∧ M' = ng_RF M (ng_jl H 3 f n q cs).2.1 (cs0 ++ (ng_jl H 3 f n q cs).2.2) o (!(ng_jl H 3 f n q cs).1)) := by
  have hL := hc.1.1
  intro n
  induction n with
  | zero =>
    intro q cs x1 hq hl hn
    refine ng_aload_0 dX9_sum_49 ?_
    refine ng_bipush (v := 43) dX9_sum_50 (by decide) ?_
    refine ng_callV_1x (y2 := mi_X9_takes) dX9_sum_52 lk_X9_158 ms_X9_takes my_X9_takes (by first | exact ⟨_, rfl⟩ | assumption | exact ng_fld_obj (f := 0) (by assumption)) mc_X9 (by first | decide | exact Nat.le_of_ble_eq_true rfl) (s_X9_takes hc hq (by decide)) hd ?_
    refine ng_ifb_eq 64 dX9_sum_55 (by decide +kernel) (fun h55 => ?_) (fun h55 => ?_)
    · rw [if_neg (by rw [h55]; decide)]
      refine ng_aload_0 dX9_sum_64 ?_
      refine ng_bipush (v := 45) dX9_sum_65 (by decide) ?_
      refine ng_callV_1x (y2 := mi_X9_takes) dX9_sum_67 lk_X9_158 ms_X9_takes my_X9_takes (by first | exact ⟨_, rfl⟩ | assumption | exact ng_fld_obj (f := 0) (by assumption)) mc_X9 (by first | decide | exact Nat.le_of_ble_eq_true rfl) (s_X9_takes hc hq (by decide)) hd ?_
      refine ng_ifb_eq 79 dX9_sum_70 (by decide +kernel) (fun h70 => ?_) (fun h70 => ?_)
      · rw [if_neg (by rw [h70]; decide)]
        refine ng_iconst_0 dX9_sum_79 ?_
        refine ng_istore_1 dX9_sum_80 (by first | rfl | assumption) ?_
        refine ng_goto 36 dX9_sum_81 (by decide +kernel) ?_
        exact z_X9_sum ⟨rfl, rfl⟩
      · simp at h70; rw [hc.1.2.1 q (by omega)] at h70; exact absurd h70 (by decide)
    · simp at h55; rw [hc.1.2.1 q (by omega)] at h55; exact absurd h55 (by decide)
  | succ n ih =>
    intro q cs x1 hq hl hn
    refine ng_aload_0 dX9_sum_49 ?_
    refine ng_bipush (v := 43) dX9_sum_50 (by decide) ?_
    refine ng_callV_1x (y2 := mi_X9_takes) dX9_sum_52 lk_X9_158 ms_X9_takes my_X9_takes (by first | exact ⟨_, rfl⟩ | assumption | exact ng_fld_obj (f := 0) (by assumption)) mc_X9 (by first | decide | exact Nat.le_of_ble_eq_true rfl) (s_X9_takes hc hq (by decide)) hd ?_
    refine ng_ifb_eq 64 dX9_sum_55 (by decide +kernel) (fun h55 => ?_) (fun h55 => ?_)
    · rw [if_neg (by rw [h55]; decide)]
      refine ng_aload_0 dX9_sum_64 ?_
      refine ng_bipush (v := 45) dX9_sum_65 (by decide) ?_
      refine ng_callV_1x (y2 := mi_X9_takes) dX9_sum_67 lk_X9_158 ms_X9_takes my_X9_takes (by first | exact ⟨_, rfl⟩ | assumption | exact ng_fld_obj (f := 0) (by assumption)) mc_X9 (by first | decide | exact Nat.le_of_ble_eq_true rfl) (s_X9_takes hc hq (by decide)) hd ?_
      refine ng_ifb_eq 79 dX9_sum_70 (by decide +kernel) (fun h70 => ?_) (fun h70 => ?_)
      · rw [if_neg (by rw [h70]; decide)]
        refine ng_iconst_0 dX9_sum_79 ?_
        refine ng_istore_1 dX9_sum_80 (by first | rfl | assumption) ?_
        refine ng_goto 36 dX9_sum_81 (by decide +kernel) ?_
        first
        | (rw [if_pos h55]; have e := ng_take_t h55; exact h_X9_sum hc hg hd hs ih (by rw [e]; decide) (by rw [e]; decide) hl hn)
        | (rw [if_pos h70]; have e := ng_take_t h70; exact h_X9_sum hc hg hd hs ih (by rw [e]; decide) (by rw [e]; decide) hl hn)
        | exact z_X9_sum ⟨rfl, by rw [ng_jl_no (fun z => (ng_ro3.mp z).elim (ng_take_f h55) (ng_take_f h70))]; rfl⟩
      · refine ng_sipush (v := 20006) dX9_sum_73 (by decide) ?_
        refine ng_goto 80 dX9_sum_76 (by decide +kernel) ?_
        refine ng_istore_1 dX9_sum_80 (by first | rfl | assumption) ?_
        refine ng_goto 36 dX9_sum_81 (by decide +kernel) ?_
        first
        | (rw [if_pos h55]; have e := ng_take_t h55; exact h_X9_sum hc hg hd hs ih (by rw [e]; decide) (by rw [e]; decide) hl hn)
        | (rw [if_pos h70]; have e := ng_take_t h70; exact h_X9_sum hc hg hd hs ih (by rw [e]; decide) (by rw [e]; decide) hl hn)
        | exact z_X9_sum ⟨rfl, by rw [ng_jl_no (fun z => (ng_ro3.mp z).elim (ng_take_f h55) (ng_take_f h70))]; rfl⟩
    · refine ng_sipush (v := 20005) dX9_sum_58 (by decide) ?_
      refine ng_goto 80 dX9_sum_61 (by decide +kernel) ?_
      refine ng_istore_1 dX9_sum_80 (by first | rfl | assumption) ?_
      refine ng_goto 36 dX9_sum_81 (by decide +kernel) ?_
      first
      | (rw [if_pos h55]; have e := ng_take_t h55; exact h_X9_sum hc hg hd hs ih (by rw [e]; decide) (by rw [e]; decide) hl hn)
      | (rw [if_pos h70]; have e := ng_take_t h70; exact h_X9_sum hc hg hd hs ih (by rw [e]; decide) (by rw [e]; decide) hl hn)
      | exact z_X9_sum ⟨rfl, by rw [ng_jl_no (fun z => (ng_ro3.mp z).elim (ng_take_f h55) (ng_take_f h70))]; rfl⟩
theorem k_X9_sum {X : Nat × (Nat → Int32)} {M : ng_M} {H : Nat → Int32} {L d o : Nat} {u : Int32} {f : Nat → ng_Rs} {cs0 : List Int32} (hc : ng_RG M H L u) (hg : ng_gd L f) (hd : 2 ≤ d) (hs : ng_KF X M L d mi_X9_product o f) {n q : Nat} {cs : List Int32} {x1 : Option Value} (hq : q ≤ L) (hl : (cs0 ++ cs).length ≤ q) (hn : 50 ≤ q + (n + 1)) :
    ng_Go X mi_X9_sum (d + 1) 4 [some (.ref 73), x1] [] (ng_RF M q (cs0 ++ cs) o false) (fun r' M' => r' = none ∧ M' = ng_RF M (ng_jl H 3 f (n + 1) q cs).2.1 (cs0 ++ (ng_jl H 3 f (n + 1) q cs).2.2) o (!(ng_jl H 3 f (n + 1) q cs).1)) := by
    have ih := l_X9_sum (cs0 := cs0) hc hg hd hs n
    refine ng_aload_0 dX9_sum_4 ?_
    refine ng_bipush (v := 43) dX9_sum_5 (by decide) ?_
    refine ng_callV_1x (y2 := mi_X9_takes) dX9_sum_7 lk_X9_158 ms_X9_takes my_X9_takes (by first | exact ⟨_, rfl⟩ | assumption | exact ng_fld_obj (f := 0) (by assumption)) mc_X9 (by first | decide | exact Nat.le_of_ble_eq_true rfl) (s_X9_takes hc hq (by decide)) hd ?_
    refine ng_ifb_eq 19 dX9_sum_10 (by decide +kernel) (fun h10 => ?_) (fun h10 => ?_)
    · rw [if_neg (by rw [h10]; decide)]
      refine ng_aload_0 dX9_sum_19 ?_
      refine ng_bipush (v := 45) dX9_sum_20 (by decide) ?_
      refine ng_callV_1x (y2 := mi_X9_takes) dX9_sum_22 lk_X9_158 ms_X9_takes my_X9_takes (by first | exact ⟨_, rfl⟩ | assumption | exact ng_fld_obj (f := 0) (by assumption)) mc_X9 (by first | decide | exact Nat.le_of_ble_eq_true rfl) (s_X9_takes hc hq (by decide)) hd ?_
      refine ng_ifb_eq 34 dX9_sum_25 (by decide +kernel) (fun h25 => ?_) (fun h25 => ?_)
      · rw [if_neg (by rw [h25]; decide)]
        refine ng_iconst_0 dX9_sum_34 ?_
        refine ng_istore_1 dX9_sum_35 (by first | rfl | assumption) ?_
        first
        | (rw [if_pos h10]; have e := ng_take_t h10; exact h_X9_sum hc hg hd hs ih (by rw [e]; decide) (by rw [e]; decide) hl hn)
        | (rw [if_pos h25]; have e := ng_take_t h25; exact h_X9_sum hc hg hd hs ih (by rw [e]; decide) (by rw [e]; decide) hl hn)
        | exact z_X9_sum ⟨rfl, by rw [ng_jl_no (fun z => (ng_ro3.mp z).elim (ng_take_f h10) (ng_take_f h25))]; rfl⟩
      · refine ng_sipush (v := 20006) dX9_sum_28 (by decide) ?_
        refine ng_goto 35 dX9_sum_31 (by decide +kernel) ?_
        refine ng_istore_1 dX9_sum_35 (by first | rfl | assumption) ?_
        first
        | (rw [if_pos h10]; have e := ng_take_t h10; exact h_X9_sum hc hg hd hs ih (by rw [e]; decide) (by rw [e]; decide) hl hn)
        | (rw [if_pos h25]; have e := ng_take_t h25; exact h_X9_sum hc hg hd hs ih (by rw [e]; decide) (by rw [e]; decide) hl hn)
        | exact z_X9_sum ⟨rfl, by rw [ng_jl_no (fun z => (ng_ro3.mp z).elim (ng_take_f h10) (ng_take_f h25))]; rfl⟩
    · refine ng_sipush (v := 20005) dX9_sum_13 (by decide) ?_
      refine ng_goto 35 dX9_sum_16 (by decide +kernel) ?_
      refine ng_istore_1 dX9_sum_35 (by first | rfl | assumption) ?_
      first
      | (rw [if_pos h10]; have e := ng_take_t h10; exact h_X9_sum hc hg hd hs ih (by rw [e]; decide) (by rw [e]; decide) hl hn)
      | (rw [if_pos h25]; have e := ng_take_t h25; exact h_X9_sum hc hg hd hs ih (by rw [e]; decide) (by rw [e]; decide) hl hn)
      | exact z_X9_sum ⟨rfl, by rw [ng_jl_no (fun z => (ng_ro3.mp z).elim (ng_take_f h10) (ng_take_f h25))]; rfl⟩
theorem s_X9_sum {X : Nat × (Nat → Int32)} {M : ng_M} {H : Nat → Int32} {L d o : Nat} {u : Int32} {f : Nat → ng_Rs} (hc : ng_RG M H L u) (hg : ng_gd L f) (hd : 2 ≤ d) (hs : ng_KF X M L d mi_X9_product o f) : ng_KF X M L (d + 1) mi_X9_sum o (ng_jn H 3 50 f) := by
  intro p cs hp hl
  obtain ⟨g1, g2, g3, g4⟩ := hg p hp
  refine ng_EvX.ofV (lv := [some (.ref 73), none]) (by decide) (Nat.le_of_ble_eq_true rfl) rfl rfl ?_
  refine ng_aload_0 dX9_sum_0 ?_
  refine ng_callV_0v (y2 := mi_X9_product) dX9_sum_1 lk_X9_171 ms_X9_product my_X9_product (by first | exact ⟨_, rfl⟩ | assumption | exact ng_fld_obj (f := 0) (by assumption)) mc_X9 (by first | decide | exact Nat.le_of_ble_eq_true rfl) (hs p cs hp hl) (by omega) ?_
  cases hx : (f p).1 with
  | true =>
    rw [ng_jn, if_pos hx]
    exact k_X9_sum hc hg hd hs (n := 49) g2 (by simp; omega) (by omega)
  | false =>
    rw [ng_jn, if_neg (by rw [hx]; decide)]
    exact v_X9_sum hc hd g2 ⟨rfl, by rw [hx]; rfl⟩
theorem z_X9_compared {X : Nat × (Nat → Int32)} {M : ng_M} {d : Nat} {F : Option Value → ng_M → Prop} (k : F none M) : ng_Go X mi_X9_compared d 51 [some (.ref 73), some (.int 0)] [] M F := by
  refine ng_iload_1 dX9_compared_51 ?_
  refine ng_if_le 64 dX9_compared_52 (by decide +kernel) (fun h52 => ?_) (fun h52 => ?_)
  · exact ng_return dX9_compared_64 k
  · exact absurd (by decide) h52
theorem v_X9_compared {X : Nat × (Nat → Int32)} {M : ng_M} {H : Nat → Int32} {L d o q : Nat} {u : Int32} {cs : List Int32} {x1 : Option Value} {F : Option Value → ng_M → Prop} (hc : ng_RG M H L u) (hd : 2 ≤ d) (hq : q ≤ L) (k : F none (ng_RF M q cs o true)) : ng_Go X mi_X9_compared (d + 1) 4 [some (.ref 73), x1] [] (ng_RF M q cs o true) F := by
  refine ng_aload_0 dX9_compared_4 ?_
  refine ng_bipush (v := 60) dX9_compared_5 (by decide) ?_
  refine ng_callV_1x (y2 := mi_X9_takes) dX9_compared_7 lk_X9_158 ms_X9_takes my_X9_takes (by first | exact ⟨_, rfl⟩ | assumption | exact ng_fld_obj (f := 0) (by assumption)) mc_X9 (by first | decide | exact Nat.le_of_ble_eq_true rfl) (s_X9_takes hc hq (by decide)) hd ?_
  refine ng_ifb_eq 19 dX9_compared_10 (by decide +kernel) (fun h10 => ?_) (fun h10 => ?_)
  · rw [if_neg (by simp)]
    refine ng_aload_0 dX9_compared_19 ?_
    refine ng_bipush (v := 61) dX9_compared_20 (by decide) ?_
    refine ng_callV_1x (y2 := mi_X9_takes) dX9_compared_22 lk_X9_158 ms_X9_takes my_X9_takes (by first | exact ⟨_, rfl⟩ | assumption | exact ng_fld_obj (f := 0) (by assumption)) mc_X9 (by first | decide | exact Nat.le_of_ble_eq_true rfl) (s_X9_takes hc hq (by decide)) hd ?_
    refine ng_ifb_eq 34 dX9_compared_25 (by decide +kernel) (fun h25 => ?_) (fun h25 => ?_)
    · rw [if_neg (by simp)]
      refine ng_aload_0 dX9_compared_34 ?_
      refine ng_bipush (v := 62) dX9_compared_35 (by decide) ?_
      refine ng_callV_1x (y2 := mi_X9_takes) dX9_compared_37 lk_X9_158 ms_X9_takes my_X9_takes (by first | exact ⟨_, rfl⟩ | assumption | exact ng_fld_obj (f := 0) (by assumption)) mc_X9 (by first | decide | exact Nat.le_of_ble_eq_true rfl) (s_X9_takes hc hq (by decide)) hd ?_
      refine ng_ifb_eq 49 dX9_compared_40 (by decide +kernel) (fun h40 => ?_) (fun h40 => ?_)
      · rw [if_neg (by simp)]
        refine ng_iconst_0 dX9_compared_49 ?_
        refine ng_istore_1 dX9_compared_50 (by first | rfl | assumption) ?_
        exact z_X9_compared k
      · exact absurd h40 (by simp)
    · exact absurd h25 (by simp)
  · exact absurd h10 (by simp)
theorem h_X9_compared {X : Nat × (Nat → Int32)} {M : ng_M} {H : Nat → Int32} {L d o : Nat} {u : Int32} {f : Nat → ng_Rs} {cs0 : List Int32} (hc : ng_RG M H L u) (hg : ng_gd L f) (hd : 2 ≤ d) (hs : ng_KF X M L d mi_X9_sum o f) {q : Nat} {cs : List Int32} {v : Int32} (hv : v = ng_oc (H q)) (hro : ng_ro (H q) = 2) (hl : (cs0 ++ cs).length ≤ q) : ng_Go X mi_X9_compared (d + 1) 51 [some (.ref 73), some (.int v)] [] (ng_RF M (q + 1) (cs0 ++ cs) o false) (fun r' M' => r' = none ∧ M' = ng_RF M (ng_jl H 2 f 1 q cs).2.1 (cs0 ++ (ng_jl H 2 f 1 q cs).2.2) o (!(ng_jl H 2 f 1 q cs).1)) := by
  have hL := hc.1.1
  have h0 : 0 ≤ ng_ro (H q) := by rw [hro]; decide
  have hlt : q < L := hc.1.lt (ng_ro_oc h0).2.2.2.2
  obtain ⟨g1, g2, g3, g4⟩ := hg (q + 1) (by omega)
  refine ng_iload_1 dX9_compared_51 ?_
  refine ng_if_le 64 dX9_compared_52 (by decide +kernel) (fun h52 => ?_) (fun h52 => ?_)
  · exact absurd h52 (by rw [hv]; exact ng_oc_pos h0)
  · refine ng_aload_0 dX9_compared_55 ?_
    refine ng_callV_0v (y2 := mi_X9_sum) dX9_compared_56 lk_X9_168 ms_X9_sum my_X9_sum (by first | exact ⟨_, rfl⟩ | assumption | exact ng_fld_obj (f := 0) (by assumption)) mc_X9 (by first | decide | exact Nat.le_of_ble_eq_true rfl) (hs (q + 1) (cs0 ++ cs) (by omega) (by omega)) (by omega) ?_
    refine ng_aload_0 dX9_compared_59 ?_
    refine ng_iload_1 dX9_compared_60 ?_
    refine ng_callV_1v (y2 := mi_X9_codes) dX9_compared_61 lk_X9_161 ms_X9_codes my_X9_codes (by first | exact ⟨_, rfl⟩ | assumption | exact ng_fld_obj (f := 0) (by assumption)) mc_X9 (by first | decide | exact Nat.le_of_ble_eq_true rfl) (s_X9_codes (by simp at hl ⊢; omega)) (by omega) ?_
    refine ng_return dX9_compared_64 ⟨rfl, ?_⟩
    cases hx : (f (q + 1)).1 with
    | true =>
      rw [ng_jl_ok hro hx, if_neg (by decide), List.append_assoc, List.append_assoc, ← List.append_assoc cs, hv]
      rfl
    | false =>
      rw [if_pos (by decide), ng_jl_bad hro hx, List.append_assoc]
theorem s_X9_compared {X : Nat × (Nat → Int32)} {M : ng_M} {H : Nat → Int32} {L d o : Nat} {u : Int32} {f : Nat → ng_Rs} (hc : ng_RG M H L u) (hg : ng_gd L f) (hd : 2 ≤ d) (hs : ng_KF X M L d mi_X9_sum o f) : ng_KF X M L (d + 1) mi_X9_compared o (ng_jn H 2 1 f) := by
  intro p cs hp hl
  obtain ⟨g1, g2, g3, g4⟩ := hg p hp
  have k4 : ∀ {cs0 : List Int32} {q : Nat} {cs : List Int32} {x1 : Option Value} (_ : q ≤ L) (_ : (cs0 ++ cs).length ≤ q), ng_Go X mi_X9_compared (d + 1) 4 [some (.ref 73), x1] [] (ng_RF M q (cs0 ++ cs) o false) (fun r' M' => r' = none ∧ M' = ng_RF M (ng_jl H 2 f 1 q cs).2.1 (cs0 ++ (ng_jl H 2 f 1 q cs).2.2) o (!(ng_jl H 2 f 1 q cs).1)) := by
    intro cs0 q cs x1 hq hl
    refine ng_aload_0 dX9_compared_4 ?_
    refine ng_bipush (v := 60) dX9_compared_5 (by decide) ?_
    refine ng_callV_1x (y2 := mi_X9_takes) dX9_compared_7 lk_X9_158 ms_X9_takes my_X9_takes (by first | exact ⟨_, rfl⟩ | assumption | exact ng_fld_obj (f := 0) (by assumption)) mc_X9 (by first | decide | exact Nat.le_of_ble_eq_true rfl) (s_X9_takes hc hq (by decide)) hd ?_
    refine ng_ifb_eq 19 dX9_compared_10 (by decide +kernel) (fun h10 => ?_) (fun h10 => ?_)
    · rw [if_neg (by rw [h10]; decide)]
      refine ng_aload_0 dX9_compared_19 ?_
      refine ng_bipush (v := 61) dX9_compared_20 (by decide) ?_
      refine ng_callV_1x (y2 := mi_X9_takes) dX9_compared_22 lk_X9_158 ms_X9_takes my_X9_takes (by first | exact ⟨_, rfl⟩ | assumption | exact ng_fld_obj (f := 0) (by assumption)) mc_X9 (by first | decide | exact Nat.le_of_ble_eq_true rfl) (s_X9_takes hc hq (by decide)) hd ?_
      refine ng_ifb_eq 34 dX9_compared_25 (by decide +kernel) (fun h25 => ?_) (fun h25 => ?_)
      · rw [if_neg (by rw [h25]; decide)]
        refine ng_aload_0 dX9_compared_34 ?_
        refine ng_bipush (v := 62) dX9_compared_35 (by decide) ?_
        refine ng_callV_1x (y2 := mi_X9_takes) dX9_compared_37 lk_X9_158 ms_X9_takes my_X9_takes (by first | exact ⟨_, rfl⟩ | assumption | exact ng_fld_obj (f := 0) (by assumption)) mc_X9 (by first | decide | exact Nat.le_of_ble_eq_true rfl) (s_X9_takes hc hq (by decide)) hd ?_
        refine ng_ifb_eq 49 dX9_compared_40 (by decide +kernel) (fun h40 => ?_) (fun h40 => ?_)
        · rw [if_neg (by rw [h40]; decide)]
          refine ng_iconst_0 dX9_compared_49 ?_
          refine ng_istore_1 dX9_compared_50 (by first | rfl | assumption) ?_
          first
          | (rw [if_pos h10]; have e := ng_take_t h10; exact h_X9_compared hc hg hd hs (by rw [e]; decide) (by rw [e]; decide) hl)
          | (rw [if_pos h25]; have e := ng_take_t h25; exact h_X9_compared hc hg hd hs (by rw [e]; decide) (by rw [e]; decide) hl)
          | (rw [if_pos h40]; have e := ng_take_t h40; exact h_X9_compared hc hg hd hs (by rw [e]; decide) (by rw [e]; decide) hl)
          | exact z_X9_compared ⟨rfl, by rw [ng_jl_no (fun z => (ng_ro2.mp z).elim (ng_take_f h10) (fun z => z.elim (ng_take_f h25) (ng_take_f h40)))]; rfl⟩
        · refine ng_sipush (v := 20004) dX9_compared_43 (by decide) ?_
          refine ng_goto 50 dX9_compared_46 (by decide +kernel) ?_
          refine ng_istore_1 dX9_compared_50 (by first | rfl | assumption) ?_
          first
          | (rw [if_pos h10]; have e := ng_take_t h10; exact h_X9_compared hc hg hd hs (by rw [e]; decide) (by rw [e]; decide) hl)
          | (rw [if_pos h25]; have e := ng_take_t h25; exact h_X9_compared hc hg hd hs (by rw [e]; decide) (by rw [e]; decide) hl)
          | (rw [if_pos h40]; have e := ng_take_t h40; exact h_X9_compared hc hg hd hs (by rw [e]; decide) (by rw [e]; decide) hl)
          | exact z_X9_compared ⟨rfl, by rw [ng_jl_no (fun z => (ng_ro2.mp z).elim (ng_take_f h10) (fun z => z.elim (ng_take_f h25) (ng_take_f h40)))]; rfl⟩
      · refine ng_sipush (v := 20003) dX9_compared_28 (by decide) ?_
        refine ng_goto 50 dX9_compared_31 (by decide +kernel) ?_
        refine ng_istore_1 dX9_compared_50 (by first | rfl | assumption) ?_
        first
        | (rw [if_pos h10]; have e := ng_take_t h10; exact h_X9_compared hc hg hd hs (by rw [e]; decide) (by rw [e]; decide) hl)
        | (rw [if_pos h25]; have e := ng_take_t h25; exact h_X9_compared hc hg hd hs (by rw [e]; decide) (by rw [e]; decide) hl)
        | (rw [if_pos h40]; have e := ng_take_t h40; exact h_X9_compared hc hg hd hs (by rw [e]; decide) (by rw [e]; decide) hl)
        | exact z_X9_compared ⟨rfl, by rw [ng_jl_no (fun z => (ng_ro2.mp z).elim (ng_take_f h10) (fun z => z.elim (ng_take_f h25) (ng_take_f h40)))]; rfl⟩
    · refine ng_sipush (v := 20002) dX9_compared_13 (by decide) ?_
      refine ng_goto 50 dX9_compared_16 (by decide +kernel) ?_
      refine ng_istore_1 dX9_compared_50 (by first | rfl | assumption) ?_
      first
      | (rw [if_pos h10]; have e := ng_take_t h10; exact h_X9_compared hc hg hd hs (by rw [e]; decide) (by rw [e]; decide) hl)
      | (rw [if_pos h25]; have e := ng_take_t h25; exact h_X9_compared hc hg hd hs (by rw [e]; decide) (by rw [e]; decide) hl)
      | (rw [if_pos h40]; have e := ng_take_t h40; exact h_X9_compared hc hg hd hs (by rw [e]; decide) (by rw [e]; decide) hl)
      | exact z_X9_compared ⟨rfl, by rw [ng_jl_no (fun z => (ng_ro2.mp z).elim (ng_take_f h10) (fun z => z.elim (ng_take_f h25) (ng_take_f h40)))]; rfl⟩
  refine ng_EvX.ofV (lv := [some (.ref 73), none]) (by decide) (Nat.le_of_ble_eq_true rfl) rfl rfl ?_
  refine ng_aload_0 dX9_compared_0 ?_
  refine ng_callV_0v (y2 := mi_X9_sum) dX9_compared_1 lk_X9_168 ms_X9_sum my_X9_sum (by first | exact ⟨_, rfl⟩ | assumption | exact ng_fld_obj (f := 0) (by assumption)) mc_X9 (by first | decide | exact Nat.le_of_ble_eq_true rfl) (hs p cs hp hl) (by omega) ?_
  cases hx : (f p).1 with
  | true =>
    rw [ng_jn, if_pos hx]
    exact k4 g2 (by simp; omega)
  | false =>
    rw [ng_jn, if_neg (by rw [hx]; decide)]
    exact v_X9_compared hc hd g2 ⟨rfl, by rw [hx]; rfl⟩
theorem s_X9_tt {X : Nat × (Nat → Int32)} {M : ng_M} {H : Nat → Int32} {L d o : Nat} {u : Int32} {f : Nat → ng_Rs} (hc : ng_RG M H L u) (hg : ng_gd L f) (hd : 2 ≤ d) (hs : ng_KF X M L d mi_X9_one o f) : ng_KF X M L (d + 5) mi_X9_either o (ng_tt H f) := by
  have g4 := ng_gd.jn (lim := 50) (r := 4) hc.1 (by decide) hg
  have c4 := s_X9_product hc hg hd hs
  have g3 := ng_gd.jn (lim := 50) (r := 3) hc.1 (by decide) g4
  have c3 := s_X9_sum hc g4 (by omega) c4
  have g2 := ng_gd.jn (lim := 1) (r := 2) hc.1 (by decide) g3
  have c2 := s_X9_compared hc g3 (by omega) c3
  have g1 := ng_gd.jn (lim := 50) (r := 1) hc.1 (by decide) g2
  have c1 := s_X9_both hc g2 (by omega) c2
  exact s_X9_either hc g1 (by omega) c1
