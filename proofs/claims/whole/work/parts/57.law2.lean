theorem l_law {X : Nat × (Nat → Int32)} (hX : X.1 ≤ 3072) : ∀ (n i : Nat) (M : ng_M), i ≤ X.1 → X.1 < i + n → ng_inv M → ng_Go X mi_L_law 61 18 [some (.ref 1007), some (.ref 0), some (.ref 73), some (.int (nI i))] [] M ng_F1 := by
  intro n
  induction n with
  | zero => intro i M h1 h2; omega
  | succ n ih =>
    intro i M hi hn h
    have e6 : (Int32.ofNat X.1 - 6).toInt = (X.1 : Int) - 6 := by
      have q : (Int32.ofNat X.1).toInt = (X.1 : Int) := nI_toInt (n := X.1) (by omega)
      rw [Int32.toInt_sub, q, show (6 : Int32).toInt = 6 by decide]
      exact Int.bmod_eq_of_le (by omega) (by omega)
    have eI : (nI i).toInt = (i : Int) := nI_toInt (by omega)
    refine ng_iload_3 dL_law_18 ?_
    refine ng_aload_0 dL_law_19 ?_
    refine ng_klen (k := 7) dL_law_20 rfl ?_
    refine ng_bipush (v := 6) dL_law_21 (by decide) ?_
    refine ng_isub dL_law_23 ?_
    refine ng_icmp_gt 1413 dL_law_24 (by decide +kernel) (fun h24 => ?_) (fun h24 => ?_)
    · refine ng_iconst_1 dL_law_1413 ?_
      exact ng_ireturn dL_law_1414 rfl
    · have hle : i + 6 ≤ X.1 := by
        rw [ng_lt, e6, eI] at h24
        omega
      have h6 : ng_six X (nI i) := ⟨vp_in_nI (by omega) (by omega), by rw [nI_1]; exact vp_in_nI (by omega) (by omega), by rw [show (2 : Int32) = nI 2 from rfl, nI_add]; exact vp_in_nI (by omega) (by omega), by rw [show (3 : Int32) = nI 3 from rfl, nI_add]; exact vp_in_nI (by omega) (by omega), by rw [show (4 : Int32) = nI 4 from rfl, nI_add]; exact vp_in_nI (by omega) (by omega), by rw [show (5 : Int32) = nI 5 from rfl, nI_add]; exact vp_in_nI (by omega) (by omega)⟩
      have kk : ∀ M2 : ng_M, ng_inv M2 → ng_Go X mi_L_law 61 1407 [some (.ref 1007), some (.ref 0), some (.ref 73), some (.int (nI i))] [] M2 ng_F1 := by
        intro M2 h2
        refine ng_iinc_3 (w := 6) dL_law_1407 (by decide) rfl ?_
        refine ng_goto 18 dL_law_1410 (by decide +kernel) ?_
        rw [show (6 : Int32) = nI 6 from rfl, nI_add]
        exact ih (i + 6) M2 (by omega) (by omega) h2
      refine ng_aload_0 dL_law_27 ?_
      refine ng_iload_3 dL_law_28 ?_
      refine ng_kld (k := 7) dL_law_29 rfl (by exact h6.1) ?_
      refine ng_bipush (v := 63) dL_law_30 (by decide) ?_
      refine ng_iand dL_law_32 ?_
      refine sw_L_law_33 (fun h33 => ?_) (fun h33 => ?_) (fun h33 => ?_) (fun h33 => ?_) (fun h33 => ?_) (fun h33 => ?_) (fun h33 => ?_) (fun h33 => ?_) (fun h33 => ?_) (fun h33 => ?_) (fun h33 => ?_) (fun h33 => ?_) (fun h33 => ?_) (fun h33 => ?_) (fun h33 => ?_) (fun h33 => ?_) (fun h33 => ?_) (fun h33 => ?_) (fun h33 => ?_) (fun h33 => ?_) (fun h33 => ?_) (fun h33 => ?_) (fun h33 => ?_) (fun h33 => ?_) (fun h33 => ?_) (fun h33 => ?_) (fun h33 => ?_) (fun h33 => ?_) (fun h33 => ?_) (fun h33 => ?_) (fun h33 => ?_) (fun h33 => ?_) (fun h33 => ?_) (fun h33 => ?_) (fun h33 => ?_) (fun h33 => ?_) (fun h33 => ?_) (fun h33n0 h33n1 h33n2 h33n3 h33n4 h33n5 h33n6 h33n7 h33n8 h33n9 h33n10 h33n11 h33n12 h33n13 h33n14 h33n15 h33n16 h33n17 h33n18 h33n19 h33n20 h33n21 h33n22 h33n23 h33n24 h33n25 h33n26 h33n27 h33n28 h33n29 h33n30 h33n31 h33n32 h33n33 h33n34 h33n35 h33n36 => ?_)
      · exact w_law_coins h h6 kk
      · exact w_law_set h h6 kk
      · exact w_law_buyer h h6 kk
      · exact w_law_ofBuyer h h6 kk
      · exact w_law_as h h6 kk
      · exact w_law_has h h6 kk
      · exact w_law_buyers h h6 kk
      · exact w_law_at h h6 kk
      · exact w_law_feed h h6 kk
      · exact w_law_text h h6 kk
      · exact w_law_law h h6 kk
      · exact w_law_year h h6 kk
      · exact w_law_give h h6 kk
      · exact w_law_life h h6 kk
      · exact w_law_then h h6 kk
      · exact w_law_by h h6 kk
      · exact w_law_best h h6 kk
      · exact w_law_never h h6 kk
      · exact w_law_costs h h6 kk
      · exact w_law_raise h h6 kk
      · exact w_law_back h h6 kk
      · exact w_law_whom h h6 kk
      · exact w_law_more h h6 kk
      · exact w_law_rests h h6 kk
      · exact w_law_clear h h6 kk
      · exact w_law_seed h h6 kk
      · exact w_law_voice h h6 kk
      · exact w_law_trace h h6 kk
      · exact w_law_sheet h h6 kk
      · exact w_law_put h h6 kk
      · exact w_law_move h h6 kk
      · exact w_law_image h h6 kk
      · exact w_law_restore h h6 kk
      · exact w_law_tell h h6 kk
      · exact w_law_check h h6 kk
      · exact w_law_count h h6 kk
      · exact w_law_told h h6 kk
      · exact kk M h
