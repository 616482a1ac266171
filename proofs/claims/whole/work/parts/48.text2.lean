/-! ===== texts: the JDK's String, the reference's reader ===== -/
section NgK
variable {X : Nat × (Nat → Int32)} {y : ng_Y} {d pc : Nat} {lv : ng_L} {st : List Value} {M : ng_M} {F : Option Value → ng_M → Prop}
theorem ng_callVK_0x {idx k d' : Nat} {w : Value} {M2 : ng_M} {q : String × String × String × Value} {y2 : ng_Y} (hd : decode y.2.1 pc = .ok (.invokevirtual idx, 3)) (hlink : Cond.methodLink y.1.cls idx y2.1 ∈ ng_G) (hin : Cond.instanceMethod y2.1 ∈ ng_G ∧ Cond.selects y2.1.cls y2.1 y2.1 ∈ ng_G) (hm : ng_MY y2 0) (hs : (q.1, q.2.1, q.2.2.1, q.2.2.2, k) ∈ ng_ofs) (hc : y2.1.cls = "java/lang/String") (hst : (st.map fun v => v.category).sum ≤ 8)
    (he : ng_EvX X d' y2 [.ref k] M (some w) M2) (hdd : d' ≤ d) (kk : ng_Go X y (d + 1) (pc + 3) lv (w :: st) M2 F) : ng_Go X y (d + 1) pc lv (.ref k :: st) M F :=
  ng_callVK (As := []) hd hlink hin hm rfl hs hc hst he hdd (fun r M1 h => by obtain ⟨rfl, rfl⟩ := h; exact kk)
theorem ng_callVK_1x {idx k d' : Nat} {a1 w : Value} {M2 : ng_M} {q : String × String × String × Value} {y2 : ng_Y} (hd : decode y.2.1 pc = .ok (.invokevirtual idx, 3)) (hlink : Cond.methodLink y.1.cls idx y2.1 ∈ ng_G) (hin : Cond.instanceMethod y2.1 ∈ ng_G ∧ Cond.selects y2.1.cls y2.1 y2.1 ∈ ng_G) (hm : ng_MY y2 1) (hs : (q.1, q.2.1, q.2.2.1, q.2.2.2, k) ∈ ng_ofs) (hc : y2.1.cls = "java/lang/String") (hst : (st.map fun v => v.category).sum ≤ 8)
    (he : ng_EvX X d' y2 [.ref k, a1] M (some w) M2) (hdd : d' ≤ d) (kk : ng_Go X y (d + 1) (pc + 3) lv (w :: st) M2 F) : ng_Go X y (d + 1) pc lv (a1 :: .ref k :: st) M F :=
  ng_callVK (As := [a1]) hd hlink hin hm rfl hs hc hst he hdd (fun r M1 h => by obtain ⟨rfl, rfl⟩ := h; exact kk)
end NgK
theorem s_J3_check {X : Nat × (Nat → Int32)} {M : ng_M} {i n : Int32} {w : Value} (hw : w = .null ∨ w = .ref 1020) (h0 : ¬ i < 0) (h1 : i < n) : ng_EvX X 1 mi_J3_checkIndex_8e157 [.int i, .int n, w] M (some (.int i)) M := by
  have hc : w.category = 1 := by rcases hw with rfl | rfl <;> rfl
  rcases hw with rfl | rfl
  all_goals
    refine ng_EvX.ofI (lv := [some (.int i), some (.int n), some _]) (ty := .int) (by decide) (Nat.le_of_ble_eq_true rfl) rfl rfl rfl ?_
    refine ng_iload_0 dJ3_checkIndex_8e157_0 ?_
    refine ng_if_lt 9 dJ3_checkIndex_8e157_1 (by decide +kernel) (fun h1' => ?_) (fun h1' => ?_)
    · exact absurd h1' h0
    · refine ng_iload_0 dJ3_checkIndex_8e157_4 ?_
      refine ng_iload_1 dJ3_checkIndex_8e157_5 ?_
      refine ng_icmp_lt 16 dJ3_checkIndex_8e157_6 (by decide +kernel) (fun h6 => ?_) (fun h6 => ?_)
      · refine ng_iload_0 dJ3_checkIndex_8e157_16 ?_
        exact ng_ireturn dJ3_checkIndex_8e157_17 ⟨rfl, rfl⟩
      · exact absurd h1 h6
theorem s_J0_check {X : Nat × (Nat → Int32)} {M : ng_M} {i n : Int32} (h0 : ¬ i < 0) (h1 : i < n) : ng_EvX X 2 mi_J0_checkIndex_df160 [.int i, .int n] M none M := by
  refine ng_EvX.ofV (lv := [some (.int i), some (.int n)]) (by decide) (Nat.le_of_ble_eq_true rfl) rfl rfl ?_
  refine ng_iload_0 dJ0_checkIndex_df160_0 ?_
  refine ng_iload_1 dJ0_checkIndex_df160_1 ?_
  refine ng_getsQ dJ0_checkIndex_df160_2 fs_J0_1053 ?_ ?_
  · refine ng_callS_3x (y2 := mi_J3_checkIndex_8e157) dJ0_checkIndex_df160_5 lk_J0_1059 ms_J3_checkIndex_8e157 my_J3_checkIndex_8e157 (by first | decide | exact Nat.le_of_ble_eq_true rfl) (s_J3_check (Or.inl rfl) h0 h1) (by decide) ?_
    refine ng_pop dJ0_checkIndex_df160_8 rfl ?_
    exact ng_return dJ0_checkIndex_df160_9 ⟨rfl, rfl⟩
  · refine ng_callS_3x (y2 := mi_J3_checkIndex_8e157) dJ0_checkIndex_df160_5 lk_J0_1059 ms_J3_checkIndex_8e157 my_J3_checkIndex_8e157 (by first | decide | exact Nat.le_of_ble_eq_true rfl) (s_J3_check (Or.inr rfl) h0 h1) (by decide) ?_
    refine ng_pop dJ0_checkIndex_df160_8 rfl ?_
    exact ng_return dJ0_checkIndex_df160_9 ⟨rfl, rfl⟩
theorem s_J0_coder_0 {X : Nat × (Nat → Int32)} {M : ng_M} : ng_EvX X 1 mi_J0_coder_7d493 [.ref 1010] M (some (.int 0)) M := by
  refine ng_EvX.ofI (lv := [some (.ref 1010)]) (ty := .byte) (by decide) (Nat.le_of_ble_eq_true rfl) rfl rfl (by decide) ?_
  refine ng_gets (v := .int 1) dJ0_coder_7d493_0 (by decide) fs_J0_38 ?_
  refine ng_if_eq 13 dJ0_coder_7d493_3 (by decide +kernel) (fun h3 => ?_) (fun h3 => ?_)
  · exact absurd h3 (by decide)
  · refine ng_aload_0 dJ0_coder_7d493_6 ?_
    refine ng_kget dJ0_coder_7d493_7 (by exact (List.Mem.tail _ (List.Mem.head _))) fs_J0_15 ?_
    refine ng_goto 14 dJ0_coder_7d493_10 (by decide +kernel) ?_
    exact ng_ireturn dJ0_coder_7d493_14 ⟨rfl, rfl⟩
theorem s_J0_latin_0 {X : Nat × (Nat → Int32)} {M : ng_M} : ng_EvX X 1 mi_J0_isLatin1_aae02 [.ref 1010] M (some (.int (ng_bi true))) M := by
  refine ng_EvX.ofI (lv := [some (.ref 1010)]) (ty := .boolean) (by decide) (Nat.le_of_ble_eq_true rfl) rfl rfl (ng_bi_nar _) ?_
  refine ng_gets (v := .int 1) dJ0_isLatin1_aae02_0 (by decide) fs_J0_38 ?_
  refine ng_if_eq 17 dJ0_isLatin1_aae02_3 (by decide +kernel) (fun h3 => ?_) (fun h3 => ?_)
  · exact absurd h3 (by decide)
  · refine ng_aload_0 dJ0_isLatin1_aae02_6 ?_
    refine ng_kget dJ0_isLatin1_aae02_7 (by exact (List.Mem.tail _ (List.Mem.head _))) fs_J0_15 ?_
    refine ng_if_ne 17 dJ0_isLatin1_aae02_10 (by decide +kernel) (fun h10 => ?_) (fun h10 => ?_)
    · exact absurd rfl h10
    · refine ng_iconst_1 dJ0_isLatin1_aae02_13 ?_
      refine ng_goto 18 dJ0_isLatin1_aae02_14 (by decide +kernel) ?_
      exact ng_ireturn dJ0_isLatin1_aae02_18 ⟨rfl, rfl⟩
theorem s_J0_length_0 {X : Nat × (Nat → Int32)} {M : ng_M} : ng_EvX X 2 mi_J0_length_8abf5 [.ref 1010] M (some (.int 4)) M := by
  refine ng_EvX.ofI (lv := [some (.ref 1010)]) (ty := .int) (by decide) (Nat.le_of_ble_eq_true rfl) rfl rfl rfl ?_
  refine ng_aload_0 dJ0_length_8abf5_0 ?_
  refine ng_kget dJ0_length_8abf5_1 (by exact (List.Mem.head _)) fs_J0_9 ?_
  refine ng_klen (k := 5) dJ0_length_8abf5_4 rfl ?_
  refine ng_aload_0 dJ0_length_8abf5_5 ?_
  refine ng_callVK_0x (q := ("java/lang/String", "coder", "B", .int 0)) (y2 := mi_J0_coder_7d493) dJ0_length_8abf5_6 lk_J0_335 ms_J0_coder_7d493 my_J0_coder_7d493 (by decide) rfl (by first | decide | exact Nat.le_of_ble_eq_true rfl) (s_J0_coder_0) (by decide) ?_
  refine ng_ishr dJ0_length_8abf5_9 ?_
  exact ng_ireturn dJ0_length_8abf5_10 ⟨by decide, rfl⟩
theorem s_J1_char_0_0 {X : Nat × (Nat → Int32)} {M : ng_M} : ng_EvX X 3 mi_J1_charAt_3b067 [.ref 1005, .int 0] M (some (.int 119)) M := by
  refine ng_EvX.ofI (lv := [some (.ref 1005), some (.int 0)]) (ty := .char) (by decide) (Nat.le_of_ble_eq_true rfl) rfl rfl (by decide) ?_
  refine ng_iload_1 dJ1_charAt_3b067_0 ?_
  refine ng_aload_0 dJ1_charAt_3b067_1 ?_
  refine ng_klen (k := 5) dJ1_charAt_3b067_2 rfl ?_
  refine ng_callS_2v (y2 := mi_J0_checkIndex_df160) dJ1_charAt_3b067_3 lk_J1_9 ms_J0_checkIndex_df160 my_J0_checkIndex_df160 (by first | decide | exact Nat.le_of_ble_eq_true rfl) (s_J0_check (by decide) (by decide)) (by decide) ?_
  refine ng_aload_0 dJ1_charAt_3b067_6 ?_
  refine ng_iload_1 dJ1_charAt_3b067_7 ?_
  refine ng_kldb (k := 5) dJ1_charAt_3b067_8 rfl (by first | assumption | (unfold vp_in; decide)) ?_
  refine ng_sipush (v := 255) dJ1_charAt_3b067_9 (by decide) ?_
  refine ng_iand dJ1_charAt_3b067_12 ?_
  refine ng_i2c dJ1_charAt_3b067_13 ?_
  exact ng_ireturn dJ1_charAt_3b067_14 ⟨by decide, rfl⟩
theorem s_J0_char_0_0 {X : Nat × (Nat → Int32)} {M : ng_M} : ng_EvX X 4 mi_J0_charAt_5068e [.ref 1010, .int 0] M (some (.int 119)) M := by
  refine ng_EvX.ofI (lv := [some (.ref 1010), some (.int 0)]) (ty := .char) (by decide) (Nat.le_of_ble_eq_true rfl) rfl rfl (by decide) ?_
  refine ng_aload_0 dJ0_charAt_5068e_0 ?_
  refine ng_callVK_0x (q := ("java/lang/String", "coder", "B", .int 0)) (y2 := mi_J0_isLatin1_aae02) dJ0_charAt_5068e_1 lk_J0_492 ms_J0_isLatin1_aae02 my_J0_isLatin1_aae02 (by decide) rfl (by first | decide | exact Nat.le_of_ble_eq_true rfl) (s_J0_latin_0) (by decide) ?_
  refine ng_ifb_eq 16 dJ0_charAt_5068e_4 (by decide +kernel) (fun h4 => ?_) (fun h4 => ?_)
  · exact absurd h4 (by decide)
  · refine ng_aload_0 dJ0_charAt_5068e_7 ?_
    refine ng_kget dJ0_charAt_5068e_8 (by exact (List.Mem.head _)) fs_J0_9 ?_
    refine ng_iload_1 dJ0_charAt_5068e_11 ?_
    refine ng_callS_2x (y2 := mi_J1_charAt_3b067) dJ0_charAt_5068e_12 lk_J0_495 ms_J1_charAt_3b067 my_J1_charAt_3b067 (by first | decide | exact Nat.le_of_ble_eq_true rfl) (s_J1_char_0_0) (by decide) ?_
    exact ng_ireturn dJ0_charAt_5068e_15 ⟨rfl, rfl⟩
theorem s_J1_char_0_1 {X : Nat × (Nat → Int32)} {M : ng_M} : ng_EvX X 3 mi_J1_charAt_3b067 [.ref 1005, .int 1] M (some (.int 110)) M := by
  refine ng_EvX.ofI (lv := [some (.ref 1005), some (.int 1)]) (ty := .char) (by decide) (Nat.le_of_ble_eq_true rfl) rfl rfl (by decide) ?_
  refine ng_iload_1 dJ1_charAt_3b067_0 ?_
  refine ng_aload_0 dJ1_charAt_3b067_1 ?_
  refine ng_klen (k := 5) dJ1_charAt_3b067_2 rfl ?_
  refine ng_callS_2v (y2 := mi_J0_checkIndex_df160) dJ1_charAt_3b067_3 lk_J1_9 ms_J0_checkIndex_df160 my_J0_checkIndex_df160 (by first | decide | exact Nat.le_of_ble_eq_true rfl) (s_J0_check (by decide) (by decide)) (by decide) ?_
  refine ng_aload_0 dJ1_charAt_3b067_6 ?_
  refine ng_iload_1 dJ1_charAt_3b067_7 ?_
  refine ng_kldb (k := 5) dJ1_charAt_3b067_8 rfl (by first | assumption | (unfold vp_in; decide)) ?_
  refine ng_sipush (v := 255) dJ1_charAt_3b067_9 (by decide) ?_
  refine ng_iand dJ1_charAt_3b067_12 ?_
  refine ng_i2c dJ1_charAt_3b067_13 ?_
  exact ng_ireturn dJ1_charAt_3b067_14 ⟨by decide, rfl⟩
theorem s_J0_char_0_1 {X : Nat × (Nat → Int32)} {M : ng_M} : ng_EvX X 4 mi_J0_charAt_5068e [.ref 1010, .int 1] M (some (.int 110)) M := by
  refine ng_EvX.ofI (lv := [some (.ref 1010), some (.int 1)]) (ty := .char) (by decide) (Nat.le_of_ble_eq_true rfl) rfl rfl (by decide) ?_
  refine ng_aload_0 dJ0_charAt_5068e_0 ?_
  refine ng_callVK_0x (q := ("java/lang/String", "coder", "B", .int 0)) (y2 := mi_J0_isLatin1_aae02) dJ0_charAt_5068e_1 lk_J0_492 ms_J0_isLatin1_aae02 my_J0_isLatin1_aae02 (by decide) rfl (by first | decide | exact Nat.le_of_ble_eq_true rfl) (s_J0_latin_0) (by decide) ?_
  refine ng_ifb_eq 16 dJ0_charAt_5068e_4 (by decide +kernel) (fun h4 => ?_) (fun h4 => ?_)
  · exact absurd h4 (by decide)
  · refine ng_aload_0 dJ0_charAt_5068e_7 ?_
    refine ng_kget dJ0_charAt_5068e_8 (by exact (List.Mem.head _)) fs_J0_9 ?_
    refine ng_iload_1 dJ0_charAt_5068e_11 ?_
    refine ng_callS_2x (y2 := mi_J1_charAt_3b067) dJ0_charAt_5068e_12 lk_J0_495 ms_J1_charAt_3b067 my_J1_charAt_3b067 (by first | decide | exact Nat.le_of_ble_eq_true rfl) (s_J1_char_0_1) (by decide) ?_
    exact ng_ireturn dJ0_charAt_5068e_15 ⟨rfl, rfl⟩
theorem s_J1_char_0_2 {X : Nat × (Nat → Int32)} {M : ng_M} : ng_EvX X 3 mi_J1_charAt_3b067 [.ref 1005, .int 2] M (some (.int 108)) M := by
  refine ng_EvX.ofI (lv := [some (.ref 1005), some (.int 2)]) (ty := .char) (by decide) (Nat.le_of_ble_eq_true rfl) rfl rfl (by decide) ?_
  refine ng_iload_1 dJ1_charAt_3b067_0 ?_
  refine ng_aload_0 dJ1_charAt_3b067_1 ?_
  refine ng_klen (k := 5) dJ1_charAt_3b067_2 rfl ?_
  refine ng_callS_2v (y2 := mi_J0_checkIndex_df160) dJ1_charAt_3b067_3 lk_J1_9 ms_J0_checkIndex_df160 my_J0_checkIndex_df160 (by first | decide | exact Nat.le_of_ble_eq_true rfl) (s_J0_check (by decide) (by decide)) (by decide) ?_
  refine ng_aload_0 dJ1_charAt_3b067_6 ?_
  refine ng_iload_1 dJ1_charAt_3b067_7 ?_
  refine ng_kldb (k := 5) dJ1_charAt_3b067_8 rfl (by first | assumption | (unfold vp_in; decide)) ?_
  refine ng_sipush (v := 255) dJ1_charAt_3b067_9 (by decide) ?_
  refine ng_iand dJ1_charAt_3b067_12 ?_
  refine ng_i2c dJ1_charAt_3b067_13 ?_
  exact ng_ireturn dJ1_charAt_3b067_14 ⟨by decide, rfl⟩
theorem s_J0_char_0_2 {X : Nat × (Nat → Int32)} {M : ng_M} : ng_EvX X 4 mi_J0_charAt_5068e [.ref 1010, .int 2] M (some (.int 108)) M := by
  refine ng_EvX.ofI (lv := [some (.ref 1010), some (.int 2)]) (ty := .char) (by decide) (Nat.le_of_ble_eq_true rfl) rfl rfl (by decide) ?_
  refine ng_aload_0 dJ0_charAt_5068e_0 ?_
  refine ng_callVK_0x (q := ("java/lang/String", "coder", "B", .int 0)) (y2 := mi_J0_isLatin1_aae02) dJ0_charAt_5068e_1 lk_J0_492 ms_J0_isLatin1_aae02 my_J0_isLatin1_aae02 (by decide) rfl (by first | decide | exact Nat.le_of_ble_eq_true rfl) (s_J0_latin_0) (by decide) ?_
  refine ng_ifb_eq 16 dJ0_charAt_5068e_4 (by decide +kernel) (fun h4 => ?_) (fun h4 => ?_)
  · exact absurd h4 (by decide)
  · refine ng_aload_0 dJ0_charAt_5068e_7 ?_
    refine ng_kget dJ0_charAt_5068e_8 (by exact (List.Mem.head _)) fs_J0_9 ?_
    refine ng_iload_1 dJ0_charAt_5068e_11 ?_
    refine ng_callS_2x (y2 := mi_J1_charAt_3b067) dJ0_charAt_5068e_12 lk_J0_495 ms_J1_charAt_3b067 my_J1_charAt_3b067 (by first | decide | exact Nat.le_of_ble_eq_true rfl) (s_J1_char_0_2) (by decide) ?_
    exact ng_ireturn dJ0_charAt_5068e_15 ⟨rfl, rfl⟩
theorem s_J1_char_0_3 {X : Nat × (Nat → Int32)} {M : ng_M} : ng_EvX X 3 mi_J1_charAt_3b067 [.ref 1005, .int 3] M (some (.int 104)) M := by
  refine ng_EvX.ofI (lv := [some (.ref 1005), some (.int 3)]) (ty := .char) (by decide) (Nat.le_of_ble_eq_true rfl) rfl rfl (by decide) ?_
  refine ng_iload_1 dJ1_charAt_3b067_0 ?_
  refine ng_aload_0 dJ1_charAt_3b067_1 ?_
  refine ng_klen (k := 5) dJ1_charAt_3b067_2 rfl ?_
  refine ng_callS_2v (y2 := mi_J0_checkIndex_df160) dJ1_charAt_3b067_3 lk_J1_9 ms_J0_checkIndex_df160 my_J0_checkIndex_df160 (by first | decide | exact Nat.le_of_ble_eq_true rfl) (s_J0_check (by decide) (by decide)) (by decide) ?_
  refine ng_aload_0 dJ1_charAt_3b067_6 ?_
  refine ng_iload_1 dJ1_charAt_3b067_7 ?_
  refine ng_kldb (k := 5) dJ1_charAt_3b067_8 rfl (by first | assumption | (unfold vp_in; decide)) ?_
  refine ng_sipush (v := 255) dJ1_charAt_3b067_9 (by decide) ?_
  refine ng_iand dJ1_charAt_3b067_12 ?_
  refine ng_i2c dJ1_charAt_3b067_13 ?_
  exact ng_ireturn dJ1_charAt_3b067_14 ⟨by decide, rfl⟩
theorem s_J0_char_0_3 {X : Nat × (Nat → Int32)} {M : ng_M} : ng_EvX X 4 mi_J0_charAt_5068e [.ref 1010, .int 3] M (some (.int 104)) M := by
  refine ng_EvX.ofI (lv := [some (.ref 1010), some (.int 3)]) (ty := .char) (by decide) (Nat.le_of_ble_eq_true rfl) rfl rfl (by decide) ?_
  refine ng_aload_0 dJ0_charAt_5068e_0 ?_
  refine ng_callVK_0x (q := ("java/lang/String", "coder", "B", .int 0)) (y2 := mi_J0_isLatin1_aae02) dJ0_charAt_5068e_1 lk_J0_492 ms_J0_isLatin1_aae02 my_J0_isLatin1_aae02 (by decide) rfl (by first | decide | exact Nat.le_of_ble_eq_true rfl) (s_J0_latin_0) (by decide) ?_
  refine ng_ifb_eq 16 dJ0_charAt_5068e_4 (by decide +kernel) (fun h4 => ?_) (fun h4 => ?_)
  · exact absurd h4 (by decide)
  · refine ng_aload_0 dJ0_charAt_5068e_7 ?_
    refine ng_kget dJ0_charAt_5068e_8 (by exact (List.Mem.head _)) fs_J0_9 ?_
    refine ng_iload_1 dJ0_charAt_5068e_11 ?_
    refine ng_callS_2x (y2 := mi_J1_charAt_3b067) dJ0_charAt_5068e_12 lk_J0_495 ms_J1_charAt_3b067 my_J1_charAt_3b067 (by first | decide | exact Nat.le_of_ble_eq_true rfl) (s_J1_char_0_3) (by decide) ?_
    exact ng_ireturn dJ0_charAt_5068e_15 ⟨rfl, rfl⟩
theorem l_X9_nameOf_0_4 {X : Nat × (Nat → Int32)} {M : ng_M} {c v : Int32} (h9 : M 73 9 = 0) : ng_Go X mi_X9_nameOf 5 4 [some (.ref 73), some (.int c), some (.int v), some (.int 4)] [] M (fun r' M' => r' = some (.int v) ∧ M' = M) := by
  refine ng_iload_3 dX9_nameOf_4 ?_
  refine ng_aload_0 dX9_nameOf_5 ?_
  refine ng_gR dX9_nameOf_6 fl_X9_32 (by first | rfl | assumption) ?_
  refine ng_aload_0 dX9_nameOf_9 ?_
  refine ng_gI dX9_nameOf_10 fl_X9_177 (by first | rfl | assumption) ?_
  rw [h9]
  refine ng_aald dX9_nameOf_13 (by first | rfl | assumption) (by decide) (by unfold vp_in; decide) (by exact (by decide : ([1010, 1011] : List Nat)[(0 : Int32).toNatClampNeg]? = some 1010)) ?_
  refine ng_callVK_0x (q := ("java/lang/String", "coder", "B", .int 0)) (y2 := mi_J0_length_8abf5) dX9_nameOf_14 lk_X9_180 ms_J0_length_8abf5 my_J0_length_8abf5 (by decide) rfl (by first | decide | exact Nat.le_of_ble_eq_true rfl) (s_J0_length_0) (by decide) ?_
  refine ng_icmp_ge 49 dX9_nameOf_17 (by decide +kernel) (fun h17 => ?_) (fun h17 => ?_)
  · refine ng_iload_2 dX9_nameOf_49 ?_
    exact ng_ireturn dX9_nameOf_50 ⟨rfl, rfl⟩
  · exact absurd (by decide) h17
theorem l_X9_nameOf_0_3 {X : Nat × (Nat → Int32)} {M : ng_M} {c v : Int32} (h9 : M 73 9 = 0) : ng_Go X mi_X9_nameOf 5 4 [some (.ref 73), some (.int c), some (.int v), some (.int 3)] [] M (fun r' M' => r' = some (.int ((if (104 : Int32) = c then 3 else v))) ∧ M' = M) := by
  refine ng_iload_3 dX9_nameOf_4 ?_
  refine ng_aload_0 dX9_nameOf_5 ?_
  refine ng_gR dX9_nameOf_6 fl_X9_32 (by first | rfl | assumption) ?_
  refine ng_aload_0 dX9_nameOf_9 ?_
  refine ng_gI dX9_nameOf_10 fl_X9_177 (by first | rfl | assumption) ?_
  rw [h9]
  refine ng_aald dX9_nameOf_13 (by first | rfl | assumption) (by decide) (by unfold vp_in; decide) (by exact (by decide : ([1010, 1011] : List Nat)[(0 : Int32).toNatClampNeg]? = some 1010)) ?_
  refine ng_callVK_0x (q := ("java/lang/String", "coder", "B", .int 0)) (y2 := mi_J0_length_8abf5) dX9_nameOf_14 lk_X9_180 ms_J0_length_8abf5 my_J0_length_8abf5 (by decide) rfl (by first | decide | exact Nat.le_of_ble_eq_true rfl) (s_J0_length_0) (by decide) ?_
  refine ng_icmp_ge 49 dX9_nameOf_17 (by decide +kernel) (fun h17 => ?_) (fun h17 => ?_)
  · exact absurd h17 (by decide)
  · refine ng_aload_0 dX9_nameOf_20 ?_
    refine ng_gR dX9_nameOf_21 fl_X9_32 (by first | rfl | assumption) ?_
    refine ng_aload_0 dX9_nameOf_24 ?_
    refine ng_gI dX9_nameOf_25 fl_X9_177 (by first | rfl | assumption) ?_
    rw [h9]
    refine ng_aald dX9_nameOf_28 (by first | rfl | assumption) (by decide) (by unfold vp_in; decide) (by exact (by decide : ([1010, 1011] : List Nat)[(0 : Int32).toNatClampNeg]? = some 1010)) ?_
    refine ng_iload_3 dX9_nameOf_29 ?_
    refine ng_callVK_1x (q := ("java/lang/String", "coder", "B", .int 0)) (y2 := mi_J0_charAt_5068e) dX9_nameOf_30 lk_X9_183 ms_J0_charAt_5068e my_J0_charAt_5068e (by decide) rfl (by first | decide | exact Nat.le_of_ble_eq_true rfl) (s_J0_char_0_3) (by decide) ?_
    refine ng_iload_1 dX9_nameOf_33 ?_
    refine ng_icmp_ne 41 dX9_nameOf_34 (by decide +kernel) (fun h34 => ?_) (fun h34 => ?_)
    · refine ng_iload_2 dX9_nameOf_41 ?_
      refine ng_istore_2 dX9_nameOf_42 (by first | rfl | assumption) ?_
      refine ng_iinc_3 (w := 1) dX9_nameOf_43 (by decide) rfl ?_
      refine ng_goto 4 dX9_nameOf_46 (by decide +kernel) ?_
      rw [show (3 : Int32) + 1 = 4 by decide]
      first
      | (have z := l_X9_nameOf_0_4 (X := X) (M := M) (c := c) (v := v) h9
         rw [if_neg h34]
         exact z)
      | (have z := l_X9_nameOf_0_4 (X := X) (M := M) (c := c) (v := 3) h9
         rw [if_pos h34]
         exact z)
    · refine ng_iload_3 dX9_nameOf_37 ?_
      refine ng_goto 42 dX9_nameOf_38 (by decide +kernel) ?_
      refine ng_istore_2 dX9_nameOf_42 (by first | rfl | assumption) ?_
      refine ng_iinc_3 (w := 1) dX9_nameOf_43 (by decide) rfl ?_
      refine ng_goto 4 dX9_nameOf_46 (by decide +kernel) ?_
      rw [show (3 : Int32) + 1 = 4 by decide]
      first
      | (have z := l_X9_nameOf_0_4 (X := X) (M := M) (c := c) (v := v) h9
         rw [if_neg h34]
         exact z)
      | (have z := l_X9_nameOf_0_4 (X := X) (M := M) (c := c) (v := 3) h9
         rw [if_pos h34]
         exact z)
theorem l_X9_nameOf_0_2 {X : Nat × (Nat → Int32)} {M : ng_M} {c v : Int32} (h9 : M 73 9 = 0) : ng_Go X mi_X9_nameOf 5 4 [some (.ref 73), some (.int c), some (.int v), some (.int 2)] [] M (fun r' M' => r' = some (.int ((if (104 : Int32) = c then 3 else (if (108 : Int32) = c then 2 else v)))) ∧ M' = M) := by
  refine ng_iload_3 dX9_nameOf_4 ?_
  refine ng_aload_0 dX9_nameOf_5 ?_
  refine ng_gR dX9_nameOf_6 fl_X9_32 (by first | rfl | assumption) ?_
  refine ng_aload_0 dX9_nameOf_9 ?_
  refine ng_gI dX9_nameOf_10 fl_X9_177 (by first | rfl | assumption) ?_
  rw [h9]
  refine ng_aald dX9_nameOf_13 (by first | rfl | assumption) (by decide) (by unfold vp_in; decide) (by exact (by decide : ([1010, 1011] : List Nat)[(0 : Int32).toNatClampNeg]? = some 1010)) ?_
  refine ng_callVK_0x (q := ("java/lang/String", "coder", "B", .int 0)) (y2 := mi_J0_length_8abf5) dX9_nameOf_14 lk_X9_180 ms_J0_length_8abf5 my_J0_length_8abf5 (by decide) rfl (by first | decide | exact Nat.le_of_ble_eq_true rfl) (s_J0_length_0) (by decide) ?_
  refine ng_icmp_ge 49 dX9_nameOf_17 (by decide +kernel) (fun h17 => ?_) (fun h17 => ?_)
  · exact absurd h17 (by decide)
  · refine ng_aload_0 dX9_nameOf_20 ?_
    refine ng_gR dX9_nameOf_21 fl_X9_32 (by first | rfl | assumption) ?_
    refine ng_aload_0 dX9_nameOf_24 ?_
    refine ng_gI dX9_nameOf_25 fl_X9_177 (by first | rfl | assumption) ?_
    rw [h9]
    refine ng_aald dX9_nameOf_28 (by first | rfl | assumption) (by decide) (by unfold vp_in; decide) (by exact (by decide : ([1010, 1011] : List Nat)[(0 : Int32).toNatClampNeg]? = some 1010)) ?_
    refine ng_iload_3 dX9_nameOf_29 ?_
    refine ng_callVK_1x (q := ("java/lang/String", "coder", "B", .int 0)) (y2 := mi_J0_charAt_5068e) dX9_nameOf_30 lk_X9_183 ms_J0_charAt_5068e my_J0_charAt_5068e (by decide) rfl (by first | decide | exact Nat.le_of_ble_eq_true rfl) (s_J0_char_0_2) (by decide) ?_
    refine ng_iload_1 dX9_nameOf_33 ?_
    refine ng_icmp_ne 41 dX9_nameOf_34 (by decide +kernel) (fun h34 => ?_) (fun h34 => ?_)
    · refine ng_iload_2 dX9_nameOf_41 ?_
      refine ng_istore_2 dX9_nameOf_42 (by first | rfl | assumption) ?_
      refine ng_iinc_3 (w := 1) dX9_nameOf_43 (by decide) rfl ?_
      refine ng_goto 4 dX9_nameOf_46 (by decide +kernel) ?_
      rw [show (2 : Int32) + 1 = 3 by decide]
      first
      | (have z := l_X9_nameOf_0_3 (X := X) (M := M) (c := c) (v := v) h9
         rw [if_neg h34]
         exact z)
      | (have z := l_X9_nameOf_0_3 (X := X) (M := M) (c := c) (v := 2) h9
         rw [if_pos h34]
         exact z)
    · refine ng_iload_3 dX9_nameOf_37 ?_
      refine ng_goto 42 dX9_nameOf_38 (by decide +kernel) ?_
      refine ng_istore_2 dX9_nameOf_42 (by first | rfl | assumption) ?_
      refine ng_iinc_3 (w := 1) dX9_nameOf_43 (by decide) rfl ?_
      refine ng_goto 4 dX9_nameOf_46 (by decide +kernel) ?_
      rw [show (2 : Int32) + 1 = 3 by decide]
      first
      | (have z := l_X9_nameOf_0_3 (X := X) (M := M) (c := c) (v := v) h9
         rw [if_neg h34]
         exact z)
      | (have z := l_X9_nameOf_0_3 (X := X) (M := M) (c := c) (v := 2) h9
         rw [if_pos h34]
         exact z)
theorem l_X9_nameOf_0_1 {X : Nat × (Nat → Int32)} {M : ng_M} {c v : Int32} (h9 : M 73 9 = 0) : ng_Go X mi_X9_nameOf 5 4 [some (.ref 73), some (.int c), some (.int v), some (.int 1)] [] M (fun r' M' => r' = some (.int ((if (104 : Int32) = c then 3 else (if (108 : Int32) = c then 2 else (if (110 : Int32) = c then 1 else v))))) ∧ M' = M) := by
  refine ng_iload_3 dX9_nameOf_4 ?_
  refine ng_aload_0 dX9_nameOf_5 ?_
  refine ng_gR dX9_nameOf_6 fl_X9_32 (by first | rfl | assumption) ?_
  refine ng_aload_0 dX9_nameOf_9 ?_
  refine ng_gI dX9_nameOf_10 fl_X9_177 (by first | rfl | assumption) ?_
  rw [h9]
  refine ng_aald dX9_nameOf_13 (by first | rfl | assumption) (by decide) (by unfold vp_in; decide) (by exact (by decide : ([1010, 1011] : List Nat)[(0 : Int32).toNatClampNeg]? = some 1010)) ?_
  refine ng_callVK_0x (q := ("java/lang/String", "coder", "B", .int 0)) (y2 := mi_J0_length_8abf5) dX9_nameOf_14 lk_X9_180 ms_J0_length_8abf5 my_J0_length_8abf5 (by decide) rfl (by first | decide | exact Nat.le_of_ble_eq_true rfl) (s_J0_length_0) (by decide) ?_
  refine ng_icmp_ge 49 dX9_nameOf_17 (by decide +kernel) (fun h17 => ?_) (fun h17 => ?_)
  · exact absurd h17 (by decide)
  · refine ng_aload_0 dX9_nameOf_20 ?_
    refine ng_gR dX9_nameOf_21 fl_X9_32 (by first | rfl | assumption) ?_
    refine ng_aload_0 dX9_nameOf_24 ?_
    refine ng_gI dX9_nameOf_25 fl_X9_177 (by first | rfl | assumption) ?_
    rw [h9]
    refine ng_aald dX9_nameOf_28 (by first | rfl | assumption) (by decide) (by unfold vp_in; decide) (by exact (by decide : ([1010, 1011] : List Nat)[(0 : Int32).toNatClampNeg]? = some 1010)) ?_
    refine ng_iload_3 dX9_nameOf_29 ?_
    refine ng_callVK_1x (q := ("java/lang/String", "coder", "B", .int 0)) (y2 := mi_J0_charAt_5068e) dX9_nameOf_30 lk_X9_183 ms_J0_charAt_5068e my_J0_charAt_5068e (by decide) rfl (by first | decide | exact Nat.le_of_ble_eq_true rfl) (s_J0_char_0_1) (by decide) ?_
    refine ng_iload_1 dX9_nameOf_33 ?_
    refine ng_icmp_ne 41 dX9_nameOf_34 (by decide +kernel) (fun h34 => ?_) (fun h34 => ?_)
    · refine ng_iload_2 dX9_nameOf_41 ?_
      refine ng_istore_2 dX9_nameOf_42 (by first | rfl | assumption) ?_
      refine ng_iinc_3 (w := 1) dX9_nameOf_43 (by decide) rfl ?_
      refine ng_goto 4 dX9_nameOf_46 (by decide +kernel) ?_
      rw [show (1 : Int32) + 1 = 2 by decide]
      first
      | (have z := l_X9_nameOf_0_2 (X := X) (M := M) (c := c) (v := v) h9
         rw [if_neg h34]
         exact z)
      | (have z := l_X9_nameOf_0_2 (X := X) (M := M) (c := c) (v := 1) h9
         rw [if_pos h34]
         exact z)
    · refine ng_iload_3 dX9_nameOf_37 ?_
      refine ng_goto 42 dX9_nameOf_38 (by decide +kernel) ?_
      refine ng_istore_2 dX9_nameOf_42 (by first | rfl | assumption) ?_
      refine ng_iinc_3 (w := 1) dX9_nameOf_43 (by decide) rfl ?_
      refine ng_goto 4 dX9_nameOf_46 (by decide +kernel) ?_
      rw [show (1 : Int32) + 1 = 2 by decide]
      first
      | (have z := l_X9_nameOf_0_2 (X := X) (M := M) (c := c) (v := v) h9
         rw [if_neg h34]
         exact z)
      | (have z := l_X9_nameOf_0_2 (X := X) (M := M) (c := c) (v := 1) h9
         rw [if_pos h34]
         exact z)
theorem l_X9_nameOf_0_0 {X : Nat × (Nat → Int32)} {M : ng_M} {c v : Int32} (h9 : M 73 9 = 0) : ng_Go X mi_X9_nameOf 5 4 [some (.ref 73), some (.int c), some (.int v), some (.int 0)] [] M (fun r' M' => r' = some (.int ((if (104 : Int32) = c then 3 else (if (108 : Int32) = c then 2 else (if (110 : Int32) = c then 1 else (if (119 : Int32) = c then 0 else v)))))) ∧ M' = M) := by
  refine ng_iload_3 dX9_nameOf_4 ?_
  refine ng_aload_0 dX9_nameOf_5 ?_
  refine ng_gR dX9_nameOf_6 fl_X9_32 (by first | rfl | assumption) ?_
  refine ng_aload_0 dX9_nameOf_9 ?_
  refine ng_gI dX9_nameOf_10 fl_X9_177 (by first | rfl | assumption) ?_
  rw [h9]
  refine ng_aald dX9_nameOf_13 (by first | rfl | assumption) (by decide) (by unfold vp_in; decide) (by exact (by decide : ([1010, 1011] : List Nat)[(0 : Int32).toNatClampNeg]? = some 1010)) ?_
  refine ng_callVK_0x (q := ("java/lang/String", "coder", "B", .int 0)) (y2 := mi_J0_length_8abf5) dX9_nameOf_14 lk_X9_180 ms_J0_length_8abf5 my_J0_length_8abf5 (by decide) rfl (by first | decide | exact Nat.le_of_ble_eq_true rfl) (s_J0_length_0) (by decide) ?_
  refine ng_icmp_ge 49 dX9_nameOf_17 (by decide +kernel) (fun h17 => ?_) (fun h17 => ?_)
  · exact absurd h17 (by decide)
  · refine ng_aload_0 dX9_nameOf_20 ?_
    refine ng_gR dX9_nameOf_21 fl_X9_32 (by first | rfl | assumption) ?_
    refine ng_aload_0 dX9_nameOf_24 ?_
    refine ng_gI dX9_nameOf_25 fl_X9_177 (by first | rfl | assumption) ?_
    rw [h9]
    refine ng_aald dX9_nameOf_28 (by first | rfl | assumption) (by decide) (by unfold vp_in; decide) (by exact (by decide : ([1010, 1011] : List Nat)[(0 : Int32).toNatClampNeg]? = some 1010)) ?_
    refine ng_iload_3 dX9_nameOf_29 ?_
    refine ng_callVK_1x (q := ("java/lang/String", "coder", "B", .int 0)) (y2 := mi_J0_charAt_5068e) dX9_nameOf_30 lk_X9_183 ms_J0_charAt_5068e my_J0_charAt_5068e (by decide) rfl (by first | decide | exact Nat.le_of_ble_eq_true rfl) (s_J0_char_0_0) (by decide) ?_
    refine ng_iload_1 dX9_nameOf_33 ?_
    refine ng_icmp_ne 41 dX9_nameOf_34 (by decide +kernel) (fun h34 => ?_) (fun h34 => ?_)
    · refine ng_iload_2 dX9_nameOf_41 ?_
      refine ng_istore_2 dX9_nameOf_42 (by first | rfl | assumption) ?_
      refine ng_iinc_3 (w := 1) dX9_nameOf_43 (by decide) rfl ?_
      refine ng_goto 4 dX9_nameOf_46 (by decide +kernel) ?_
      rw [show (0 : Int32) + 1 = 1 by decide]
      first
      | (have z := l_X9_nameOf_0_1 (X := X) (M := M) (c := c) (v := v) h9
         rw [if_neg h34]
         exact z)
      | (have z := l_X9_nameOf_0_1 (X := X) (M := M) (c := c) (v := 0) h9
         rw [if_pos h34]
         exact z)
    · refine ng_iload_3 dX9_nameOf_37 ?_
      refine ng_goto 42 dX9_nameOf_38 (by decide +kernel) ?_
      refine ng_istore_2 dX9_nameOf_42 (by first | rfl | assumption) ?_
      refine ng_iinc_3 (w := 1) dX9_nameOf_43 (by decide) rfl ?_
      refine ng_goto 4 dX9_nameOf_46 (by decide +kernel) ?_
      rw [show (0 : Int32) + 1 = 1 by decide]
      first
      | (have z := l_X9_nameOf_0_1 (X := X) (M := M) (c := c) (v := v) h9
         rw [if_neg h34]
         exact z)
      | (have z := l_X9_nameOf_0_1 (X := X) (M := M) (c := c) (v := 0) h9
         rw [if_pos h34]
         exact z)
theorem s_J0_coder_1 {X : Nat × (Nat → Int32)} {M : ng_M} : ng_EvX X 1 mi_J0_coder_7d493 [.ref 1011] M (some (.int 0)) M := by
  refine ng_EvX.ofI (lv := [some (.ref 1011)]) (ty := .byte) (by decide) (Nat.le_of_ble_eq_true rfl) rfl rfl (by decide) ?_
  refine ng_gets (v := .int 1) dJ0_coder_7d493_0 (by decide) fs_J0_38 ?_
  refine ng_if_eq 13 dJ0_coder_7d493_3 (by decide +kernel) (fun h3 => ?_) (fun h3 => ?_)
  · exact absurd h3 (by decide)
  · refine ng_aload_0 dJ0_coder_7d493_6 ?_
    refine ng_kget dJ0_coder_7d493_7 (by exact (List.Mem.tail _ (List.Mem.tail _ (List.Mem.tail _ (List.Mem.head _))))) fs_J0_15 ?_
    refine ng_goto 14 dJ0_coder_7d493_10 (by decide +kernel) ?_
    exact ng_ireturn dJ0_coder_7d493_14 ⟨rfl, rfl⟩
theorem s_J0_latin_1 {X : Nat × (Nat → Int32)} {M : ng_M} : ng_EvX X 1 mi_J0_isLatin1_aae02 [.ref 1011] M (some (.int (ng_bi true))) M := by
  refine ng_EvX.ofI (lv := [some (.ref 1011)]) (ty := .boolean) (by decide) (Nat.le_of_ble_eq_true rfl) rfl rfl (ng_bi_nar _) ?_
  refine ng_gets (v := .int 1) dJ0_isLatin1_aae02_0 (by decide) fs_J0_38 ?_
  refine ng_if_eq 17 dJ0_isLatin1_aae02_3 (by decide +kernel) (fun h3 => ?_) (fun h3 => ?_)
  · exact absurd h3 (by decide)
  · refine ng_aload_0 dJ0_isLatin1_aae02_6 ?_
    refine ng_kget dJ0_isLatin1_aae02_7 (by exact (List.Mem.tail _ (List.Mem.tail _ (List.Mem.tail _ (List.Mem.head _))))) fs_J0_15 ?_
    refine ng_if_ne 17 dJ0_isLatin1_aae02_10 (by decide +kernel) (fun h10 => ?_) (fun h10 => ?_)
    · exact absurd rfl h10
    · refine ng_iconst_1 dJ0_isLatin1_aae02_13 ?_
      refine ng_goto 18 dJ0_isLatin1_aae02_14 (by decide +kernel) ?_
      exact ng_ireturn dJ0_isLatin1_aae02_18 ⟨rfl, rfl⟩
theorem s_J0_length_1 {X : Nat × (Nat → Int32)} {M : ng_M} : ng_EvX X 2 mi_J0_length_8abf5 [.ref 1011] M (some (.int 4)) M := by
  refine ng_EvX.ofI (lv := [some (.ref 1011)]) (ty := .int) (by decide) (Nat.le_of_ble_eq_true rfl) rfl rfl rfl ?_
  refine ng_aload_0 dJ0_length_8abf5_0 ?_
  refine ng_kget dJ0_length_8abf5_1 (by exact (List.Mem.tail _ (List.Mem.tail _ (List.Mem.head _)))) fs_J0_9 ?_
  refine ng_klen (k := 6) dJ0_length_8abf5_4 rfl ?_
  refine ng_aload_0 dJ0_length_8abf5_5 ?_
  refine ng_callVK_0x (q := ("java/lang/String", "coder", "B", .int 0)) (y2 := mi_J0_coder_7d493) dJ0_length_8abf5_6 lk_J0_335 ms_J0_coder_7d493 my_J0_coder_7d493 (by decide) rfl (by first | decide | exact Nat.le_of_ble_eq_true rfl) (s_J0_coder_1) (by decide) ?_
  refine ng_ishr dJ0_length_8abf5_9 ?_
  exact ng_ireturn dJ0_length_8abf5_10 ⟨by decide, rfl⟩
theorem s_J1_char_1_0 {X : Nat × (Nat → Int32)} {M : ng_M} : ng_EvX X 3 mi_J1_charAt_3b067 [.ref 1006, .int 0] M (some (.int 115)) M := by
  refine ng_EvX.ofI (lv := [some (.ref 1006), some (.int 0)]) (ty := .char) (by decide) (Nat.le_of_ble_eq_true rfl) rfl rfl (by decide) ?_
  refine ng_iload_1 dJ1_charAt_3b067_0 ?_
  refine ng_aload_0 dJ1_charAt_3b067_1 ?_
  refine ng_klen (k := 6) dJ1_charAt_3b067_2 rfl ?_
  refine ng_callS_2v (y2 := mi_J0_checkIndex_df160) dJ1_charAt_3b067_3 lk_J1_9 ms_J0_checkIndex_df160 my_J0_checkIndex_df160 (by first | decide | exact Nat.le_of_ble_eq_true rfl) (s_J0_check (by decide) (by decide)) (by decide) ?_
  refine ng_aload_0 dJ1_charAt_3b067_6 ?_
  refine ng_iload_1 dJ1_charAt_3b067_7 ?_
  refine ng_kldb (k := 6) dJ1_charAt_3b067_8 rfl (by first | assumption | (unfold vp_in; decide)) ?_
  refine ng_sipush (v := 255) dJ1_charAt_3b067_9 (by decide) ?_
  refine ng_iand dJ1_charAt_3b067_12 ?_
  refine ng_i2c dJ1_charAt_3b067_13 ?_
  exact ng_ireturn dJ1_charAt_3b067_14 ⟨by decide, rfl⟩
theorem s_J0_char_1_0 {X : Nat × (Nat → Int32)} {M : ng_M} : ng_EvX X 4 mi_J0_charAt_5068e [.ref 1011, .int 0] M (some (.int 115)) M := by
  refine ng_EvX.ofI (lv := [some (.ref 1011), some (.int 0)]) (ty := .char) (by decide) (Nat.le_of_ble_eq_true rfl) rfl rfl (by decide) ?_
  refine ng_aload_0 dJ0_charAt_5068e_0 ?_
  refine ng_callVK_0x (q := ("java/lang/String", "coder", "B", .int 0)) (y2 := mi_J0_isLatin1_aae02) dJ0_charAt_5068e_1 lk_J0_492 ms_J0_isLatin1_aae02 my_J0_isLatin1_aae02 (by decide) rfl (by first | decide | exact Nat.le_of_ble_eq_true rfl) (s_J0_latin_1) (by decide) ?_
  refine ng_ifb_eq 16 dJ0_charAt_5068e_4 (by decide +kernel) (fun h4 => ?_) (fun h4 => ?_)
  · exact absurd h4 (by decide)
  · refine ng_aload_0 dJ0_charAt_5068e_7 ?_
    refine ng_kget dJ0_charAt_5068e_8 (by exact (List.Mem.tail _ (List.Mem.tail _ (List.Mem.head _)))) fs_J0_9 ?_
    refine ng_iload_1 dJ0_charAt_5068e_11 ?_
    refine ng_callS_2x (y2 := mi_J1_charAt_3b067) dJ0_charAt_5068e_12 lk_J0_495 ms_J1_charAt_3b067 my_J1_charAt_3b067 (by first | decide | exact Nat.le_of_ble_eq_true rfl) (s_J1_char_1_0) (by decide) ?_
    exact ng_ireturn dJ0_charAt_5068e_15 ⟨rfl, rfl⟩
theorem s_J1_char_1_1 {X : Nat × (Nat → Int32)} {M : ng_M} : ng_EvX X 3 mi_J1_charAt_3b067 [.ref 1006, .int 1] M (some (.int 107)) M := by
  refine ng_EvX.ofI (lv := [some (.ref 1006), some (.int 1)]) (ty := .char) (by decide) (Nat.le_of_ble_eq_true rfl) rfl rfl (by decide) ?_
  refine ng_iload_1 dJ1_charAt_3b067_0 ?_
  refine ng_aload_0 dJ1_charAt_3b067_1 ?_
  refine ng_klen (k := 6) dJ1_charAt_3b067_2 rfl ?_
  refine ng_callS_2v (y2 := mi_J0_checkIndex_df160) dJ1_charAt_3b067_3 lk_J1_9 ms_J0_checkIndex_df160 my_J0_checkIndex_df160 (by first | decide | exact Nat.le_of_ble_eq_true rfl) (s_J0_check (by decide) (by decide)) (by decide) ?_
  refine ng_aload_0 dJ1_charAt_3b067_6 ?_
  refine ng_iload_1 dJ1_charAt_3b067_7 ?_
  refine ng_kldb (k := 6) dJ1_charAt_3b067_8 rfl (by first | assumption | (unfold vp_in; decide)) ?_
  refine ng_sipush (v := 255) dJ1_charAt_3b067_9 (by decide) ?_
  refine ng_iand dJ1_charAt_3b067_12 ?_
  refine ng_i2c dJ1_charAt_3b067_13 ?_
  exact ng_ireturn dJ1_charAt_3b067_14 ⟨by decide, rfl⟩
theorem s_J0_char_1_1 {X : Nat × (Nat → Int32)} {M : ng_M} : ng_EvX X 4 mi_J0_charAt_5068e [.ref 1011, .int 1] M (some (.int 107)) M := by
  refine ng_EvX.ofI (lv := [some (.ref 1011), some (.int 1)]) (ty := .char) (by decide) (Nat.le_of_ble_eq_true rfl) rfl rfl (by decide) ?_
  refine ng_aload_0 dJ0_charAt_5068e_0 ?_
  refine ng_callVK_0x (q := ("java/lang/String", "coder", "B", .int 0)) (y2 := mi_J0_isLatin1_aae02) dJ0_charAt_5068e_1 lk_J0_492 ms_J0_isLatin1_aae02 my_J0_isLatin1_aae02 (by decide) rfl (by first | decide | exact Nat.le_of_ble_eq_true rfl) (s_J0_latin_1) (by decide) ?_
  refine ng_ifb_eq 16 dJ0_charAt_5068e_4 (by decide +kernel) (fun h4 => ?_) (fun h4 => ?_)
  · exact absurd h4 (by decide)
  · refine ng_aload_0 dJ0_charAt_5068e_7 ?_
    refine ng_kget dJ0_charAt_5068e_8 (by exact (List.Mem.tail _ (List.Mem.tail _ (List.Mem.head _)))) fs_J0_9 ?_
    refine ng_iload_1 dJ0_charAt_5068e_11 ?_
    refine ng_callS_2x (y2 := mi_J1_charAt_3b067) dJ0_charAt_5068e_12 lk_J0_495 ms_J1_charAt_3b067 my_J1_charAt_3b067 (by first | decide | exact Nat.le_of_ble_eq_true rfl) (s_J1_char_1_1) (by decide) ?_
    exact ng_ireturn dJ0_charAt_5068e_15 ⟨rfl, rfl⟩
theorem s_J1_char_1_2 {X : Nat × (Nat → Int32)} {M : ng_M} : ng_EvX X 3 mi_J1_charAt_3b067 [.ref 1006, .int 2] M (some (.int 110)) M := by
  refine ng_EvX.ofI (lv := [some (.ref 1006), some (.int 2)]) (ty := .char) (by decide) (Nat.le_of_ble_eq_true rfl) rfl rfl (by decide) ?_
  refine ng_iload_1 dJ1_charAt_3b067_0 ?_
  refine ng_aload_0 dJ1_charAt_3b067_1 ?_
  refine ng_klen (k := 6) dJ1_charAt_3b067_2 rfl ?_
  refine ng_callS_2v (y2 := mi_J0_checkIndex_df160) dJ1_charAt_3b067_3 lk_J1_9 ms_J0_checkIndex_df160 my_J0_checkIndex_df160 (by first | decide | exact Nat.le_of_ble_eq_true rfl) (s_J0_check (by decide) (by decide)) (by decide) ?_
  refine ng_aload_0 dJ1_charAt_3b067_6 ?_
  refine ng_iload_1 dJ1_charAt_3b067_7 ?_
  refine ng_kldb (k := 6) dJ1_charAt_3b067_8 rfl (by first | assumption | (unfold vp_in; decide)) ?_
  refine ng_sipush (v := 255) dJ1_charAt_3b067_9 (by decide) ?_
  refine ng_iand dJ1_charAt_3b067_12 ?_
  refine ng_i2c dJ1_charAt_3b067_13 ?_
  exact ng_ireturn dJ1_charAt_3b067_14 ⟨by decide, rfl⟩
theorem s_J0_char_1_2 {X : Nat × (Nat → Int32)} {M : ng_M} : ng_EvX X 4 mi_J0_charAt_5068e [.ref 1011, .int 2] M (some (.int 110)) M := by
  refine ng_EvX.ofI (lv := [some (.ref 1011), some (.int 2)]) (ty := .char) (by decide) (Nat.le_of_ble_eq_true rfl) rfl rfl (by decide) ?_
  refine ng_aload_0 dJ0_charAt_5068e_0 ?_
  refine ng_callVK_0x (q := ("java/lang/String", "coder", "B", .int 0)) (y2 := mi_J0_isLatin1_aae02) dJ0_charAt_5068e_1 lk_J0_492 ms_J0_isLatin1_aae02 my_J0_isLatin1_aae02 (by decide) rfl (by first | decide | exact Nat.le_of_ble_eq_true rfl) (s_J0_latin_1) (by decide) ?_
  refine ng_ifb_eq 16 dJ0_charAt_5068e_4 (by decide +kernel) (fun h4 => ?_) (fun h4 => ?_)
  · exact absurd h4 (by decide)
  · refine ng_aload_0 dJ0_charAt_5068e_7 ?_
    refine ng_kget dJ0_charAt_5068e_8 (by exact (List.Mem.tail _ (List.Mem.tail _ (List.Mem.head _)))) fs_J0_9 ?_
    refine ng_iload_1 dJ0_charAt_5068e_11 ?_
    refine ng_callS_2x (y2 := mi_J1_charAt_3b067) dJ0_charAt_5068e_12 lk_J0_495 ms_J1_charAt_3b067 my_J1_charAt_3b067 (by first | decide | exact Nat.le_of_ble_eq_true rfl) (s_J1_char_1_2) (by decide) ?_
    exact ng_ireturn dJ0_charAt_5068e_15 ⟨rfl, rfl⟩
theorem s_J1_char_1_3 {X : Nat × (Nat → Int32)} {M : ng_M} : ng_EvX X 3 mi_J1_charAt_3b067 [.ref 1006, .int 3] M (some (.int 117)) M := by
  refine ng_EvX.ofI (lv := [some (.ref 1006), some (.int 3)]) (ty := .char) (by decide) (Nat.le_of_ble_eq_true rfl) rfl rfl (by decide) ?_
  refine ng_iload_1 dJ1_charAt_3b067_0 ?_
  refine ng_aload_0 dJ1_charAt_3b067_1 ?_
  refine ng_klen (k := 6) dJ1_charAt_3b067_2 rfl ?_
  refine ng_callS_2v (y2 := mi_J0_checkIndex_df160) dJ1_charAt_3b067_3 lk_J1_9 ms_J0_checkIndex_df160 my_J0_checkIndex_df160 (by first | decide | exact Nat.le_of_ble_eq_true rfl) (s_J0_check (by decide) (by decide)) (by decide) ?_
  refine ng_aload_0 dJ1_charAt_3b067_6 ?_
  refine ng_iload_1 dJ1_charAt_3b067_7 ?_
  refine ng_kldb (k := 6) dJ1_charAt_3b067_8 rfl (by first | assumption | (unfold vp_in; decide)) ?_
  refine ng_sipush (v := 255) dJ1_charAt_3b067_9 (by decide) ?_
  refine ng_iand dJ1_charAt_3b067_12 ?_
  refine ng_i2c dJ1_charAt_3b067_13 ?_
  exact ng_ireturn dJ1_charAt_3b067_14 ⟨by decide, rfl⟩
theorem s_J0_char_1_3 {X : Nat × (Nat → Int32)} {M : ng_M} : ng_EvX X 4 mi_J0_charAt_5068e [.ref 1011, .int 3] M (some (.int 117)) M := by
  refine ng_EvX.ofI (lv := [some (.ref 1011), some (.int 3)]) (ty := .char) (by decide) (Nat.le_of_ble_eq_true rfl) rfl rfl (by decide) ?_
  refine ng_aload_0 dJ0_charAt_5068e_0 ?_
  refine ng_callVK_0x (q := ("java/lang/String", "coder", "B", .int 0)) (y2 := mi_J0_isLatin1_aae02) dJ0_charAt_5068e_1 lk_J0_492 ms_J0_isLatin1_aae02 my_J0_isLatin1_aae02 (by decide) rfl (by first | decide | exact Nat.le_of_ble_eq_true rfl) (s_J0_latin_1) (by decide) ?_
  refine ng_ifb_eq 16 dJ0_charAt_5068e_4 (by decide +kernel) (fun h4 => ?_) (fun h4 => ?_)
  · exact absurd h4 (by decide)
  · refine ng_aload_0 dJ0_charAt_5068e_7 ?_
    refine ng_kget dJ0_charAt_5068e_8 (by exact (List.Mem.tail _ (List.Mem.tail _ (List.Mem.head _)))) fs_J0_9 ?_
    refine ng_iload_1 dJ0_charAt_5068e_11 ?_
    refine ng_callS_2x (y2 := mi_J1_charAt_3b067) dJ0_charAt_5068e_12 lk_J0_495 ms_J1_charAt_3b067 my_J1_charAt_3b067 (by first | decide | exact Nat.le_of_ble_eq_true rfl) (s_J1_char_1_3) (by decide) ?_
    exact ng_ireturn dJ0_charAt_5068e_15 ⟨rfl, rfl⟩
theorem l_X9_nameOf_1_4 {X : Nat × (Nat → Int32)} {M : ng_M} {c v : Int32} (h9 : M 73 9 = 1) : ng_Go X mi_X9_nameOf 5 4 [some (.ref 73), some (.int c), some (.int v), some (.int 4)] [] M (fun r' M' => r' = some (.int v) ∧ M' = M) := by
  refine ng_iload_3 dX9_nameOf_4 ?_
  refine ng_aload_0 dX9_nameOf_5 ?_
  refine ng_gR dX9_nameOf_6 fl_X9_32 (by first | rfl | assumption) ?_
  refine ng_aload_0 dX9_nameOf_9 ?_
  refine ng_gI dX9_nameOf_10 fl_X9_177 (by first | rfl | assumption) ?_
  rw [h9]
  refine ng_aald dX9_nameOf_13 (by first | rfl | assumption) (by decide) (by unfold vp_in; decide) (by exact (by decide : ([1010, 1011] : List Nat)[(1 : Int32).toNatClampNeg]? = some 1011)) ?_
  refine ng_callVK_0x (q := ("java/lang/String", "coder", "B", .int 0)) (y2 := mi_J0_length_8abf5) dX9_nameOf_14 lk_X9_180 ms_J0_length_8abf5 my_J0_length_8abf5 (by decide) rfl (by first | decide | exact Nat.le_of_ble_eq_true rfl) (s_J0_length_1) (by decide) ?_
  refine ng_icmp_ge 49 dX9_nameOf_17 (by decide +kernel) (fun h17 => ?_) (fun h17 => ?_)
  · refine ng_iload_2 dX9_nameOf_49 ?_
    exact ng_ireturn dX9_nameOf_50 ⟨rfl, rfl⟩
  · exact absurd (by decide) h17
theorem l_X9_nameOf_1_3 {X : Nat × (Nat → Int32)} {M : ng_M} {c v : Int32} (h9 : M 73 9 = 1) : ng_Go X mi_X9_nameOf 5 4 [some (.ref 73), some (.int c), some (.int v), some (.int 3)] [] M (fun r' M' => r' = some (.int ((if (117 : Int32) = c then 3 else v))) ∧ M' = M) := by
  refine ng_iload_3 dX9_nameOf_4 ?_
  refine ng_aload_0 dX9_nameOf_5 ?_
  refine ng_gR dX9_nameOf_6 fl_X9_32 (by first | rfl | assumption) ?_
  refine ng_aload_0 dX9_nameOf_9 ?_
  refine ng_gI dX9_nameOf_10 fl_X9_177 (by first | rfl | assumption) ?_
  rw [h9]
  refine ng_aald dX9_nameOf_13 (by first | rfl | assumption) (by decide) (by unfold vp_in; decide) (by exact (by decide : ([1010, 1011] : List Nat)[(1 : Int32).toNatClampNeg]? = some 1011)) ?_
  refine ng_callVK_0x (q := ("java/lang/String", "coder", "B", .int 0)) (y2 := mi_J0_length_8abf5) dX9_nameOf_14 lk_X9_180 ms_J0_length_8abf5 my_J0_length_8abf5 (by decide) rfl (by first | decide | exact Nat.le_of_ble_eq_true rfl) (s_J0_length_1) (by decide) ?_
  refine ng_icmp_ge 49 dX9_nameOf_17 (by decide +kernel) (fun h17 => ?_) (fun h17 => ?_)
  · exact absurd h17 (by decide)
  · refine ng_aload_0 dX9_nameOf_20 ?_
    refine ng_gR dX9_nameOf_21 fl_X9_32 (by first | rfl | assumption) ?_
    refine ng_aload_0 dX9_nameOf_24 ?_
    refine ng_gI dX9_nameOf_25 fl_X9_177 (by first | rfl | assumption) ?_
    rw [h9]
    refine ng_aald dX9_nameOf_28 (by first | rfl | assumption) (by decide) (by unfold vp_in; decide) (by exact (by decide : ([1010, 1011] : List Nat)[(1 : Int32).toNatClampNeg]? = some 1011)) ?_
    refine ng_iload_3 dX9_nameOf_29 ?_
    refine ng_callVK_1x (q := ("java/lang/String", "coder", "B", .int 0)) (y2 := mi_J0_charAt_5068e) dX9_nameOf_30 lk_X9_183 ms_J0_charAt_5068e my_J0_charAt_5068e (by decide) rfl (by first | decide | exact Nat.le_of_ble_eq_true rfl) (s_J0_char_1_3) (by decide) ?_
    refine ng_iload_1 dX9_nameOf_33 ?_
    refine ng_icmp_ne 41 dX9_nameOf_34 (by decide +kernel) (fun h34 => ?_) (fun h34 => ?_)
    · refine ng_iload_2 dX9_nameOf_41 ?_
      refine ng_istore_2 dX9_nameOf_42 (by first | rfl | assumption) ?_
      refine ng_iinc_3 (w := 1) dX9_nameOf_43 (by decide) rfl ?_
      refine ng_goto 4 dX9_nameOf_46 (by decide +kernel) ?_
      rw [show (3 : Int32) + 1 = 4 by decide]
      first
      | (have z := l_X9_nameOf_1_4 (X := X) (M := M) (c := c) (v := v) h9
         rw [if_neg h34]
         exact z)
      | (have z := l_X9_nameOf_1_4 (X := X) (M := M) (c := c) (v := 3) h9
         rw [if_pos h34]
         exact z)
    · refine ng_iload_3 dX9_nameOf_37 ?_
      refine ng_goto 42 dX9_nameOf_38 (by decide +kernel) ?_
      refine ng_istore_2 dX9_nameOf_42 (by first | rfl | assumption) ?_
      refine ng_iinc_3 (w := 1) dX9_nameOf_43 (by decide) rfl ?_
      refine ng_goto 4 dX9_nameOf_46 (by decide +kernel) ?_
      rw [show (3 : Int32) + 1 = 4 by decide]
      first
      | (have z := l_X9_nameOf_1_4 (X := X) (M := M) (c := c) (v := v) h9
         rw [if_neg h34]
         exact z)
      | (have z := l_X9_nameOf_1_4 (X := X) (M := M) (c := c) (v := 3) h9
         rw [if_pos h34]
         exact z)
theorem l_X9_nameOf_1_2 {X : Nat × (Nat → Int32)} {M : ng_M} {c v : Int32} (h9 : M 73 9 = 1) : ng_Go X mi_X9_nameOf 5 4 [some (.ref 73), some (.int c), some (.int v), some (.int 2)] [] M (fun r' M' => r' = some (.int ((if (117 : Int32) = c then 3 else (if (110 : Int32) = c then 2 else v)))) ∧ M' = M) := by
  refine ng_iload_3 dX9_nameOf_4 ?_
  refine ng_aload_0 dX9_nameOf_5 ?_
  refine ng_gR dX9_nameOf_6 fl_X9_32 (by first | rfl | assumption) ?_
  refine ng_aload_0 dX9_nameOf_9 ?_
  refine ng_gI dX9_nameOf_10 fl_X9_177 (by first | rfl | assumption) ?_
  rw [h9]
  refine ng_aald dX9_nameOf_13 (by first | rfl | assumption) (by decide) (by unfold vp_in; decide) (by exact (by decide : ([1010, 1011] : List Nat)[(1 : Int32).toNatClampNeg]? = some 1011)) ?_
  refine ng_callVK_0x (q := ("java/lang/String", "coder", "B", .int 0)) (y2 := mi_J0_length_8abf5) dX9_nameOf_14 lk_X9_180 ms_J0_length_8abf5 my_J0_length_8abf5 (by decide) rfl (by first | decide | exact Nat.le_of_ble_eq_true rfl) (s_J0_length_1) (by decide) ?_
  refine ng_icmp_ge 49 dX9_nameOf_17 (by decide +kernel) (fun h17 => ?_) (fun h17 => ?_)
  · exact absurd h17 (by decide)
  · refine ng_aload_0 dX9_nameOf_20 ?_
    refine ng_gR dX9_nameOf_21 fl_X9_32 (by first | rfl | assumption) ?_
    refine ng_aload_0 dX9_nameOf_24 ?_
    refine ng_gI dX9_nameOf_25 fl_X9_177 (by first | rfl | assumption) ?_
    rw [h9]
    refine ng_aald dX9_nameOf_28 (by first | rfl | assumption) (by decide) (by unfold vp_in; decide) (by exact (by decide : ([1010, 1011] : List Nat)[(1 : Int32).toNatClampNeg]? = some 1011)) ?_
    refine ng_iload_3 dX9_nameOf_29 ?_
    refine ng_callVK_1x (q := ("java/lang/String", "coder", "B", .int 0)) (y2 := mi_J0_charAt_5068e) dX9_nameOf_30 lk_X9_183 ms_J0_charAt_5068e my_J0_charAt_5068e (by decide) rfl (by first | decide | exact Nat.le_of_ble_eq_true rfl) (s_J0_char_1_2) (by decide) ?_
    refine ng_iload_1 dX9_nameOf_33 ?_
    refine ng_icmp_ne 41 dX9_nameOf_34 (by decide +kernel) (fun h34 => ?_) (fun h34 => ?_)
    · refine ng_iload_2 dX9_nameOf_41 ?_
      refine ng_istore_2 dX9_nameOf_42 (by first | rfl | assumption) ?_
      refine ng_iinc_3 (w := 1) dX9_nameOf_43 (by decide) rfl ?_
      refine ng_goto 4 dX9_nameOf_46 (by decide +kernel) ?_
      rw [show (2 : Int32) + 1 = 3 by decide]
      first
      | (have z := l_X9_nameOf_1_3 (X := X) (M := M) (c := c) (v := v) h9
         rw [if_neg h34]
         exact z)
      | (have z := l_X9_nameOf_1_3 (X := X) (M := M) (c := c) (v := 2) h9
         rw [if_pos h34]
         exact z)
    · refine ng_iload_3 dX9_nameOf_37 ?_
      refine ng_goto 42 dX9_nameOf_38 (by decide +kernel) ?_
      refine ng_istore_2 dX9_nameOf_42 (by first | rfl | assumption) ?_
      refine ng_iinc_3 (w := 1) dX9_nameOf_43 (by decide) rfl ?_
      refine ng_goto 4 dX9_nameOf_46 (by decide +kernel) ?_
      rw [show (2 : Int32) + 1 = 3 by decide]
      first
      | (have z := l_X9_nameOf_1_3 (X := X) (M := M) (c := c) (v := v) h9
         rw [if_neg h34]
         exact z)
      | (have z := l_X9_nameOf_1_3 (X := X) (M := M) (c := c) (v := 2) h9
         rw [if_pos h34]
         exact z)
theorem l_X9_nameOf_1_1 {X : Nat × (Nat → Int32)} {M : ng_M} {c v : Int32} (h9 : M 73 9 = 1) : ng_Go X mi_X9_nameOf 5 4 [some (.ref 73), some (.int c), some (.int v), some (.int 1)] [] M (fun r' M' => r' = some (.int ((if (117 : Int32) = c then 3 else (if (110 : Int32) = c then 2 else (if (107 : Int32) = c then 1 else v))))) ∧ M' = M) := by
  refine ng_iload_3 dX9_nameOf_4 ?_
  refine ng_aload_0 dX9_nameOf_5 ?_
  refine ng_gR dX9_nameOf_6 fl_X9_32 (by first | rfl | assumption) ?_
  refine ng_aload_0 dX9_nameOf_9 ?_
  refine ng_gI dX9_nameOf_10 fl_X9_177 (by first | rfl | assumption) ?_
  rw [h9]
  refine ng_aald dX9_nameOf_13 (by first | rfl | assumption) (by decide) (by unfold vp_in; decide) (by exact (by decide : ([1010, 1011] : List Nat)[(1 : Int32).toNatClampNeg]? = some 1011)) ?_
  refine ng_callVK_0x (q := ("java/lang/String", "coder", "B", .int 0)) (y2 := mi_J0_length_8abf5) dX9_nameOf_14 lk_X9_180 ms_J0_length_8abf5 my_J0_length_8abf5 (by decide) rfl (by first | decide | exact Nat.le_of_ble_eq_true rfl) (s_J0_length_1) (by decide) ?_
  refine ng_icmp_ge 49 dX9_nameOf_17 (by decide +kernel) (fun h17 => ?_) (fun h17 => ?_)
  · exact absurd h17 (by decide)
  · refine ng_aload_0 dX9_nameOf_20 ?_
    refine ng_gR dX9_nameOf_21 fl_X9_32 (by first | rfl | assumption) ?_
    refine ng_aload_0 dX9_nameOf_24 ?_
    refine ng_gI dX9_nameOf_25 fl_X9_177 (by first | rfl | assumption) ?_
    rw [h9]
    refine ng_aald dX9_nameOf_28 (by first | rfl | assumption) (by decide) (by unfold vp_in; decide) (by exact (by decide : ([1010, 1011] : List Nat)[(1 : Int32).toNatClampNeg]? = some 1011)) ?_
    refine ng_iload_3 dX9_nameOf_29 ?_
    refine ng_callVK_1x (q := ("java/lang/String", "coder", "B", .int 0)) (y2 := mi_J0_charAt_5068e) dX9_nameOf_30 lk_X9_183 ms_J0_charAt_5068e my_J0_charAt_5068e (by decide) rfl (by first | decide | exact Nat.le_of_ble_eq_true rfl) (s_J0_char_1_1) (by decide) ?_
    refine ng_iload_1 dX9_nameOf_33 ?_
    refine ng_icmp_ne 41 dX9_nameOf_34 (by decide +kernel) (fun h34 => ?_) (fun h34 => ?_)
    · refine ng_iload_2 dX9_nameOf_41 ?_
      refine ng_istore_2 dX9_nameOf_42 (by first | rfl | assumption) ?_
      refine ng_iinc_3 (w := 1) dX9_nameOf_43 (by decide) rfl ?_
      refine ng_goto 4 dX9_nameOf_46 (by decide +kernel) ?_
      rw [show (1 : Int32) + 1 = 2 by decide]
      first
      | (have z := l_X9_nameOf_1_2 (X := X) (M := M) (c := c) (v := v) h9
         rw [if_neg h34]
         exact z)
      | (have z := l_X9_nameOf_1_2 (X := X) (M := M) (c := c) (v := 1) h9
         rw [if_pos h34]
         exact z)
    · refine ng_iload_3 dX9_nameOf_37 ?_
      refine ng_goto 42 dX9_nameOf_38 (by decide +kernel) ?_
      refine ng_istore_2 dX9_nameOf_42 (by first | rfl | assumption) ?_
      refine ng_iinc_3 (w := 1) dX9_nameOf_43 (by decide) rfl ?_
      refine ng_goto 4 dX9_nameOf_46 (by decide +kernel) ?_
      rw [show (1 : Int32) + 1 = 2 by decide]
      first
      | (have z := l_X9_nameOf_1_2 (X := X) (M := M) (c := c) (v := v) h9
         rw [if_neg h34]
         exact z)
      | (have z := l_X9_nameOf_1_2 (X := X) (M := M) (c := c) (v := 1) h9
         rw [if_pos h34]
         exact z)
theorem l_X9_nameOf_1_0 {X : Nat × (Nat → Int32)} {M : ng_M} {c v : Int32} (h9 : M 73 9 = 1) : ng_Go X mi_X9_nameOf 5 4 [some (.ref 73), some (.int c), some (.int v), some (.int 0)] [] M (fun r' M' => r' = some (.int ((if (117 : Int32) = c then 3 else (if (110 : Int32) = c then 2 else (if (107 : Int32) = c then 1 else (if (115 : Int32) = c then 0 else v)))))) ∧ M' = M) := by
  refine ng_iload_3 dX9_nameOf_4 ?_
  refine ng_aload_0 dX9_nameOf_5 ?_
  refine ng_gR dX9_nameOf_6 fl_X9_32 (by first | rfl | assumption) ?_
  refine ng_aload_0 dX9_nameOf_9 ?_
  refine ng_gI dX9_nameOf_10 fl_X9_177 (by first | rfl | assumption) ?_
  rw [h9]
  refine ng_aald dX9_nameOf_13 (by first | rfl | assumption) (by decide) (by unfold vp_in; decide) (by exact (by decide : ([1010, 1011] : List Nat)[(1 : Int32).toNatClampNeg]? = some 1011)) ?_
  refine ng_callVK_0x (q := ("java/lang/String", "coder", "B", .int 0)) (y2 := mi_J0_length_8abf5) dX9_nameOf_14 lk_X9_180 ms_J0_length_8abf5 my_J0_length_8abf5 (by decide) rfl (by first | decide | exact Nat.le_of_ble_eq_true rfl) (s_J0_length_1) (by decide) ?_
  refine ng_icmp_ge 49 dX9_nameOf_17 (by decide +kernel) (fun h17 => ?_) (fun h17 => ?_)
  · exact absurd h17 (by decide)
  · refine ng_aload_0 dX9_nameOf_20 ?_
    refine ng_gR dX9_nameOf_21 fl_X9_32 (by first | rfl | assumption) ?_
    refine ng_aload_0 dX9_nameOf_24 ?_
    refine ng_gI dX9_nameOf_25 fl_X9_177 (by first | rfl | assumption) ?_
    rw [h9]
    refine ng_aald dX9_nameOf_28 (by first | rfl | assumption) (by decide) (by unfold vp_in; decide) (by exact (by decide : ([1010, 1011] : List Nat)[(1 : Int32).toNatClampNeg]? = some 1011)) ?_
    refine ng_iload_3 dX9_nameOf_29 ?_
    refine ng_callVK_1x (q := ("java/lang/String", "coder", "B", .int 0)) (y2 := mi_J0_charAt_5068e) dX9_nameOf_30 lk_X9_183 ms_J0_charAt_5068e my_J0_charAt_5068e (by decide) rfl (by first | decide | exact Nat.le_of_ble_eq_true rfl) (s_J0_char_1_0) (by decide) ?_
    refine ng_iload_1 dX9_nameOf_33 ?_
    refine ng_icmp_ne 41 dX9_nameOf_34 (by decide +kernel) (fun h34 => ?_) (fun h34 => ?_)
    · refine ng_iload_2 dX9_nameOf_41 ?_
      refine ng_istore_2 dX9_nameOf_42 (by first | rfl | assumption) ?_
      refine ng_iinc_3 (w := 1) dX9_nameOf_43 (by decide) rfl ?_
      refine ng_goto 4 dX9_nameOf_46 (by decide +kernel) ?_
      rw [show (0 : Int32) + 1 = 1 by decide]
      first
      | (have z := l_X9_nameOf_1_1 (X := X) (M := M) (c := c) (v := v) h9
         rw [if_neg h34]
         exact z)
      | (have z := l_X9_nameOf_1_1 (X := X) (M := M) (c := c) (v := 0) h9
         rw [if_pos h34]
         exact z)
    · refine ng_iload_3 dX9_nameOf_37 ?_
      refine ng_goto 42 dX9_nameOf_38 (by decide +kernel) ?_
      refine ng_istore_2 dX9_nameOf_42 (by first | rfl | assumption) ?_
      refine ng_iinc_3 (w := 1) dX9_nameOf_43 (by decide) rfl ?_
      refine ng_goto 4 dX9_nameOf_46 (by decide +kernel) ?_
      rw [show (0 : Int32) + 1 = 1 by decide]
      first
      | (have z := l_X9_nameOf_1_1 (X := X) (M := M) (c := c) (v := v) h9
         rw [if_neg h34]
         exact z)
      | (have z := l_X9_nameOf_1_1 (X := X) (M := M) (c := c) (v := 0) h9
         rw [if_pos h34]
         exact z)
theorem s_X9_nameOf {X : Nat × (Nat → Int32)} {M : ng_M} {u c : Int32} (hu : u = 0 ∨ u = 1) (h9 : M 73 9 = u) : ng_EvX X 5 mi_X9_nameOf [.ref 73, .int c] M (some (.int (ng_nmi u c))) M := by
  rcases hu with rfl | rfl
  · refine ng_EvX.ofI (lv := [some (.ref 73), some (.int c), none, none]) (ty := .int) (by decide) (Nat.le_of_ble_eq_true rfl) rfl rfl rfl ?_
    have z := l_X9_nameOf_0_0 (X := X) (c := c) (v := -1) h9
    refine ng_iconst_m1 dX9_nameOf_0 ?_
    refine ng_istore_2 dX9_nameOf_1 (by first | rfl | assumption) ?_
    refine ng_iconst_0 dX9_nameOf_2 ?_
    refine ng_istore_3 dX9_nameOf_3 (by first | rfl | assumption) ?_
    refine z.imp (fun r M' h => ⟨?_, h.2⟩)
    rw [h.1]
    congr 2
    by_cases q0 : c = 119
    · subst q0; decide
    · by_cases q1 : c = 110
      · subst q1; decide
      · by_cases q2 : c = 108
        · subst q2; decide
        · by_cases q3 : c = 104
          · subst q3; decide
          · simp [ng_nmi, q0, q1, q2, q3, Ne.symm q0, Ne.symm q1, Ne.symm q2, Ne.symm q3]
  · refine ng_EvX.ofI (lv := [some (.ref 73), some (.int c), none, none]) (ty := .int) (by decide) (Nat.le_of_ble_eq_true rfl) rfl rfl rfl ?_
    have z := l_X9_nameOf_1_0 (X := X) (c := c) (v := -1) h9
    refine ng_iconst_m1 dX9_nameOf_0 ?_
    refine ng_istore_2 dX9_nameOf_1 (by first | rfl | assumption) ?_
    refine ng_iconst_0 dX9_nameOf_2 ?_
    refine ng_istore_3 dX9_nameOf_3 (by first | rfl | assumption) ?_
    refine z.imp (fun r M' h => ⟨?_, h.2⟩)
    rw [h.1]
    congr 2
    by_cases q0 : c = 115
    · subst q0; decide
    · by_cases q1 : c = 107
      · subst q1; decide
      · by_cases q2 : c = 110
        · subst q2; decide
        · by_cases q3 : c = 117
          · subst q3; decide
          · simp [ng_nmi, q0, q1, q2, q3, Ne.symm q0, Ne.symm q1, Ne.symm q2, Ne.symm q3]
