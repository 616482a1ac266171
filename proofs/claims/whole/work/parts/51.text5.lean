/-! ===== texts: the reference's reader, one ===== -/
theorem e1_X9_one {X : Nat × (Nat → Int32)} {M : ng_M} {d O p : Nat} {cs : List Int32} {F : Option Value → ng_M → Prop} {x0 x1 x2 x3 : Option Value} (h0 : x0 = some (.ref 73)) (k : F none (ng_RF M p cs O true)) : ng_Go X mi_X9_one d 213 [x0, x1, x2, x3] [.ref 73] (ng_RF M p cs O false) F := by
  subst h0
  refine ng_iconst_1 dX9_one_213 ?_
  refine ng_goto 218 dX9_one_214 (by decide +kernel) ?_
  refine ng_pI dX9_one_218 fp_X9_140 (by first | rfl | assumption) rfl rfl ?_
  rw [ng_RF_w1]
  refine ng_aload_0 dX9_one_221 ?_
  refine ng_gI dX9_one_222 fl_X9_140 (by first | rfl | assumption) ?_
  rw [ng_RF_10]
  refine ng_ifb_ne 247 dX9_one_225 (by decide +kernel) (fun h225 => ?_) (fun h225 => ?_)
  · exact ng_return dX9_one_247 k
  · exact absurd h225 (by decide)
theorem e2_X9_one {X : Nat × (Nat → Int32)} {M : ng_M} {d O p : Nat} {cs : List Int32} {F : Option Value → ng_M → Prop} {c v : Int32} {x3 : Option Value} (hd : 1 ≤ d) (hl : cs.length < 60) (k : F none (ng_RF M (p + 1) (cs ++ [10000 + v]) O false)) : ng_Go X mi_X9_one (d + 1) 217 [some (.ref 73), some (.int c), some (.int v), x3] [.ref 73] (ng_RF M p cs O false) F := by
  refine ng_iconst_0 dX9_one_217 ?_
  refine ng_pI dX9_one_218 fp_X9_140 (by first | rfl | assumption) rfl rfl ?_
  rw [ng_RF_w0]
  refine ng_aload_0 dX9_one_221 ?_
  refine ng_gI dX9_one_222 fl_X9_140 (by first | rfl | assumption) ?_
  rw [ng_RF_10]
  refine ng_ifb_ne 247 dX9_one_225 (by decide +kernel) (fun h225 => ?_) (fun h225 => ?_)
  · exact absurd h225 (by decide)
  · refine ng_aload_0 dX9_one_228 ?_
    refine ng_sipush (v := 10000) dX9_one_229 (by decide) ?_
    refine ng_iload_2 dX9_one_232 ?_
    refine ng_iadd dX9_one_233 ?_
    refine ng_callV_1v (y2 := mi_X9_codes) dX9_one_234 lk_X9_161 ms_X9_codes my_X9_codes (by first | exact ⟨_, rfl⟩ | assumption | exact ng_fld_obj (f := 0) (by assumption)) mc_X9 (by first | decide | exact Nat.le_of_ble_eq_true rfl) (s_X9_codes hl) (by omega) ?_
    rw [if_neg (by decide)]
    refine ng_aload_0 dX9_one_237 ?_
    refine ng_dup dX9_one_238 rfl ?_
    refine ng_gI dX9_one_239 fl_X9_144 (by first | rfl | assumption) ?_
    refine ng_iconst_1 dX9_one_242 ?_
    refine ng_iadd dX9_one_243 ?_
    refine ng_pI dX9_one_244 fp_X9_144 (by first | rfl | assumption) rfl rfl ?_
    rw [ng_RF_pp]
    exact ng_return dX9_one_247 k
theorem n_X9_one {X : Nat × (Nat → Int32)} {M : ng_M} {H : Nat → Int32} {L d O : Nat} {u : Int32} {cs : List Int32} {F : Option Value → ng_M → Prop} (hc : ng_RG M H L u) (hd : 1 ≤ d) : ∀ (n k p : Nat) (v : Int32) (c : Int32), k + n = 4 → p ≤ L →
    (∀ x3 : Option Value, ng_Go X mi_X9_one (d + 1) 179 [some (.ref 73), some (.int c), some (.int (ng_nu H n p v).2), x3] [] (ng_RF M (ng_nu H n p v).1 cs O false) F) →
    ng_Go X mi_X9_one (d + 1) 131 [some (.ref 73), some (.int c), some (.int v), some (.int (nI k))] [] (ng_RF M p cs O false) F := by
  intro n
  induction n with
  | zero =>
    intro k p v c hk hp kk
    have hk2 : k = 4 := by omega
    subst hk2
    refine ng_iload_3 dX9_one_131 ?_
    refine ng_iconst_4 dX9_one_132 ?_
    refine ng_icmp_ge 179 dX9_one_133 (by decide +kernel) (fun h133 => ?_) (fun h133 => ?_)
    · exact kk _
    · exact absurd (show (4 : Int32) ≤ nI 4 by decide) h133
  | succ n ih =>
    intro k p v c hk hp kk
    refine ng_iload_3 dX9_one_131 ?_
    refine ng_iconst_4 dX9_one_132 ?_
    refine ng_icmp_ge 179 dX9_one_133 (by decide +kernel) (fun h133 => ?_) (fun h133 => ?_)
    · exact absurd (show nI 4 ≤ nI k from h133) (nI_ge (by omega) (by omega))
    · refine ng_aload_0 dX9_one_136 ?_
      refine ng_callV_0x (y2 := mi_X9_here) dX9_one_137 lk_X9_148 ms_X9_here my_X9_here (by first | exact ⟨_, rfl⟩ | assumption | exact ng_fld_obj (f := 0) (by assumption)) mc_X9 (by first | decide | exact Nat.le_of_ble_eq_true rfl) (s_X9_here hc hp) hd ?_
      rw [if_neg (by decide)]
      refine ng_bipush (v := 48) dX9_one_140 (by decide) ?_
      refine ng_bipush (v := 57) dX9_one_142 (by decide) ?_
      refine ng_callS_3x (y2 := mi_X9_within) dX9_one_144 lk_X9_80 ms_X9_within my_X9_within (by first | decide | exact Nat.le_of_ble_eq_true rfl) (s_X9_within) hd ?_
      refine ng_ifb_eq 179 dX9_one_147 (by decide +kernel) (fun h147 => ?_) (fun h147 => ?_)
      · have hq : ng_dg (H p) = false := h147
        rw [ng_nu, if_neg (by rw [hq]; decide)] at kk
        exact kk _
      · refine ng_bipush (v := 10) dX9_one_150 (by decide) ?_
        refine ng_iload_2 dX9_one_152 ?_
        refine ng_imul dX9_one_153 ?_
        refine ng_aload_0 dX9_one_154 ?_
        refine ng_callV_0x (y2 := mi_X9_here) dX9_one_155 lk_X9_148 ms_X9_here my_X9_here (by first | exact ⟨_, rfl⟩ | assumption | exact ng_fld_obj (f := 0) (by assumption)) mc_X9 (by first | decide | exact Nat.le_of_ble_eq_true rfl) (s_X9_here hc hp) hd ?_
        rw [if_neg (by decide)]
        refine ng_iadd dX9_one_158 ?_
        refine ng_bipush (v := 48) dX9_one_159 (by decide) ?_
        refine ng_isub dX9_one_161 ?_
        refine ng_istore_2 dX9_one_162 (by first | rfl | assumption) ?_
        refine ng_aload_0 dX9_one_163 ?_
        refine ng_dup dX9_one_164 rfl ?_
        refine ng_gI dX9_one_165 fl_X9_144 (by first | rfl | assumption) ?_
        refine ng_iconst_1 dX9_one_168 ?_
        refine ng_iadd dX9_one_169 ?_
        refine ng_pI dX9_one_170 fp_X9_144 (by first | rfl | assumption) rfl rfl ?_
        rw [ng_RF_pp]
        refine ng_iinc_3 (w := 1) dX9_one_173 (by decide) rfl ?_
        refine ng_goto 131 dX9_one_176 (by decide +kernel) ?_
        have hq : ng_dg (H p) = true := h147
        rw [nI_1]
        rw [ng_nu, if_pos hq] at kk
        exact ih (k + 1) (p + 1) _ c (by omega) (by have := (ng_dg_lt hc.1 hq).1; omega) kk
/-- a digit, a name, or nothing that is read -/
theorem a_X9_one {X : Nat × (Nat → Int32)} {M : ng_M} {H : Nat → Int32} {L d O p : Nat} {u : Int32} {cs : List Int32} {F : Option Value → ng_M → Prop} {x2 x3 : Option Value} (hc : ng_RG M H L u) (hd : 5 ≤ d) (hp : p ≤ L) (hl : cs.length ≤ p) (k : F none (ng_RF M (ng_q0 H u (fun p => (false, p, [])) p).2.1 (cs ++ (ng_q0 H u (fun p => (false, p, [])) p).2.2) O (!(ng_q0 H u (fun p => (false, p, [])) p).1))) : ng_Go X mi_X9_one (d + 1) 116 [some (.ref 73), some (.int (H p)), x2, x3] [] (ng_RF M p cs O false) F := by
  have hL := hc.1.1
  refine ng_iload_1 dX9_one_116 ?_
  refine ng_bipush (v := 48) dX9_one_117 (by decide) ?_
  refine ng_bipush (v := 57) dX9_one_119 (by decide) ?_
  refine ng_callS_3x (y2 := mi_X9_within) dX9_one_121 lk_X9_80 ms_X9_within my_X9_within (by first | decide | exact Nat.le_of_ble_eq_true rfl) (s_X9_within) (by omega) ?_
  refine ng_ifb_eq 187 dX9_one_124 (by decide +kernel) (fun h124 => ?_) (fun h124 => ?_)
  · have hq : ng_dg (H p) = false := h124
    refine ng_iload_1 dX9_one_187 ?_
    refine ng_if_ge 195 dX9_one_188 (by decide +kernel) (fun h188 => ?_) (fun h188 => ?_)
    · refine ng_aload_0 dX9_one_195 ?_
      refine ng_iload_1 dX9_one_196 ?_
      refine ng_callV_1x (y2 := mi_X9_nameOf) dX9_one_197 lk_X9_193 ms_X9_nameOf my_X9_nameOf (by first | exact ⟨_, rfl⟩ | assumption | exact ng_fld_obj (f := 0) (by assumption)) mc_X9 (by first | decide | exact Nat.le_of_ble_eq_true rfl) (s_X9_nameOf hc.2.2.2.1 (by rw [ng_RF_9]; exact hc.2.2.1)) (by omega) ?_
      refine ng_istore_2 dX9_one_200 (by first | rfl | assumption) ?_
      refine ng_aload_0 dX9_one_201 ?_
      refine ng_aload_0 dX9_one_202 ?_
      refine ng_gI dX9_one_203 fl_X9_140 (by first | rfl | assumption) ?_
      rw [ng_RF_10]
      refine ng_ifb_ne 213 dX9_one_206 (by decide +kernel) (fun h206 => ?_) (fun h206 => ?_)
      · exact absurd h206 (by decide)
      · refine ng_iload_2 dX9_one_209 ?_
        refine ng_if_ge 217 dX9_one_210 (by decide +kernel) (fun h210 => ?_) (fun h210 => ?_)
        · obtain ⟨i, hi, ei, hne⟩ := ng_nmi_v h210
          have hlt := hc.1.lt hne
          rw [ng_q0_n hq h210] at k
          exact e2_X9_one (by omega) (by omega) k
        · have h0 : ¬ 0 ≤ ng_nmi u (H p) := by
            first
            | exact h210
            | (intro z; obtain ⟨i, hi, ei, hne⟩ := ng_nmi_v z; exact h188 (by rw [ng_le, ng_0]; exact (hc.1.2.2 p (hc.1.lt hne)).1))
          rw [ng_q0_o hq h0, List.append_nil] at k
          exact e1_X9_one rfl k
    · refine ng_iconst_m1 dX9_one_191 ?_
      refine ng_goto 200 dX9_one_192 (by decide +kernel) ?_
      refine ng_istore_2 dX9_one_200 (by first | rfl | assumption) ?_
      refine ng_aload_0 dX9_one_201 ?_
      refine ng_aload_0 dX9_one_202 ?_
      refine ng_gI dX9_one_203 fl_X9_140 (by first | rfl | assumption) ?_
      rw [ng_RF_10]
      refine ng_ifb_ne 213 dX9_one_206 (by decide +kernel) (fun h206 => ?_) (fun h206 => ?_)
      · exact absurd h206 (by decide)
      · refine ng_iload_2 dX9_one_209 ?_
        refine ng_if_ge 217 dX9_one_210 (by decide +kernel) (fun h210 => ?_) (fun h210 => ?_)
        · exact absurd h210 (by decide)
        · have h0 : ¬ 0 ≤ ng_nmi u (H p) := by
            first
            | exact h210
            | (intro z; obtain ⟨i, hi, ei, hne⟩ := ng_nmi_v z; exact h188 (by rw [ng_le, ng_0]; exact (hc.1.2.2 p (hc.1.lt hne)).1))
          rw [ng_q0_o hq h0, List.append_nil] at k
          exact e1_X9_one rfl k
  · have hq : ng_dg (H p) = true := h124
    rw [ng_q0_d hq] at k
    obtain ⟨n1, n2, n3, n4⟩ := ng_nu_1 hc.1 hq
    refine ng_iconst_0 dX9_one_127 ?_
    refine ng_istore_2 dX9_one_128 (by first | rfl | assumption) ?_
    refine ng_iconst_0 dX9_one_129 ?_
    refine ng_istore_3 dX9_one_130 (by first | rfl | assumption) ?_
    refine n_X9_one hc (by omega) 4 0 p 0 _ (by omega) hp (fun x3 => ?_)
    refine ng_aload_0 dX9_one_179 ?_
    refine ng_iload_2 dX9_one_180 ?_
    refine ng_callV_1v (y2 := mi_X9_codes) dX9_one_181 lk_X9_161 ms_X9_codes my_X9_codes (by first | exact ⟨_, rfl⟩ | assumption | exact ng_fld_obj (f := 0) (by assumption)) mc_X9 (by first | decide | exact Nat.le_of_ble_eq_true rfl) (s_X9_codes (by omega)) (by omega) ?_
    rw [if_neg (by decide)]
    refine ng_goto 247 dX9_one_184 (by decide +kernel) ?_
    exact ng_return dX9_one_247 k
theorem b_X9_one {X : Nat × (Nat → Int32)} {M : ng_M} {H : Nat → Int32} {L d O p : Nat} {u : Int32} {cs : List Int32} {F : Option Value → ng_M → Prop} {x2 x3 : Option Value} {w : Nat} (hc : ng_RG M H L u) (hd : 6 ≤ d) (hs : ng_KF X M L d mi_X9_one (O + 1) (ng_qq H u w)) (hp : p < L) (hl : cs.length ≤ p) (h33 : H p = 33) (k : F none (ng_RF M (ng_nt (ng_qq H u w) (p + 1)).2.1 (cs ++ (ng_nt (ng_qq H u w) (p + 1)).2.2) O (!(ng_nt (ng_qq H u w) (p + 1)).1))) : ng_Go X mi_X9_one (d + 6) 61 [some (.ref 73), some (.int (H p)), x2, x3] [] (ng_RF M (p + 1) cs (O + 1) false) F := by
  have hL := hc.1.1
  obtain ⟨g1, g2, g3, g4⟩ := ng_gd.qq (u := u) hc.1 w (p + 1) (by omega)
  refine ng_iload_1 dX9_one_61 ?_
  refine ng_bipush (v := 33) dX9_one_62 (by decide) ?_
  refine ng_icmp_ne 81 dX9_one_64 (by decide +kernel) (fun h64 => ?_) (fun h64 => ?_)
  · exact absurd h33 h64
  · refine ng_aload_0 dX9_one_67 ?_
    refine ng_callV_0v (y2 := mi_X9_one) dX9_one_68 lk_X9_174 ms_X9_one my_X9_one (by first | exact ⟨_, rfl⟩ | assumption | exact ng_fld_obj (f := 0) (by assumption)) mc_X9 (by first | decide | exact Nat.le_of_ble_eq_true rfl) (hs (p + 1) cs (by omega) (by omega)) (by omega) ?_
    refine ng_aload_0 dX9_one_71 ?_
    refine ng_sipush (v := 20010) dX9_one_72 (by decide) ?_
    refine ng_callV_1v (y2 := mi_X9_codes) dX9_one_75 lk_X9_161 ms_X9_codes my_X9_codes (by first | exact ⟨_, rfl⟩ | assumption | exact ng_fld_obj (f := 0) (by assumption)) mc_X9 (by first | decide | exact Nat.le_of_ble_eq_true rfl) (s_X9_codes (by simp; omega)) (by omega) ?_
    refine ng_goto 103 dX9_one_78 (by decide +kernel) ?_
    refine ng_aload_0 dX9_one_103 ?_
    refine ng_dup dX9_one_104 rfl ?_
    refine ng_gI dX9_one_105 fl_X9_187 (by first | rfl | assumption) ?_
    refine ng_iconst_1 dX9_one_108 ?_
    refine ng_isub dX9_one_109 ?_
    refine ng_pI dX9_one_110 fp_X9_187 (by first | rfl | assumption) rfl rfl ?_
    rw [ng_RF_om]
    refine ng_goto 247 dX9_one_113 (by decide +kernel) ?_
    refine ng_return dX9_one_247 ?_
    unfold ng_nt at k
    cases hx : (ng_qq H u w (p + 1)).1 with
    | true =>
      rw [hx] at k
      rw [if_neg (by decide)]
      rw [if_pos rfl, ← List.append_assoc] at k
      exact k
    | false =>
      rw [hx] at k
      rw [if_pos (by decide)]
      rw [if_neg (by decide)] at k
      exact k
theorem ng_is_kt {M : ng_M} {H : Nat → Int32} {O p : Nat} {cs : List Int32} {F : Option Value → ng_M → Prop} {f : Nat → ng_Rs} (k : F none (ng_RF M (ng_is H f p).2.1 (cs ++ (ng_is H f p).2.2) O (!(ng_is H f p).1))) (h : (!(!(f p).1) && decide (H (f p).2.1 = 41)) = true) : F none (ng_RF M ((f p).2.1 + 1) (cs ++ (f p).2.2) O false) := by
  simp at h
  rw [ng_is, if_pos h] at k
  exact k
theorem ng_is_kf {M : ng_M} {H : Nat → Int32} {O p : Nat} {cs : List Int32} {F : Option Value → ng_M → Prop} {f : Nat → ng_Rs} (k : F none (ng_RF M (ng_is H f p).2.1 (cs ++ (ng_is H f p).2.2) O (!(ng_is H f p).1))) (h : (!(!(f p).1) && decide (H (f p).2.1 = 41)) = false) : F none (ng_RF M (f p).2.1 (cs ++ (f p).2.2) O true) := by
  simp at h
  rw [ng_is, if_neg (fun z => h z.1 z.2)] at k
  exact k
theorem c_X9_one {X : Nat × (Nat → Int32)} {M : ng_M} {H : Nat → Int32} {L d O p : Nat} {u : Int32} {cs : List Int32} {F : Option Value → ng_M → Prop} {x2 x3 : Option Value} {w : Nat} (hc : ng_RG M H L u) (hd : 6 ≤ d) (hs : ng_KF X M L d mi_X9_one (O + 1) (ng_qq H u w)) (hp : p < L) (hl : cs.length ≤ p) (h33 : ¬ H p = 33) (k : F none (ng_RF M (ng_is H (ng_tt H (ng_qq H u w)) (p + 1)).2.1 (cs ++ (ng_is H (ng_tt H (ng_qq H u w)) (p + 1)).2.2) O (!(ng_is H (ng_tt H (ng_qq H u w)) (p + 1)).1))) : ng_Go X mi_X9_one (d + 6) 61 [some (.ref 73), some (.int (H p)), x2, x3] [] (ng_RF M (p + 1) cs (O + 1) false) F := by
  have hL := hc.1.1
  have hgq := ng_gd.qq (u := u) hc.1 w
  obtain ⟨g1, g2, g3, g4⟩ := ng_gd.tt hc.1 hgq (p + 1) (by omega)
  have ht := s_X9_tt hc hgq (by omega) hs
  refine ng_iload_1 dX9_one_61 ?_
  refine ng_bipush (v := 33) dX9_one_62 (by decide) ?_
  refine ng_icmp_ne 81 dX9_one_64 (by decide +kernel) (fun h64 => ?_) (fun h64 => ?_)
  · refine ng_aload_0 dX9_one_81 ?_
    refine ng_callV_0v (y2 := mi_X9_either) dX9_one_82 lk_X9_190 ms_X9_either my_X9_either (by first | exact ⟨_, rfl⟩ | assumption | exact ng_fld_obj (f := 0) (by assumption)) mc_X9 (by first | decide | exact Nat.le_of_ble_eq_true rfl) (ht (p + 1) cs (by omega) (by omega)) (by omega) ?_
    refine ng_aload_0 dX9_one_85 ?_
    refine ng_aload_0 dX9_one_86 ?_
    refine ng_bipush (v := 41) dX9_one_87 (by decide) ?_
    refine ng_callV_1x (y2 := mi_X9_takes) dX9_one_89 lk_X9_158 ms_X9_takes my_X9_takes (by first | exact ⟨_, rfl⟩ | assumption | exact ng_fld_obj (f := 0) (by assumption)) mc_X9 (by first | decide | exact Nat.le_of_ble_eq_true rfl) (s_X9_takes hc g2 (by decide)) (by omega) ?_
    refine ng_ifb_ne 99 dX9_one_92 (by decide +kernel) (fun h92 => ?_) (fun h92 => ?_)
    · rw [if_pos h92]
      refine ng_iconst_0 dX9_one_99 ?_
      refine ng_pI dX9_one_100 fp_X9_140 (by first | rfl | assumption) rfl rfl ?_
      first | rw [ng_RF_w1] | rw [ng_RF_w0]
      refine ng_aload_0 dX9_one_103 ?_
      refine ng_dup dX9_one_104 rfl ?_
      refine ng_gI dX9_one_105 fl_X9_187 (by first | rfl | assumption) ?_
      refine ng_iconst_1 dX9_one_108 ?_
      refine ng_isub dX9_one_109 ?_
      refine ng_pI dX9_one_110 fp_X9_187 (by first | rfl | assumption) rfl rfl ?_
      rw [ng_RF_om]
      refine ng_goto 247 dX9_one_113 (by decide +kernel) ?_
      exact ng_return dX9_one_247 (by first | exact ng_is_kt k h92 | exact ng_is_kf k h92)
    · rw [if_neg (by rw [h92]; decide)]
      refine ng_iconst_1 dX9_one_95 ?_
      refine ng_goto 100 dX9_one_96 (by decide +kernel) ?_
      refine ng_pI dX9_one_100 fp_X9_140 (by first | rfl | assumption) rfl rfl ?_
      first | rw [ng_RF_w1] | rw [ng_RF_w0]
      refine ng_aload_0 dX9_one_103 ?_
      refine ng_dup dX9_one_104 rfl ?_
      refine ng_gI dX9_one_105 fl_X9_187 (by first | rfl | assumption) ?_
      refine ng_iconst_1 dX9_one_108 ?_
      refine ng_isub dX9_one_109 ?_
      refine ng_pI dX9_one_110 fp_X9_187 (by first | rfl | assumption) rfl rfl ?_
      rw [ng_RF_om]
      refine ng_goto 247 dX9_one_113 (by decide +kernel) ?_
      exact ng_return dX9_one_247 (by first | exact ng_is_kt k h92 | exact ng_is_kf k h92)
  · exact absurd h64 h33
theorem ng_qq_s33 {H : Nat → Int32} {u : Int32} {w p : Nat} (h : H p = 33) : ng_qq H u (w + 1) p = ng_nt (ng_qq H u w) (p + 1) := by rw [ng_qq_s, ng_q0_o (by rw [h]; exact ng_33.1) (by rw [h]; exact ng_nmi33.1), if_pos h]
theorem ng_qq_s40 {H : Nat → Int32} {u : Int32} {w p : Nat} (h : H p = 40) : ng_qq H u (w + 1) p = ng_is H (ng_tt H (ng_qq H u w)) (p + 1) := by rw [ng_qq_s, ng_q0_o (by rw [h]; exact ng_33.2) (by rw [h]; exact ng_nmi33.2.1), if_neg (by rw [h]; decide), if_pos h]
theorem ng_qq_sn {H : Nat → Int32} {u : Int32} {w p : Nat} (h : ¬ H p = 33) (h2 : ¬ H p = 40) : ng_qq H u (w + 1) p = ng_q0 H u (fun p => (false, p, [])) p := by
  rw [ng_qq_s]
  by_cases h3 : ng_dg (H p) = true
  · rw [ng_q0_d h3, ng_q0_d h3]
  · have h3 : ng_dg (H p) = false := Bool.eq_false_iff.mpr h3
    by_cases h4 : 0 ≤ ng_nmi u (H p)
    · rw [ng_q0_n h3 h4, ng_q0_n h3 h4]
    · rw [ng_q0_o h3 h4, ng_q0_o h3 h4, if_neg h, if_neg h2]
theorem ng_qq_0b {H : Nat → Int32} {u : Int32} {p : Nat} (h : H p = 33 ∨ H p = 40) : ng_qq H u 0 p = (false, p, []) := by
  rw [ng_qq_0]
  rcases h with h | h
  · rw [ng_q0_o (by rw [h]; exact ng_33.1) (by rw [h]; exact ng_nmi33.1)]
  · rw [ng_q0_o (by rw [h]; exact ng_33.2) (by rw [h]; exact ng_nmi33.2.1)]
theorem s_X9_one0 {X : Nat × (Nat → Int32)} {M : ng_M} {H : Nat → Int32} {L : Nat} {u : Int32} (hc : ng_RG M H L u) : ng_KF X M L 6 mi_X9_one 5 (ng_qq H u 0) := by
  intro p cs hp hl
  refine ng_EvX.ofV (lv := [some (.ref 73), none, none, none]) (by decide) (Nat.le_of_ble_eq_true rfl) rfl rfl ?_
  refine ng_aload_0 dX9_one_0 ?_
  refine ng_callV_0x (y2 := mi_X9_here) dX9_one_1 lk_X9_148 ms_X9_here my_X9_here (by first | exact ⟨_, rfl⟩ | assumption | exact ng_fld_obj (f := 0) (by assumption)) mc_X9 (by first | decide | exact Nat.le_of_ble_eq_true rfl) (s_X9_here hc hp) (by decide) ?_
  rw [if_neg (by decide)]
  refine ng_istore_1 dX9_one_4 (by first | rfl | assumption) ?_
  refine ng_iload_1 dX9_one_5 ?_
  refine ng_bipush (v := 33) dX9_one_6 (by decide) ?_
  refine ng_icmp_eq 17 dX9_one_8 (by decide +kernel) (fun h8 => ?_) (fun h8 => ?_)
  · refine ng_aload_0 dX9_one_17 ?_
    refine ng_aload_0 dX9_one_18 ?_
    refine ng_gI dX9_one_19 fl_X9_187 (by first | rfl | assumption) ?_
    refine ng_iconst_5 dX9_one_22 ?_
    rw [ng_RF_8]
    refine ng_icmp_ne 30 dX9_one_23 (by decide +kernel) (fun h23 => ?_) (fun h23 => ?_)
    · exact absurd rfl h23
    · refine ng_iconst_1 dX9_one_26 ?_
      refine ng_goto 31 dX9_one_27 (by decide +kernel) ?_
      refine ng_pI dX9_one_31 fp_X9_140 (by first | rfl | assumption) rfl rfl ?_
      rw [ng_RF_w1]
      refine ng_aload_0 dX9_one_34 ?_
      refine ng_gI dX9_one_35 fl_X9_140 (by first | rfl | assumption) ?_
      rw [ng_RF_10]
      refine ng_ifb_ne 247 dX9_one_38 (by decide +kernel) (fun h38 => ?_) (fun h38 => ?_)
      · exact ng_return dX9_one_247 ⟨rfl, by first | rw [ng_qq_0b (Or.inl h8), List.append_nil]; rfl | rw [ng_qq_0b (Or.inr h14), List.append_nil]; rfl⟩
      · exact absurd h38 (by decide)
  · refine ng_iload_1 dX9_one_11 ?_
    refine ng_bipush (v := 40) dX9_one_12 (by decide) ?_
    refine ng_icmp_ne 116 dX9_one_14 (by decide +kernel) (fun h14 => ?_) (fun h14 => ?_)
    · exact a_X9_one hc (by decide) hp hl ⟨rfl, rfl⟩
    · refine ng_aload_0 dX9_one_17 ?_
      refine ng_aload_0 dX9_one_18 ?_
      refine ng_gI dX9_one_19 fl_X9_187 (by first | rfl | assumption) ?_
      refine ng_iconst_5 dX9_one_22 ?_
      rw [ng_RF_8]
      refine ng_icmp_ne 30 dX9_one_23 (by decide +kernel) (fun h23 => ?_) (fun h23 => ?_)
      · exact absurd rfl h23
      · refine ng_iconst_1 dX9_one_26 ?_
        refine ng_goto 31 dX9_one_27 (by decide +kernel) ?_
        refine ng_pI dX9_one_31 fp_X9_140 (by first | rfl | assumption) rfl rfl ?_
        rw [ng_RF_w1]
        refine ng_aload_0 dX9_one_34 ?_
        refine ng_gI dX9_one_35 fl_X9_140 (by first | rfl | assumption) ?_
        rw [ng_RF_10]
        refine ng_ifb_ne 247 dX9_one_38 (by decide +kernel) (fun h38 => ?_) (fun h38 => ?_)
        · exact ng_return dX9_one_247 ⟨rfl, by first | rw [ng_qq_0b (Or.inl h8), List.append_nil]; rfl | rw [ng_qq_0b (Or.inr h14), List.append_nil]; rfl⟩
        · exact absurd h38 (by decide)
theorem s_X9_ones {X : Nat × (Nat → Int32)} {M : ng_M} {H : Nat → Int32} {L d O w : Nat} {u : Int32} (hc : ng_RG M H L u) (hd : 6 ≤ d) (hO : O < 5) (hs : ng_KF X M L d mi_X9_one (O + 1) (ng_qq H u w)) : ng_KF X M L (d + 6) mi_X9_one O (ng_qq H u (w + 1)) := by
  intro p cs hp hl
  refine ng_EvX.ofV (lv := [some (.ref 73), none, none, none]) (by decide) (Nat.le_of_ble_eq_true rfl) rfl rfl ?_
  refine ng_aload_0 dX9_one_0 ?_
  refine ng_callV_0x (y2 := mi_X9_here) dX9_one_1 lk_X9_148 ms_X9_here my_X9_here (by first | exact ⟨_, rfl⟩ | assumption | exact ng_fld_obj (f := 0) (by assumption)) mc_X9 (by first | decide | exact Nat.le_of_ble_eq_true rfl) (s_X9_here hc hp) (by omega) ?_
  rw [if_neg (by decide)]
  refine ng_istore_1 dX9_one_4 (by first | rfl | assumption) ?_
  refine ng_iload_1 dX9_one_5 ?_
  refine ng_bipush (v := 33) dX9_one_6 (by decide) ?_
  refine ng_icmp_eq 17 dX9_one_8 (by decide +kernel) (fun h8 => ?_) (fun h8 => ?_)
  · refine ng_aload_0 dX9_one_17 ?_
    refine ng_aload_0 dX9_one_18 ?_
    refine ng_gI dX9_one_19 fl_X9_187 (by first | rfl | assumption) ?_
    refine ng_iconst_5 dX9_one_22 ?_
    rw [ng_RF_8]
    refine ng_icmp_ne 30 dX9_one_23 (by decide +kernel) (fun h23 => ?_) (fun h23 => ?_)
    · refine ng_iconst_0 dX9_one_30 ?_
      refine ng_pI dX9_one_31 fp_X9_140 (by first | rfl | assumption) rfl rfl ?_
      rw [ng_RF_w0]
      refine ng_aload_0 dX9_one_34 ?_
      refine ng_gI dX9_one_35 fl_X9_140 (by first | rfl | assumption) ?_
      rw [ng_RF_10]
      refine ng_ifb_ne 247 dX9_one_38 (by decide +kernel) (fun h38 => ?_) (fun h38 => ?_)
      · exact absurd h38 (by decide)
      · refine ng_aload_0 dX9_one_41 ?_
        refine ng_dup dX9_one_42 rfl ?_
        refine ng_gI dX9_one_43 fl_X9_187 (by first | rfl | assumption) ?_
        refine ng_iconst_1 dX9_one_46 ?_
        refine ng_iadd dX9_one_47 ?_
        refine ng_pI dX9_one_48 fp_X9_187 (by first | rfl | assumption) rfl rfl ?_
        rw [ng_RF_op]
        refine ng_aload_0 dX9_one_51 ?_
        refine ng_dup dX9_one_52 rfl ?_
        refine ng_gI dX9_one_53 fl_X9_144 (by first | rfl | assumption) ?_
        refine ng_iconst_1 dX9_one_56 ?_
        refine ng_iadd dX9_one_57 ?_
        refine ng_pI dX9_one_58 fp_X9_144 (by first | rfl | assumption) rfl rfl ?_
        rw [ng_RF_pp]
        first
        | (rw [ng_qq_s33 h8]
           exact b_X9_one hc hd hs (hc.1.lt (by rw [h8]; decide)) hl h8 ⟨rfl, rfl⟩)
        | (rw [ng_qq_s40 h14]
           exact c_X9_one hc hd hs (hc.1.lt (by rw [h14]; decide)) hl h8 ⟨rfl, rfl⟩)
    · exact absurd ((nI_eq (a := O) (b := 5) (by omega) (by omega)).mp h23) (by omega)
  · refine ng_iload_1 dX9_one_11 ?_
    refine ng_bipush (v := 40) dX9_one_12 (by decide) ?_
    refine ng_icmp_ne 116 dX9_one_14 (by decide +kernel) (fun h14 => ?_) (fun h14 => ?_)
    · rw [ng_qq_sn h8 h14]
      exact a_X9_one hc (by omega) hp hl ⟨rfl, rfl⟩
    · refine ng_aload_0 dX9_one_17 ?_
      refine ng_aload_0 dX9_one_18 ?_
      refine ng_gI dX9_one_19 fl_X9_187 (by first | rfl | assumption) ?_
      refine ng_iconst_5 dX9_one_22 ?_
      rw [ng_RF_8]
      refine ng_icmp_ne 30 dX9_one_23 (by decide +kernel) (fun h23 => ?_) (fun h23 => ?_)
      · refine ng_iconst_0 dX9_one_30 ?_
        refine ng_pI dX9_one_31 fp_X9_140 (by first | rfl | assumption) rfl rfl ?_
        rw [ng_RF_w0]
        refine ng_aload_0 dX9_one_34 ?_
        refine ng_gI dX9_one_35 fl_X9_140 (by first | rfl | assumption) ?_
        rw [ng_RF_10]
        refine ng_ifb_ne 247 dX9_one_38 (by decide +kernel) (fun h38 => ?_) (fun h38 => ?_)
        · exact absurd h38 (by decide)
        · refine ng_aload_0 dX9_one_41 ?_
          refine ng_dup dX9_one_42 rfl ?_
          refine ng_gI dX9_one_43 fl_X9_187 (by first | rfl | assumption) ?_
          refine ng_iconst_1 dX9_one_46 ?_
          refine ng_iadd dX9_one_47 ?_
          refine ng_pI dX9_one_48 fp_X9_187 (by first | rfl | assumption) rfl rfl ?_
          rw [ng_RF_op]
          refine ng_aload_0 dX9_one_51 ?_
          refine ng_dup dX9_one_52 rfl ?_
          refine ng_gI dX9_one_53 fl_X9_144 (by first | rfl | assumption) ?_
          refine ng_iconst_1 dX9_one_56 ?_
          refine ng_iadd dX9_one_57 ?_
          refine ng_pI dX9_one_58 fp_X9_144 (by first | rfl | assumption) rfl rfl ?_
          rw [ng_RF_pp]
          first
          | (rw [ng_qq_s33 h8]
             exact b_X9_one hc hd hs (hc.1.lt (by rw [h8]; decide)) hl h8 ⟨rfl, rfl⟩)
          | (rw [ng_qq_s40 h14]
             exact c_X9_one hc hd hs (hc.1.lt (by rw [h14]; decide)) hl h8 ⟨rfl, rfl⟩)
      · exact absurd ((nI_eq (a := O) (b := 5) (by omega) (by omega)).mp h23) (by omega)
theorem s_X9_read {X : Nat × (Nat → Int32)} {M : ng_M} {H : Nat → Int32} {L : Nat} {u : Int32} (hc : ng_RG M H L u) : ng_KF X M L 41 mi_X9_either 0 (ng_tt H (ng_qq H u 5)) := by
  have c0 := s_X9_one0 (X := X) hc
  have c1 := s_X9_ones (O := 4) hc (by decide) (by decide) c0
  have c2 := s_X9_ones (O := 3) hc (by decide) (by decide) c1
  have c3 := s_X9_ones (O := 2) hc (by decide) (by decide) c2
  have c4 := s_X9_ones (O := 1) hc (by decide) (by decide) c3
  have c5 := s_X9_ones (O := 0) hc (by decide) (by decide) c4
  exact s_X9_tt hc (ng_gd.qq hc.1 5) (by decide) c5
