/-! ===== the class: what a text gives (Formula.gives, take) ===== -/
theorem ng_row_eq {M : ng_M} {k : Nat} {g : Nat → Int32} : ng_row M k g k = g := by simp [ng_row]
theorem ng_row_ne {M : ng_M} {k j : Nat} {g : Nat → Int32} (h : j ≠ k) : ng_row M k g j = M j := by simp [ng_row, h]
theorem ng_upd_eq {f : Nat → Int32} {k : Nat} {v : Int32} : upd f k v k = v := by simp [upd]
theorem ng_upd_ne {f : Nat → Int32} {k j : Nat} {v : Int32} (h : j ≠ k) : upd f k v j = f j := by simp [upd, h]
/-- one token of a text, as the class keeps it, over a pile -/
def ng_ck (nm : Nat → Int32) (s : List Int32) (t : Int32) : List Int32 :=
  if 10000 ≤ t then (if t = 10033 then (match s with | a :: r => (if a = 0 then 1 else 0) :: r | [] => []) else (match s with | b :: a :: r => ng_joined (t - 10000) a b :: r | _ => []))
  else (if 0 ≤ t then t else nm (-1 - t).toNatClampNeg) :: s
def ng_run (nm c : Nat → Int32) : Nat → List Int32
  | 0 => []
  | j + 1 => ng_ck nm (ng_run nm c j) (c j)
/-- a text as it must be: names are there, nothing is taken from too low a pile, one number stands at the end -/
def ng_tok (t : Int32) (h h' : Nat) : Prop := (¬ 10000 ≤ t ∧ -4 ≤ t.toInt ∧ h' = h + 1) ∨ (t = 10033 ∧ 1 ≤ h ∧ h' = h) ∨ (10000 ≤ t ∧ ¬ t = 10033 ∧ 2 ≤ h ∧ h' + 1 = h)
def ng_wt (c : Nat → Int32) (n : Nat) : Prop := n ≤ 50 ∧ ∃ H : Nat → Nat, H 0 = 0 ∧ H n = 1 ∧ ∀ j, j < n → ng_tok (c j) (H j) (H (j + 1))
theorem ng_run_len {nm c : Nat → Int32} {n : Nat} {H : Nat → Nat} (h0 : H 0 = 0) (hw : ∀ j, j < n → ng_tok (c j) (H j) (H (j + 1))) : ∀ j, j ≤ n → (ng_run nm c j).length = H j ∧ H j ≤ j := by
  intro j
  induction j with
  | zero => intro _; exact ⟨by simp [ng_run, h0], by omega⟩
  | succ j ih =>
    intro hj
    obtain ⟨i1, i2⟩ := ih (by omega)
    rcases hw j (by omega) with ⟨h1, h2, h3⟩ | ⟨h1, h2, h3⟩ | ⟨h1, h1', h2, h3⟩
    · refine ⟨?_, by omega⟩
      simp [ng_run, ng_ck, h1, i1, h3]
    · refine ⟨?_, by omega⟩
      rw [← i1] at h2 h3
      cases hs : ng_run nm c j with
      | nil => rw [hs] at h2; simp at h2
      | cons a r => rw [hs] at h3; simp [ng_run, ng_ck, h1, hs, h3]
    · refine ⟨?_, by omega⟩
      rw [← i1] at h2 h3
      cases hs : ng_run nm c j with
      | nil => rw [hs] at h2; simp at h2
      | cons b r =>
        cases r with
        | nil => rw [hs] at h2; simp at h2
        | cons a r => rw [hs] at h3; simp [ng_run, ng_ck, h1, h1', hs]; simp at h3; omega
def ng_n4 (a b c d : Int32) : Nat → Int32 := fun k => if k = 0 then a else if k = 1 then b else if k = 2 then c else d
/-- the pile in a row of numbers -/
def ng_pile (g : Nat → Int32) (s : List Int32) : Prop := ∀ j, j < s.length → g j = s.getD (s.length - 1 - j) 0
theorem ng_pile_push {g : Nat → Int32} {s : List Int32} {v : Int32} (h : ng_pile g s) : ng_pile (upd g s.length v) (v :: s) := by
  intro j hj
  simp only [List.length_cons] at hj ⊢
  by_cases e : j = s.length
  · subst e; rw [ng_upd_eq]; simp
  · rw [ng_upd_ne e, h j (by omega), show s.length + 1 - 1 - j = (s.length - 1 - j) + 1 by omega]
    simp
theorem ng_pile_top {g : Nat → Int32} {s : List Int32} {a v : Int32} (h : ng_pile g (a :: s)) : g s.length = a ∧ ng_pile (upd g s.length v) (v :: s) := by
  refine ⟨by have := h s.length (by simp); simpa using this, fun j hj => ?_⟩
  simp only [List.length_cons] at hj ⊢
  by_cases e : j = s.length
  · subst e; rw [ng_upd_eq]; simp
  · have := h j (by simp; omega)
    rw [ng_upd_ne e, this]
    simp only [List.length_cons]
    rw [show s.length + 1 - 1 - j = (s.length - 1 - j) + 1 by omega]
    simp
theorem ng_pile_two {g : Nat → Int32} {s : List Int32} {a b v : Int32} (h : ng_pile g (b :: a :: s)) : g s.length = a ∧ g (s.length + 1) = b ∧ ng_pile (upd g s.length v) (v :: s) := by
  refine ⟨by have := h s.length (by simp; omega); simpa using this, by have := h (s.length + 1) (by simp); simpa using this, fun j hj => ?_⟩
  simp only [List.length_cons] at hj ⊢
  by_cases e : j = s.length
  · subst e; rw [ng_upd_eq]; simp
  · have := h j (by simp; omega)
    rw [ng_upd_ne e, this]
    simp only [List.length_cons]
    rw [show s.length + 1 + 1 - 1 - j = (s.length - 1 - j) + 1 + 1 by omega, show s.length + 1 - 1 - j = (s.length - 1 - j) + 1 by omega]
    simp
theorem ng_nI_dec (n : Nat) : nI (n + 1) + (-1) = nI n := by
  rw [← Int32.sub_eq_add_neg]
  exact nI_pred n
theorem ng_neg_ix {t : Int32} (h : ¬ 0 ≤ t) (h4 : -4 ≤ t.toInt) : vp_in (-1 - t) 4 := by
  rw [ng_le, Int32.toInt_zero] at h
  have q : (-1 : Int32).toInt = -1 := rfl
  have e := Kit.i32_sub (x := -1) (y := t) (by rw [q]; omega) (by rw [q]; omega)
  rw [q] at e
  exact ng_vp (by omega) (by omega)
theorem ng_vp_lt {i : Int32} {n : Nat} (h : vp_in i n) : i.toNatClampNeg < n := Nat.not_le.mp fun q => h (Or.inr q)
theorem ng_n4_at {g : Nat → Int32} {a b c d : Int32} (ha : g 0 = a) (hb : g 1 = b) (hc : g 2 = c) (hd : g 3 = d) {z : Nat} (hz : z < 4) : g z = ng_n4 a b c d z := by
  match z, hz with
  | 0, _ => exact ha
  | 1, _ => exact hb
  | 2, _ => exact hc
  | 3, _ => exact hd
theorem l_X0_gives {X : Nat × (Nat → Int32)} {M : ng_M} {f n : Nat} (hf : ng_isF f) (hn : M f 1 = nI n) (hn50 : n ≤ 50) {H : Nat → Nat} (hH0 : H 0 = 0) (hH1 : H n = 1) (hw : ∀ j, j < n → ng_tok (M (f + 1) j) (H j) (H (j + 1))) {a b c d : Int32} :
    ∀ (m i : Nat) (x7 : Option Value) (M1 : ng_M), i + m = n → (∀ k, k ≠ f + 2 → k ≠ f + 3 → M1 k = M k) → M1 (f + 2) 0 = a → M1 (f + 2) 1 = b → M1 (f + 2) 2 = c → M1 (f + 2) 3 = d → ng_pile (M1 (f + 3)) (ng_run (ng_n4 a b c d) (M (f + 1)) i) →
    ng_Go X mi_X0_gives 2 35 [some (.ref f), some (.int a), some (.int b), some (.int c), some (.int d), some (.int (nI (H i))), some (.int (nI i)), x7] [] M1 (fun r' M' => ∃ v, r' = some (.int v) ∧ v = (ng_run (ng_n4 a b c d) (M (f + 1)) n).headD 0 ∧ ∀ k, k ≠ f + 2 → k ≠ f + 3 → M' k = M k) := by
  obtain ⟨hf0, hf1, hf2, hf3, hf4, hf5, hf6⟩ := ng_F hf
  have hlen := ng_run_len (nm := ng_n4 a b c d) hH0 hw
  intro m
  induction m with
  | zero =>
    intro i x7 M1 hi hM ha hb hc hd hp
    have hin : i = n := by omega
    subst hin
    have hr : ng_pile (M1 (f + 3)) (ng_run (ng_n4 a b c d) (M (f + 1)) i) := hp
    have h1 := (hlen i (Nat.le_refl _)).1
    rw [hH1] at h1
    have hm : M1 f 1 = nI i := by rw [hM f (by omega) (by omega)]; exact hn
    refine ng_iload_6 dX0_gives_35 ?_
    refine ng_aload_0 dX0_gives_37 ?_
    refine ng_gI dX0_gives_38 fl_X0_21 (by first | rfl | assumption) ?_
    refine ng_icmp_ge 193 dX0_gives_41 (by decide +kernel) (fun h41 => ?_) (fun h41 => ?_)
    · refine ng_aload_0 dX0_gives_193 ?_
      refine ng_gR dX0_gives_194 fl_X0_18 (by first | rfl | assumption) ?_
      refine ng_iconst_0 dX0_gives_197 ?_
      refine ng_iald dX0_gives_198 (by first | rfl | assumption) (by first | assumption | (unfold vp_in; decide)) ?_
      exact ng_ireturn dX0_gives_199 ⟨_, rfl, by
  have := hr 0 (by rw [h1]; decide)
  rw [h1] at this
  cases hs : ng_run (ng_n4 a b c d) (M (f + 1)) i with
  | nil => rw [hs] at h1; simp at h1
  | cons z r => rw [hs] at this; simpa using this, hM⟩
    · exact absurd (by rw [hm]; exact Int32.le_refl _) h41
  | succ m ih =>
    intro i x7 M1 hi hM ha hb hc hd hp
    have hm : M1 f 1 = nI n := by rw [hM f (by omega) (by omega)]; exact hn
    have hcd : M1 (f + 1) = M (f + 1) := hM (f + 1) (by omega) (by omega)
    obtain ⟨hl1, hl2⟩ := hlen i (by omega)
    have hlt : ¬ M1 f 1 ≤ nI i := by rw [hm]; exact nI_ge (by omega) (by omega)
    have hvi : vp_in (nI i) 50 := vp_in_nI (by omega) (by omega)
    have hci : M1 (f + 1) (nI i).toNatClampNeg = M (f + 1) i := by rw [hcd, nI_clamp (by omega)]
    have nxt : ∀ (y7 : Option Value) (M2 : ng_M), (∀ k, k ≠ f + 2 → k ≠ f + 3 → M2 k = M k) → M2 (f + 2) 0 = a → M2 (f + 2) 1 = b → M2 (f + 2) 2 = c → M2 (f + 2) 3 = d → ng_pile (M2 (f + 3)) (ng_run (ng_n4 a b c d) (M (f + 1)) (i + 1)) → ng_Go X mi_X0_gives 2 187 [some (.ref f), some (.int a), some (.int b), some (.int c), some (.int d), some (.int (nI (H (i + 1)))), some (.int (nI i)), y7] [] M2 (fun r' M' => ∃ v, r' = some (.int v) ∧ v = (ng_run (ng_n4 a b c d) (M (f + 1)) n).headD 0 ∧ ∀ k, k ≠ f + 2 → k ≠ f + 3 → M' k = M k) := by
      intro y7 M2 g1 g2 g3 g4 g5 g6
      refine ng_iinc_6 (w := 1) dX0_gives_187 (by decide) rfl ?_
      refine ng_goto 35 dX0_gives_190 (by decide +kernel) ?_
      rw [nI_1]
      exact ih (i + 1) y7 M2 (by omega) g1 g2 g3 g4 g5 g6
    rcases hw i (by omega) with ⟨h1, h2, h3⟩ | ⟨h1, h2, h3⟩ | ⟨h1, h1', h2, h3⟩
    · have hvh : vp_in (nI (H i)) 50 := vp_in_nI (by omega) (by omega)
      have hkk : ∀ (y7 : Option Value) (v : Int32), v = (if 0 ≤ M (f + 1) i then M (f + 1) i else ng_n4 a b c d (-1 - M (f + 1) i).toNatClampNeg) → ng_Go X mi_X0_gives 2 187 [some (.ref f), some (.int a), some (.int b), some (.int c), some (.int d), some (.int (nI (H i) + 1)), some (.int (nI i)), y7] [] (ng_row M1 (f + 3) (upd (M1 (f + 3)) (nI (H i)).toNatClampNeg v)) (fun r' M' => ∃ v, r' = some (.int v) ∧ v = (ng_run (ng_n4 a b c d) (M (f + 1)) n).headD 0 ∧ ∀ k, k ≠ f + 2 → k ≠ f + 3 → M' k = M k) := by
        intro y7 v hv
        rw [nI_1, ← h3]
        refine nxt y7 _ (fun k k1 k2 => by rw [ng_row_ne k2]; exact hM k k1 k2) (by rw [ng_row_ne (by omega)]; exact ha) (by rw [ng_row_ne (by omega)]; exact hb) (by rw [ng_row_ne (by omega)]; exact hc) (by rw [ng_row_ne (by omega)]; exact hd) ?_
        rw [ng_row_eq, nI_clamp (by omega), ← hl1]
        simp only [ng_run, ng_ck, h1, if_false]
        rw [← hv]
        exact ng_pile_push hp
      refine ng_iload_6 dX0_gives_35 ?_
      refine ng_aload_0 dX0_gives_37 ?_
      refine ng_gI dX0_gives_38 fl_X0_21 (by first | rfl | assumption) ?_
      refine ng_icmp_ge 193 dX0_gives_41 (by decide +kernel) (fun h41 => ?_) (fun h41 => ?_)
      · exact absurd h41 hlt
      · refine ng_aload_0 dX0_gives_44 ?_
        refine ng_gR dX0_gives_45 fl_X0_9 (by first | rfl | assumption) ?_
        refine ng_iload_6 dX0_gives_48 ?_
        refine ng_iald dX0_gives_50 (by first | rfl | assumption) (by first | assumption | (unfold vp_in; decide)) ?_
        refine ng_istore_7 dX0_gives_51 rfl ?_
        refine ng_iload_7 dX0_gives_53 ?_
        refine ng_sipush (v := 10000) dX0_gives_55 (by decide) ?_
        refine ng_icmp_ge 102 dX0_gives_58 (by decide +kernel) (fun h58 => ?_) (fun h58 => ?_)
        · exact absurd (by rw [hci] at h58; exact h58) h1
        · refine ng_iload_5 dX0_gives_61 ?_
          refine ng_aload_0 dX0_gives_63 ?_
          refine ng_gR dX0_gives_64 fl_X0_18 (by first | rfl | assumption) ?_
          refine ng_alen dX0_gives_67 (by first | rfl | assumption) ?_
          refine ng_icmp_ge 102 dX0_gives_68 (by decide +kernel) (fun h68 => ?_) (fun h68 => ?_)
          · exact absurd (show nI 50 ≤ nI (H i) from h68) (nI_ge (by omega) (by omega))
          · refine ng_aload_0 dX0_gives_71 ?_
            refine ng_gR dX0_gives_72 fl_X0_18 (by first | rfl | assumption) ?_
            refine ng_iload_5 dX0_gives_75 ?_
            refine ng_iload_7 dX0_gives_77 ?_
            refine ng_if_ge 93 dX0_gives_79 (by decide +kernel) (fun h79 => ?_) (fun h79 => ?_)
            · refine ng_iload_7 dX0_gives_93 ?_
              refine ng_iast dX0_gives_95 (by first | rfl | assumption) (by first | assumption | (unfold vp_in; decide)) ?_
              refine ng_iinc_5 (w := 1) dX0_gives_96 (by decide) rfl ?_
              refine ng_goto 187 dX0_gives_99 (by decide +kernel) ?_
              refine hkk _ _ ?_
              rw [hci] at h79 ⊢
              first | (rw [if_pos h79]; done) | (rw [if_neg h79]; exact ng_n4_at ha hb hc hd (ng_vp_lt (ng_neg_ix h79 h2)))
            · refine ng_aload_0 dX0_gives_82 ?_
              refine ng_iconst_m1 dX0_gives_83 ?_
              refine ng_iload_7 dX0_gives_84 ?_
              refine ng_isub dX0_gives_86 ?_
              refine ng_callV_1x (y2 := mi_X0_named) dX0_gives_87 lk_X0_41 ms_X0_named my_X0_named (by first | exact ⟨_, rfl⟩ | assumption | exact ng_fld_obj (f := 0) (by assumption)) mc_X0 (by first | decide | exact Nat.le_of_ble_eq_true rfl) (s_X0_named hf (by rw [hci] at h79 ⊢; exact ng_neg_ix h79 h2)) (by decide) ?_
              refine ng_goto 95 dX0_gives_90 (by decide +kernel) ?_
              refine ng_iast dX0_gives_95 (by first | rfl | assumption) (by first | assumption | (unfold vp_in; decide)) ?_
              refine ng_iinc_5 (w := 1) dX0_gives_96 (by decide) rfl ?_
              refine ng_goto 187 dX0_gives_99 (by decide +kernel) ?_
              refine hkk _ _ ?_
              rw [hci] at h79 ⊢
              first | (rw [if_pos h79]; done) | (rw [if_neg h79]; exact ng_n4_at ha hb hc hd (ng_vp_lt (ng_neg_ix h79 h2)))
    · have hpos : ¬ nI (H i) ≤ 0 := nI_nle (by omega) (by omega)
      cases hs : ng_run (ng_n4 a b c d) (M (f + 1)) i with
      | nil => rw [hs] at hl1; simp at hl1; omega
      | cons z r =>
      rw [hs] at hl1 hp
      simp only [List.length_cons] at hl1
      have hH : H i = r.length + 1 := hl1.symm
      have hix : (nI (H i) - 1).toNatClampNeg = r.length := by rw [hH, nI_pred, nI_clamp (by omega)]
      have hvh : vp_in (nI (H i) - 1) 50 := by rw [hH, nI_pred]; exact vp_in_nI (by omega) (by omega)
      have htop : M1 (f + 3) (nI (H i) - 1).toNatClampNeg = z := by rw [hix]; exact (ng_pile_top (v := 0) hp).1
      have hkk : ∀ (y7 : Option Value) (v : Int32), v = (if z = 0 then 1 else 0) → ng_Go X mi_X0_gives 2 187 [some (.ref f), some (.int a), some (.int b), some (.int c), some (.int d), some (.int (nI (H i))), some (.int (nI i)), y7] [] (ng_row M1 (f + 3) (upd (M1 (f + 3)) (nI (H i) - 1).toNatClampNeg v)) (fun r' M' => ∃ v, r' = some (.int v) ∧ v = (ng_run (ng_n4 a b c d) (M (f + 1)) n).headD 0 ∧ ∀ k, k ≠ f + 2 → k ≠ f + 3 → M' k = M k) := by
        intro y7 v hv
        rw [← h3]
        refine nxt y7 _ (fun k k1 k2 => by rw [ng_row_ne k2]; exact hM k k1 k2) (by rw [ng_row_ne (by omega)]; exact ha) (by rw [ng_row_ne (by omega)]; exact hb) (by rw [ng_row_ne (by omega)]; exact hc) (by rw [ng_row_ne (by omega)]; exact hd) ?_
        rw [ng_row_eq, h3, hix]
        have e : ng_run (ng_n4 a b c d) (M (f + 1)) (i + 1) = v :: r := by
          show ng_ck _ (ng_run _ _ i) _ = _
          rw [hs, h1, hv]
          rfl
        rw [e]
        exact (ng_pile_top hp).2
      refine ng_iload_6 dX0_gives_35 ?_
      refine ng_aload_0 dX0_gives_37 ?_
      refine ng_gI dX0_gives_38 fl_X0_21 (by first | rfl | assumption) ?_
      refine ng_icmp_ge 193 dX0_gives_41 (by decide +kernel) (fun h41 => ?_) (fun h41 => ?_)
      · exact absurd h41 hlt
      · refine ng_aload_0 dX0_gives_44 ?_
        refine ng_gR dX0_gives_45 fl_X0_9 (by first | rfl | assumption) ?_
        refine ng_iload_6 dX0_gives_48 ?_
        refine ng_iald dX0_gives_50 (by first | rfl | assumption) (by first | assumption | (unfold vp_in; decide)) ?_
        refine ng_istore_7 dX0_gives_51 rfl ?_
        refine ng_iload_7 dX0_gives_53 ?_
        refine ng_sipush (v := 10000) dX0_gives_55 (by decide) ?_
        refine ng_icmp_ge 102 dX0_gives_58 (by decide +kernel) (fun h58 => ?_) (fun h58 => ?_)
        · refine ng_iload_7 dX0_gives_102 ?_
          refine ng_sipush (v := 10033) dX0_gives_104 (by decide) ?_
          refine ng_icmp_ne 144 dX0_gives_107 (by decide +kernel) (fun h107 => ?_) (fun h107 => ?_)
          · exact absurd (by rw [hci, h1]) h107
          · refine ng_iload_5 dX0_gives_110 ?_
            refine ng_if_le 144 dX0_gives_112 (by decide +kernel) (fun h112 => ?_) (fun h112 => ?_)
            · exact absurd h112 hpos
            · refine ng_aload_0 dX0_gives_115 ?_
              refine ng_gR dX0_gives_116 fl_X0_18 (by first | rfl | assumption) ?_
              refine ng_iload_5 dX0_gives_119 ?_
              refine ng_iconst_1 dX0_gives_121 ?_
              refine ng_isub dX0_gives_122 ?_
              refine ng_aload_0 dX0_gives_123 ?_
              refine ng_gR dX0_gives_124 fl_X0_18 (by first | rfl | assumption) ?_
              refine ng_iload_5 dX0_gives_127 ?_
              refine ng_iconst_1 dX0_gives_129 ?_
              refine ng_isub dX0_gives_130 ?_
              refine ng_iald dX0_gives_131 (by first | rfl | assumption) (by first | assumption | (unfold vp_in; decide)) ?_
              refine ng_if_ne 139 dX0_gives_132 (by decide +kernel) (fun h132 => ?_) (fun h132 => ?_)
              · refine ng_iconst_0 dX0_gives_139 ?_
                refine ng_iast dX0_gives_140 (by first | rfl | assumption) (by first | assumption | (unfold vp_in; decide)) ?_
                refine ng_goto 187 dX0_gives_141 (by decide +kernel) ?_
                exact hkk _ _ (by rw [htop] at h132; simp [h132])
              · refine ng_iconst_1 dX0_gives_135 ?_
                refine ng_goto 140 dX0_gives_136 (by decide +kernel) ?_
                refine ng_iast dX0_gives_140 (by first | rfl | assumption) (by first | assumption | (unfold vp_in; decide)) ?_
                refine ng_goto 187 dX0_gives_141 (by decide +kernel) ?_
                exact hkk _ _ (by rw [htop] at h132; simp [h132])
        · exact absurd (by rw [hci, h1]; decide) h58
    · cases hs : ng_run (ng_n4 a b c d) (M (f + 1)) i with
      | nil => rw [hs] at hl1; simp at hl1; omega
      | cons z2 r0 =>
      cases r0 with
      | nil => rw [hs] at hl1; simp at hl1; omega
      | cons z1 r =>
      rw [hs] at hl1 hp
      simp only [List.length_cons] at hl1
      have hH : H i = r.length + 1 + 1 := hl1.symm
      have hH1' : nI (H i) + (-1) = nI (r.length + 1) := by rw [hH, ng_nI_dec]
      have hge : ¬ nI (H i) ≤ 1 := by rw [hH]; exact nI_ge (a := 1) (by omega) (by omega)
      have hix : (nI (r.length + 1) - 1).toNatClampNeg = r.length := by rw [nI_pred, nI_clamp (by omega)]
      have hix2 : (nI (r.length + 1)).toNatClampNeg = r.length + 1 := nI_clamp (by omega)
      have hvh : vp_in (nI (r.length + 1) - 1) 50 := by rw [nI_pred]; exact vp_in_nI (by omega) (by omega)
      have hvh2 : vp_in (nI (r.length + 1)) 50 := vp_in_nI (by omega) (by omega)
      obtain ⟨q1, q2, -⟩ := ng_pile_two (v := 0) hp
      refine ng_iload_6 dX0_gives_35 ?_
      refine ng_aload_0 dX0_gives_37 ?_
      refine ng_gI dX0_gives_38 fl_X0_21 (by first | rfl | assumption) ?_
      refine ng_icmp_ge 193 dX0_gives_41 (by decide +kernel) (fun h41 => ?_) (fun h41 => ?_)
      · exact absurd h41 hlt
      · refine ng_aload_0 dX0_gives_44 ?_
        refine ng_gR dX0_gives_45 fl_X0_9 (by first | rfl | assumption) ?_
        refine ng_iload_6 dX0_gives_48 ?_
        refine ng_iald dX0_gives_50 (by first | rfl | assumption) (by first | assumption | (unfold vp_in; decide)) ?_
        refine ng_istore_7 dX0_gives_51 rfl ?_
        refine ng_iload_7 dX0_gives_53 ?_
        refine ng_sipush (v := 10000) dX0_gives_55 (by decide) ?_
        refine ng_icmp_ge 102 dX0_gives_58 (by decide +kernel) (fun h58 => ?_) (fun h58 => ?_)
        · refine ng_iload_7 dX0_gives_102 ?_
          refine ng_sipush (v := 10033) dX0_gives_104 (by decide) ?_
          refine ng_icmp_ne 144 dX0_gives_107 (by decide +kernel) (fun h107 => ?_) (fun h107 => ?_)
          · refine ng_iload_5 dX0_gives_144 ?_
            refine ng_iconst_1 dX0_gives_146 ?_
            refine ng_icmp_le 187 dX0_gives_147 (by decide +kernel) (fun h147 => ?_) (fun h147 => ?_)
            · exact absurd h147 hge
            · refine ng_iinc_5 (w := (-1)) dX0_gives_150 (by decide) rfl ?_
              rw [hH1']
              refine ng_aload_0 dX0_gives_153 ?_
              refine ng_gR dX0_gives_154 fl_X0_18 (by first | rfl | assumption) ?_
              refine ng_iload_5 dX0_gives_157 ?_
              refine ng_iconst_1 dX0_gives_159 ?_
              refine ng_isub dX0_gives_160 ?_
              refine ng_iload_7 dX0_gives_161 ?_
              refine ng_sipush (v := 10000) dX0_gives_163 (by decide) ?_
              refine ng_isub dX0_gives_166 ?_
              refine ng_aload_0 dX0_gives_167 ?_
              refine ng_gR dX0_gives_168 fl_X0_18 (by first | rfl | assumption) ?_
              refine ng_iload_5 dX0_gives_171 ?_
              refine ng_iconst_1 dX0_gives_173 ?_
              refine ng_isub dX0_gives_174 ?_
              refine ng_iald dX0_gives_175 (by first | rfl | assumption) (by first | assumption | (unfold vp_in; decide)) ?_
              refine ng_aload_0 dX0_gives_176 ?_
              refine ng_gR dX0_gives_177 fl_X0_18 (by first | rfl | assumption) ?_
              refine ng_iload_5 dX0_gives_180 ?_
              refine ng_iald dX0_gives_182 (by first | rfl | assumption) (by first | assumption | (unfold vp_in; decide)) ?_
              refine ng_callS_3x (y2 := mi_X0_joined) dX0_gives_183 lk_X0_45 ms_X0_joined my_X0_joined (by first | decide | exact Nat.le_of_ble_eq_true rfl) (s_X0_joined) (by decide) ?_
              refine ng_iast dX0_gives_186 (by first | rfl | assumption) (by first | assumption | (unfold vp_in; decide)) ?_
              rw [hix, hix2, q1, q2, hci, show r.length + 1 = H (i + 1) by omega]
              refine nxt _ _ (fun k k1 k2 => by rw [ng_row_ne k2]; exact hM k k1 k2) (by rw [ng_row_ne (by omega)]; exact ha) (by rw [ng_row_ne (by omega)]; exact hb) (by rw [ng_row_ne (by omega)]; exact hc) (by rw [ng_row_ne (by omega)]; exact hd) ?_
              rw [ng_row_eq]
              have e : ng_run (ng_n4 a b c d) (M (f + 1)) (i + 1) = ng_joined (M (f + 1) i - 10000) z1 z2 :: r := by
                show ng_ck _ (ng_run _ _ i) _ = _
                rw [hs]
                simp [ng_ck, h1, h1']
              rw [e]
              exact (ng_pile_two hp).2.2
          · exact absurd (by rw [hci] at h107; exact h107) h1'
        · exact absurd (by rw [hci]; exact h1) h58
theorem s_X0_gives {X : Nat × (Nat → Int32)} {M : ng_M} {f n : Nat} (hf : ng_isF f) (hn : M f 1 = nI n) (hw : ng_wt (M (f + 1)) n) {a b c d : Int32} : ng_EvI X 2 mi_X0_gives [.ref f, .int a, .int b, .int c, .int d] M (fun v M' => v = (ng_run (ng_n4 a b c d) (M (f + 1)) n).headD 0 ∧ ∀ k, k ≠ f + 2 → k ≠ f + 3 → M' k = M k) := by
  obtain ⟨hn50, H, hH0, hH1, hw⟩ := hw
  obtain ⟨hf0, hf1, hf2, hf3, hf4, hf5, hf6⟩ := ng_F hf
  refine ng_EvI.of (lv := [some (.ref f), some (.int a), some (.int b), some (.int c), some (.int d), none, none, none]) (ty := .int) (by decide) (Nat.le_of_ble_eq_true rfl) rfl rfl (fun _ _ _ => rfl) ?_
  refine ng_aload_0 dX0_gives_0 ?_
  refine ng_gR dX0_gives_1 fl_X0_15 (by first | rfl | assumption) ?_
  refine ng_iconst_0 dX0_gives_4 ?_
  refine ng_iload_1 dX0_gives_5 ?_
  refine ng_iast dX0_gives_6 (by first | rfl | assumption) (by first | assumption | (unfold vp_in; decide)) ?_
  refine ng_aload_0 dX0_gives_7 ?_
  refine ng_gR dX0_gives_8 fl_X0_15 (by first | rfl | assumption) ?_
  refine ng_iconst_1 dX0_gives_11 ?_
  refine ng_iload_2 dX0_gives_12 ?_
  refine ng_iast dX0_gives_13 (by first | rfl | assumption) (by first | assumption | (unfold vp_in; decide)) ?_
  refine ng_aload_0 dX0_gives_14 ?_
  refine ng_gR dX0_gives_15 fl_X0_15 (by first | rfl | assumption) ?_
  refine ng_iconst_2 dX0_gives_18 ?_
  refine ng_iload_3 dX0_gives_19 ?_
  refine ng_iast dX0_gives_20 (by first | rfl | assumption) (by first | assumption | (unfold vp_in; decide)) ?_
  refine ng_aload_0 dX0_gives_21 ?_
  refine ng_gR dX0_gives_22 fl_X0_15 (by first | rfl | assumption) ?_
  refine ng_iconst_3 dX0_gives_25 ?_
  refine ng_iload_4 dX0_gives_26 ?_
  refine ng_iast dX0_gives_28 (by first | rfl | assumption) (by first | assumption | (unfold vp_in; decide)) ?_
  refine ng_iconst_0 dX0_gives_29 ?_
  refine ng_istore_5 dX0_gives_30 rfl ?_
  refine ng_iconst_0 dX0_gives_32 ?_
  refine ng_istore_6 dX0_gives_33 rfl ?_
  refine (show ng_Go X mi_X0_gives 2 35 [some (.ref f), some (.int a), some (.int b), some (.int c), some (.int d), some (.int (nI (H 0))), some (.int (nI 0)), none] [] _ _ from l_X0_gives hf hn hn50 hH0 hH1 hw n 0 none _ (by omega) ?_ ?_ ?_ ?_ ?_ ?_) |> (fun h => by rw [hH0] at h; exact h)
  · intro k k1 k2; simp [ng_row, k1]
  · simp [ng_row, upd]
  · simp [ng_row, upd]
  · simp [ng_row, upd]
  · simp [ng_row, upd]
  · intro j hj; simp [ng_run] at hj
