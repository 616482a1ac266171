/-! ===== how a text is read: pure ===== -/
abbrev ng_Rs : Type := Bool × Nat × List Int32
def ng_dg (c : Int32) : Bool := ng_in c 48 57
def ng_nmi (u c : Int32) : Int32 := if u = 0 then (if c = 119 then 0 else if c = 110 then 1 else if c = 108 then 2 else if c = 104 then 3 else -1) else (if c = 115 then 0 else if c = 107 then 1 else if c = 110 then 2 else if c = 117 then 3 else -1)
def ng_ro (c : Int32) : Int32 := if c = 37 then 4 else if c = 38 then 1 else if c = 42 then 4 else if c = 43 then 3 else if c = 45 then 3 else if c = 47 then 4 else if c = 60 then 2 else if c = 61 then 2 else if c = 62 then 2 else if c = 124 then 0 else -1
def ng_oc (c : Int32) : Int32 := if c = 124 then 20000 else if c = 38 then 20001 else if c = 60 then 20002 else if c = 61 then 20003 else if c = 62 then 20004 else if c = 43 then 20005 else if c = 45 then 20006 else if c = 42 then 20007 else if c = 47 then 20008 else if c = 37 then 20009 else 20010
def ng_nu (H : Nat → Int32) : Nat → Nat → Int32 → Nat × Int32
  | 0, p, v => (p, v)
  | n + 1, p, v => if ng_dg (H p) = true then ng_nu H n (p + 1) (10 * v + H p - 48) else (p, v)
def ng_jl (H : Nat → Int32) (r : Int32) (f : Nat → ng_Rs) : Nat → Nat → List Int32 → ng_Rs
  | 0, q, cs => (true, q, cs)
  | n + 1, q, cs => if ng_ro (H q) = r then (if (f (q + 1)).1 = true then ng_jl H r f n (f (q + 1)).2.1 (cs ++ (f (q + 1)).2.2 ++ [ng_oc (H q)]) else (false, (f (q + 1)).2.1, cs ++ (f (q + 1)).2.2)) else (true, q, cs)
def ng_jn (H : Nat → Int32) (r : Int32) (lim : Nat) (f : Nat → ng_Rs) (p : Nat) : ng_Rs := if (f p).1 = true then ng_jl H r f lim (f p).2.1 (f p).2.2 else f p
def ng_tt (H : Nat → Int32) (f : Nat → ng_Rs) : Nat → ng_Rs := ng_jn H 0 50 (ng_jn H 1 50 (ng_jn H 2 1 (ng_jn H 3 50 (ng_jn H 4 50 f))))
def ng_q0 (H : Nat → Int32) (u : Int32) (f : Nat → ng_Rs) (p : Nat) : ng_Rs := if ng_dg (H p) = true then (true, (ng_nu H 4 p 0).1, [(ng_nu H 4 p 0).2]) else if 0 ≤ ng_nmi u (H p) then (true, p + 1, [10000 + ng_nmi u (H p)]) else f p
def ng_nt (f : Nat → ng_Rs) (p : Nat) : ng_Rs := ((f p).1, (f p).2.1, if (f p).1 = true then (f p).2.2 ++ [20010] else (f p).2.2)
def ng_is (H : Nat → Int32) (f : Nat → ng_Rs) (p : Nat) : ng_Rs := if (f p).1 = true ∧ H (f p).2.1 = 41 then (true, (f p).2.1 + 1, (f p).2.2) else (false, (f p).2.1, (f p).2.2)
def ng_qq (H : Nat → Int32) (u : Int32) : Nat → Nat → ng_Rs
  | 0 => ng_q0 H u (fun p => (false, p, []))
  | w + 1 => ng_q0 H u (fun p => if H p = 33 then ng_nt (ng_qq H u w) (p + 1) else if H p = 40 then ng_is H (ng_tt H (ng_qq H u w)) (p + 1) else (false, p, []))
/-! operators, names -/
theorem ng_ro_oc {c : Int32} (h : 0 ≤ ng_ro c) : ng_rv (ng_oc c) ∧ ng_un (ng_oc c) = 10000 + c ∧ 10000 ≤ ng_un (ng_oc c) ∧ ¬ ng_un (ng_oc c) = 10033 ∧ ¬ c = -1 := by
  have e : c = 124 ∨ c = 38 ∨ c = 60 ∨ c = 61 ∨ c = 62 ∨ c = 43 ∨ c = 45 ∨ c = 42 ∨ c = 47 ∨ c = 37 := by
    unfold ng_ro at h
    repeat' split at h
    all_goals first | (simp_all; done) | exact absurd h (by decide)
  rcases e with rfl | rfl | rfl | rfl | rfl | rfl | rfl | rfl | rfl | rfl <;> (refine ⟨?_, by decide, by decide, by decide, by decide⟩; unfold ng_rv; decide)
theorem ng_nmi_v {u c : Int32} (h : 0 ≤ ng_nmi u c) : ∃ i, i < 4 ∧ ng_nmi u c = nI i ∧ ¬ c = -1 := by
  unfold ng_nmi at h ⊢
  repeat' split at h
  all_goals first | exact absurd h (by decide) | skip
  all_goals simp_all
  all_goals first | exact ⟨0, by decide, by decide⟩ | exact ⟨1, by decide, by decide⟩ | exact ⟨2, by decide, by decide⟩ | exact ⟨3, by decide, by decide⟩
/-! what a code leaves on the pile -/
def ng_hw : List Int32 → Nat → Nat → Prop
  | [], h, h' => h = h'
  | c :: cs, h, h' => ∃ h1, ng_tok (ng_un c) h h1 ∧ ng_hw cs h1 h'
theorem ng_hw_app : ∀ {a b : List Int32} {h h1 h2 : Nat}, ng_hw a h h1 → ng_hw b h1 h2 → ng_hw (a ++ b) h h2
  | [], _, _, _, _, e, hb => by
    have e : _ = _ := e
    subst e
    exact hb
  | _ :: _, _, _, _, _, ⟨k, h3, h4⟩, hb => ⟨k, h3, ng_hw_app h4 hb⟩
def ng_hv (cs : List Int32) : Prop := (∀ c ∈ cs, ng_rv c) ∧ ∀ h, ng_hw cs h (h + 1)
theorem ng_hv_ne {cs : List Int32} (h : ng_hv cs) : 1 ≤ cs.length := by
  cases cs with
  | nil => exact absurd (h.2 0) (show ¬ (0 : Nat) = 1 by decide)
  | cons c cs => simp
theorem ng_hv_op {a b : List Int32} {c : Int32} (ha : ng_hv a) (hb : ng_hv b) (hc : 0 ≤ ng_ro c) : ng_hv (a ++ b ++ [ng_oc c]) := by
  obtain ⟨c1, c2, c3, c4, -⟩ := ng_ro_oc hc
  refine ⟨fun x hx => ?_, fun h => ng_hw_app (ng_hw_app (ha.2 h) (hb.2 (h + 1))) ⟨h + 1, Or.inr (Or.inr ⟨c3, c4, by omega, rfl⟩), rfl⟩⟩
  simp at hx
  rcases hx with q | q | q
  · exact ha.1 x q
  · exact hb.1 x q
  · subst q; exact c1
theorem ng_hv_not {a : List Int32} (ha : ng_hv a) : ng_hv (a ++ [20010]) := by
  refine ⟨fun x hx => ?_, fun h => ng_hw_app (ha.2 h) ⟨h + 1, Or.inr (Or.inl ⟨by decide, by omega, rfl⟩), rfl⟩⟩
  simp at hx
  rcases hx with q | q
  · exact ha.1 x q
  · subst q; unfold ng_rv; decide
theorem ng_hv_nm {i : Nat} (h : i < 4) : ng_hv [10000 + nI i] := by
  have e : i = 0 ∨ i = 1 ∨ i = 2 ∨ i = 3 := by omega
  have q : ng_rv (10000 + nI i) ∧ (¬ 10000 ≤ ng_un (10000 + nI i) ∧ -4 ≤ (ng_un (10000 + nI i)).toInt) := by
    unfold ng_rv
    rcases e with rfl | rfl | rfl | rfl <;> decide
  refine ⟨fun x hx => ?_, fun h => ⟨h + 1, Or.inl ⟨q.2.1, q.2.2, rfl⟩, rfl⟩⟩
  simp at hx
  subst hx
  exact q.1
theorem ng_hv_nu {v : Int32} (h0 : 0 ≤ v.toInt) (h1 : v.toInt ≤ 9999) : ng_hv [v] := by
  have e1 : (10000 : Int32).toInt = 10000 := by decide
  have lt : v < 10000 := by rw [ng_lt, e1]; omega
  have e : ng_un v = v := by rw [ng_un, if_pos lt]
  refine ⟨fun x hx => ?_, fun h => ⟨h + 1, Or.inl ⟨by rw [e]; exact Int32.not_le.mpr lt, by rw [e]; omega, rfl⟩, rfl⟩⟩
  simp at hx
  subst hx
  exact Or.inl ⟨h0, by omega⟩
theorem ng_hw_H : ∀ (cs : List Int32) (h h' : Nat), ng_hw cs h h' → ∃ G : Nat → Nat, G 0 = h ∧ G cs.length = h' ∧ ∀ j, j < cs.length → ng_tok (ng_un (cs.getD j 0)) (G j) (G (j + 1))
  | [], h, h', e => ⟨fun _ => h, rfl, e, fun j hj => absurd hj (by simp)⟩
  | c :: cs, h, h', ⟨h1, e1, e2⟩ => by
    obtain ⟨G, g0, g1, g2⟩ := ng_hw_H cs h1 h' e2
    refine ⟨fun j => match j with | 0 => h | j + 1 => G j, rfl, g1, fun j hj => ?_⟩
    cases j with
    | zero =>
      show ng_tok (ng_un c) h (G 0)
      rw [g0]
      exact e1
    | succ j => exact g2 j (by simp at hj; omega)
theorem ng_hv_wt {cs : List Int32} (h : ng_hv cs) (hl : cs.length ≤ 50) : ng_wt (fun j => ng_un (cs.getD j 0)) cs.length := by
  obtain ⟨G, g0, g1, g2⟩ := ng_hw_H cs 0 1 (h.2 0)
  exact ⟨hl, G, g0, g1, g2⟩
/-! what readings leave -/
def ng_hH (H : Nat → Int32) (L : Nat) : Prop := L ≤ 50 ∧ (∀ p, L ≤ p → H p = -1) ∧ ∀ p, p < L → 0 ≤ (H p).toInt ∧ (H p).toInt ≤ 255
def ng_gd (L : Nat) (f : Nat → ng_Rs) : Prop := ∀ p, p ≤ L → p ≤ (f p).2.1 ∧ (f p).2.1 ≤ L ∧ (f p).2.2.length + p ≤ (f p).2.1 ∧ ((f p).1 = true → ng_hv (f p).2.2)
theorem ng_hH.lt {H : Nat → Int32} {L p : Nat} (h : ng_hH H L) (hp : ¬ H p = -1) : p < L := Nat.not_le.mp (fun q => hp (h.2.1 p q))
theorem ng_gd.jl {H : Nat → Int32} {L : Nat} {r : Int32} {f : Nat → ng_Rs} (hH : ng_hH H L) (hr : 0 ≤ r) (hf : ng_gd L f) (p : Nat) : ∀ (n q : Nat) (cs : List Int32), p ≤ q → q ≤ L → cs.length + p ≤ q → ng_hv cs →
    q ≤ (ng_jl H r f n q cs).2.1 ∧ (ng_jl H r f n q cs).2.1 ≤ L ∧ (ng_jl H r f n q cs).2.2.length + p ≤ (ng_jl H r f n q cs).2.1 ∧ ((ng_jl H r f n q cs).1 = true → ng_hv (ng_jl H r f n q cs).2.2)
  | 0, q, cs, h1, h2, h3, h4 => ⟨Nat.le_refl _, h2, h3, fun _ => h4⟩
  | n + 1, q, cs, h1, h2, h3, h4 => by
    unfold ng_jl
    split
    · rename_i e
      have hc : 0 ≤ ng_ro (H q) := by rw [e]; exact hr
      have hq := hH.lt (ng_ro_oc hc).2.2.2.2
      obtain ⟨g1, g2, g3, g4⟩ := hf (q + 1) (by omega)
      split
      · rename_i e2
        obtain ⟨i1, i2, i3, i4⟩ := ng_gd.jl hH hr hf p n (f (q + 1)).2.1 (cs ++ (f (q + 1)).2.2 ++ [ng_oc (H q)]) (by omega) g2 (by simp; omega) (ng_hv_op h4 (g4 e2) hc)
        exact ⟨by omega, i2, i3, i4⟩
      · refine ⟨?_, g2, ?_, fun z => absurd z Bool.false_ne_true⟩
        · show q ≤ (f (q + 1)).2.1
          omega
        · show (cs ++ (f (q + 1)).2.2).length + p ≤ (f (q + 1)).2.1
          simp; omega
    · exact ⟨Nat.le_refl _, h2, h3, fun _ => h4⟩
theorem ng_gd.jn {H : Nat → Int32} {L lim : Nat} {r : Int32} {f : Nat → ng_Rs} (hH : ng_hH H L) (hr : 0 ≤ r) (hf : ng_gd L f) : ng_gd L (ng_jn H r lim f) := by
  intro p hp
  obtain ⟨g1, g2, g3, g4⟩ := hf p hp
  unfold ng_jn
  split
  · rename_i e
    obtain ⟨i1, i2, i3, i4⟩ := ng_gd.jl hH hr hf p lim (f p).2.1 (f p).2.2 g1 g2 g3 (g4 e)
    exact ⟨by omega, i2, i3, i4⟩
  · exact ⟨g1, g2, g3, g4⟩
theorem ng_gd.tt {H : Nat → Int32} {L : Nat} {f : Nat → ng_Rs} (hH : ng_hH H L) (hf : ng_gd L f) : ng_gd L (ng_tt H f) :=
  ng_gd.jn hH (by decide) (ng_gd.jn hH (by decide) (ng_gd.jn hH (by decide) (ng_gd.jn hH (by decide) (ng_gd.jn hH (by decide) hf))))
theorem ng_dg_lt {H : Nat → Int32} {L p : Nat} (hH : ng_hH H L) (h : ng_dg (H p) = true) : p < L ∧ 48 ≤ (H p).toInt ∧ (H p).toInt ≤ 57 := by
  have q := ng_inT.mp h
  rw [show (48 : Int32).toInt = 48 by decide, show (57 : Int32).toInt = 57 by decide] at q
  refine ⟨hH.lt (fun e => ?_), q.1, q.2⟩
  rw [e, show (-1 : Int32).toInt = -1 by decide] at q
  omega
def ng_nb : Nat → Int
  | 0 => 9999
  | 1 => 999
  | 2 => 99
  | 3 => 9
  | _ => 0
theorem ng_nu_gd {H : Nat → Int32} {L : Nat} (hH : ng_hH H L) : ∀ (n p : Nat) (v : Int32), n ≤ 4 → p ≤ L → 0 ≤ v.toInt → v.toInt ≤ ng_nb n → p ≤ (ng_nu H n p v).1 ∧ (ng_nu H n p v).1 ≤ L ∧ 0 ≤ (ng_nu H n p v).2.toInt ∧ (ng_nu H n p v).2.toInt ≤ 9999
  | 0, p, v, _, hp, h0, h1 => ⟨Nat.le_refl _, hp, h0, h1⟩
  | n + 1, p, v, hn, hp, h0, h1 => by
    have hb : 10 * ng_nb (n + 1) + 9 ≤ ng_nb n ∧ ng_nb (n + 1) ≤ 9999 ∧ ng_nb n ≤ 9999 := by
      have e : n = 0 ∨ n = 1 ∨ n = 2 ∨ n = 3 := by omega
      rcases e with rfl | rfl | rfl | rfl <;> decide
    unfold ng_nu
    split
    · rename_i e
      obtain ⟨d1, d2, d3⟩ := ng_dg_lt hH e
      have t10 : (10 : Int32).toInt = 10 := by decide
      have t48 : (48 : Int32).toInt = 48 := by decide
      have hv : (10 * v + H p - 48).toInt = 10 * v.toInt + (H p).toInt - 48 := by
        have m1 : (10 * v).toInt = 10 * v.toInt := by
          rw [Int32.toInt_mul, t10]
          exact Int.bmod_eq_of_le (by omega) (by omega)
        have m2 : (10 * v + H p).toInt = 10 * v.toInt + (H p).toInt := by
          rw [Int32.toInt_add, m1]
          exact Int.bmod_eq_of_le (by omega) (by omega)
        rw [Int32.toInt_sub, m2, t48]
        exact Int.bmod_eq_of_le (by omega) (by omega)
      obtain ⟨i1, i2, i3, i4⟩ := ng_nu_gd hH n (p + 1) (10 * v + H p - 48) (by omega) (by omega) (by rw [hv]; omega) (by rw [hv]; omega)
      exact ⟨by omega, i2, i3, i4⟩
    · refine ⟨Nat.le_refl _, hp, h0, ?_⟩
      show v.toInt ≤ 9999
      omega
theorem ng_nu_1 {H : Nat → Int32} {L p : Nat} (hH : ng_hH H L) (h : ng_dg (H p) = true) : p + 1 ≤ (ng_nu H 4 p 0).1 ∧ (ng_nu H 4 p 0).1 ≤ L ∧ 0 ≤ (ng_nu H 4 p 0).2.toInt ∧ (ng_nu H 4 p 0).2.toInt ≤ 9999 := by
  obtain ⟨d1, d2, d3⟩ := ng_dg_lt hH h
  have hv : (10 * 0 + H p - 48).toInt = (H p).toInt - 48 := by
    rw [show (10 * 0 + H p : Int32) = H p by rw [Int32.mul_zero, Int32.zero_add], Int32.toInt_sub, show (48 : Int32).toInt = 48 by decide]
    exact Int.bmod_eq_of_le (by omega) (by omega)
  have e : ng_nu H 4 p 0 = ng_nu H 3 (p + 1) (10 * 0 + H p - 48) := by
    show (if ng_dg (H p) = true then ng_nu H 3 (p + 1) (10 * 0 + H p - 48) else (p, 0)) = _
    rw [if_pos h]
  rw [e]
  exact ng_nu_gd hH 3 (p + 1) _ (by decide) (by omega) (by rw [hv]; omega) (by rw [hv]; show _ ≤ (9 : Int); omega)
theorem ng_gd.q0 {H : Nat → Int32} {L : Nat} {u : Int32} {f : Nat → ng_Rs} (hH : ng_hH H L) (hf : ng_gd L f) : ng_gd L (ng_q0 H u f) := by
  intro p hp
  unfold ng_q0
  split
  · rename_i e
    obtain ⟨n1, n2, n3, n4⟩ := ng_nu_1 hH e
    refine ⟨?_, n2, ?_, fun _ => ng_hv_nu n3 n4⟩
    · show p ≤ (ng_nu H 4 p 0).1
      omega
    · show 1 + p ≤ (ng_nu H 4 p 0).1
      omega
  · split
    · rename_i e
      obtain ⟨i, hi, ei, hc⟩ := ng_nmi_v e
      have hl := hH.lt hc
      refine ⟨?_, ?_, ?_, fun _ => ?_⟩
      · show p ≤ p + 1
        omega
      · show p + 1 ≤ L
        omega
      · show 1 + p ≤ p + 1
        omega
      · show ng_hv [10000 + ng_nmi u (H p)]
        rw [ei]
        exact ng_hv_nm hi
    · exact hf p hp
theorem ng_gd.nt {L p : Nat} {f : Nat → ng_Rs} (hf : ng_gd L f) (hp : p < L) : p ≤ (ng_nt f (p + 1)).2.1 ∧ (ng_nt f (p + 1)).2.1 ≤ L ∧ (ng_nt f (p + 1)).2.2.length + p ≤ (ng_nt f (p + 1)).2.1 ∧ ((ng_nt f (p + 1)).1 = true → ng_hv (ng_nt f (p + 1)).2.2) := by
  obtain ⟨g1, g2, g3, g4⟩ := hf (p + 1) (by omega)
  unfold ng_nt
  dsimp only
  split
  · rename_i e
    exact ⟨by omega, g2, by simp; omega, fun _ => ng_hv_not (g4 e)⟩
  · rename_i e
    exact ⟨by omega, g2, by omega, fun z => absurd z e⟩
theorem ng_gd.is {H : Nat → Int32} {L p : Nat} {f : Nat → ng_Rs} (hH : ng_hH H L) (hf : ng_gd L f) (hp : p < L) : p ≤ (ng_is H f (p + 1)).2.1 ∧ (ng_is H f (p + 1)).2.1 ≤ L ∧ (ng_is H f (p + 1)).2.2.length + p ≤ (ng_is H f (p + 1)).2.1 ∧ ((ng_is H f (p + 1)).1 = true → ng_hv (ng_is H f (p + 1)).2.2) := by
  obtain ⟨g1, g2, g3, g4⟩ := hf (p + 1) (by omega)
  unfold ng_is
  split
  · rename_i e
    have hl := hH.lt (p := (f (p + 1)).2.1) (by rw [e.2]; decide)
    refine ⟨?_, ?_, ?_, fun _ => g4 e.1⟩
    · show p ≤ (f (p + 1)).2.1 + 1
      omega
    · show (f (p + 1)).2.1 + 1 ≤ L
      omega
    · show (f (p + 1)).2.2.length + p ≤ (f (p + 1)).2.1 + 1
      omega
  · refine ⟨?_, g2, ?_, fun z => absurd z Bool.false_ne_true⟩
    · show p ≤ (f (p + 1)).2.1
      omega
    · show (f (p + 1)).2.2.length + p ≤ (f (p + 1)).2.1
      omega
theorem ng_gd.qq {H : Nat → Int32} {L : Nat} {u : Int32} (hH : ng_hH H L) : ∀ w, ng_gd L (ng_qq H u w)
  | 0 => ng_gd.q0 hH (fun p hp => ⟨Nat.le_refl _, hp, by show 0 + p ≤ p; omega, fun z => absurd z Bool.false_ne_true⟩)
  | w + 1 => ng_gd.q0 hH (fun p hp => by
    split
    · rename_i e
      exact (ng_gd.qq hH w).nt (hH.lt (by rw [e]; decide))
    · split
      · rename_i e
        exact (ng_gd.tt hH (ng_gd.qq hH w)).is hH (hH.lt (by rw [e]; decide))
      · exact ⟨Nat.le_refl _, hp, by show 0 + p ≤ p; omega, fun z => absurd z Bool.false_ne_true⟩)
/-! reading of the bytes that no digit, no name is -/
theorem ng_q0_o {H : Nat → Int32} {u : Int32} {f : Nat → ng_Rs} {p : Nat} (h1 : ng_dg (H p) = false) (h2 : ¬ 0 ≤ ng_nmi u (H p)) : ng_q0 H u f p = f p := by
  unfold ng_q0
  rw [if_neg (by rw [h1]; decide), if_neg h2]
theorem ng_q0_d {H : Nat → Int32} {u : Int32} {f : Nat → ng_Rs} {p : Nat} (h1 : ng_dg (H p) = true) : ng_q0 H u f p = (true, (ng_nu H 4 p 0).1, [(ng_nu H 4 p 0).2]) := by
  unfold ng_q0
  rw [if_pos h1]
theorem ng_q0_n {H : Nat → Int32} {u : Int32} {f : Nat → ng_Rs} {p : Nat} (h1 : ng_dg (H p) = false) (h2 : 0 ≤ ng_nmi u (H p)) : ng_q0 H u f p = (true, p + 1, [10000 + ng_nmi u (H p)]) := by
  unfold ng_q0
  rw [if_neg (by rw [h1]; decide), if_pos h2]
theorem ng_qq_s {H : Nat → Int32} {u : Int32} {w p : Nat} : ng_qq H u (w + 1) p = ng_q0 H u (fun p => if H p = 33 then ng_nt (ng_qq H u w) (p + 1) else if H p = 40 then ng_is H (ng_tt H (ng_qq H u w)) (p + 1) else (false, p, [])) p := rfl
theorem ng_qq_0 {H : Nat → Int32} {u : Int32} {p : Nat} : ng_qq H u 0 p = ng_q0 H u (fun p => (false, p, [])) p := rfl
theorem ng_33 : ng_dg 33 = false ∧ ng_dg 40 = false := by decide
theorem ng_nmi33 {u : Int32} : ¬ 0 ≤ ng_nmi u 33 ∧ ¬ 0 ≤ ng_nmi u 40 ∧ ¬ 0 ≤ ng_nmi u (-1) := by
  unfold ng_nmi
  split <;> decide
theorem ng_jl_no {H : Nat → Int32} {r : Int32} {f : Nat → ng_Rs} {n q : Nat} {cs : List Int32} (h : ¬ ng_ro (H q) = r) : ng_jl H r f n q cs = (true, q, cs) := by
  cases n with
  | zero => rfl
  | succ n => unfold ng_jl; rw [if_neg h]
theorem ng_jl_ok {H : Nat → Int32} {r : Int32} {f : Nat → ng_Rs} {n q : Nat} {cs : List Int32} (h : ng_ro (H q) = r) (h2 : (f (q + 1)).1 = true) : ng_jl H r f (n + 1) q cs = ng_jl H r f n (f (q + 1)).2.1 (cs ++ (f (q + 1)).2.2 ++ [ng_oc (H q)]) := by
  conv => lhs; unfold ng_jl
  rw [if_pos h, if_pos h2]
theorem ng_jl_bad {H : Nat → Int32} {r : Int32} {f : Nat → ng_Rs} {n q : Nat} {cs : List Int32} (h : ng_ro (H q) = r) (h2 : (f (q + 1)).1 = false) : ng_jl H r f (n + 1) q cs = (false, (f (q + 1)).2.1, cs ++ (f (q + 1)).2.2) := by
  unfold ng_jl
  rw [if_pos h, if_neg (by rw [h2]; decide)]
