-- ===== end of PART A; then your names; then what follows =====
/-! THE CLAIM OUT OF ONE WALK OF THE LAW'S BODY. Your part is whole_start (and what it stands on); all else here is the same for every law, but numbers. -/
def R_law : String := "NinePotsLaw"
def lw_P (b : Addr) (xs : List Int32) (args : Array Value) (s : State) : Prop := args = #[.ref b] ∧ s.IntsAt b xs ∧ xs.length ≤ 3072 ∧ (Jvm.Cond.and given_1 narrow_1).before args s = true
def lw_Q (_ : Array Value) (s : State) (o : Outcome) (t : State) : Prop := o = .returned (some (.int 1)) ∧ Framed s o t [] 600000 7302250
def lw_Z (below : List Frame) (a : Array Value) (s : State) : State → Prop := fun t => ∃ o, t.status = .running ∧ Ended t below o ∧ lw_Q a s o t
/-- the law's own end, with 1 on the stack, nothing written that was there before, its room as the claim has it -/
theorem lw_ret {p : Program} {l : Launch} {e : Env} {s : State} {m : MethodId} {below : List Frame} {meth : Method} {c : Code} {b : Nat} (hx : p.tables.exec = Jvm.exec) (hb : c.code = code) (hr : meth.sig.returnType = ret) (hlocks : meth.locks = false) {pc : Nat} {H : Heap} {ls : Array Slot} (hdg : decode code pc = .ok (.ireturn, 1)) : W p l e room_1 s m #[Value.ref b] below meth c H [] 600000 7302250 (lw_Z below #[Value.ref b] s) (F0 m pc ls [.int 1]) := by
  intro T hT X
  obtain ⟨fs, hret, hrun, hended, hW, hframe⟩ := X.leave (v := some (.int 1)) (hlocks := hlocks) (fun h => by rw [hr] at h; cases h)
  have hmeth' : T.vm.method? m = some meth := X.method'
  refine ⟨T.setFrames fs, ?_, .returned (some (.int 1)), hrun, hended, rfl, ⟨_, rfl⟩, hW, hframe⟩
  jvm_step X.here [X.here.top, hx, hb, hdg, hmeth', hr, ret, narrow_b1]
  (try refine ⟨rfl, ?_⟩); (try refine ⟨rfl, ?_⟩)
  first | (intro acts; rw [hret _ acts rfl rfl rfl]) | rw [hret _ _ rfl rfl rfl]
  exact Steps.refl _
/-- what holds at the law's entry: the machine, the code, the tables' words (any of lw_tbl by 'hts w (by decide +kernel)'), the script of L ints xs at the cell b, what the Statement gives of the start (any of its parts by flat_of_before) -/
def lw_At (p : Program) (s : State) (m : MethodId) (meth : Method) (c : Code) (b L : Nat) (xs : Nat → Int32) : Prop :=
  p.tables.exec = Jvm.exec ∧ c.code = code ∧ meth.sig.returnType = ret ∧ c.maxLocals = 4 ∧ s.vm.findClass R_law = some m.cls ∧ (∀ w ∈ lw_tbl, w.before #[Value.ref b] s = true) ∧ va_X b L xs s s.heap ∧ b < s.heap.size ∧ meth.locks = false ∧ (Jvm.Cond.and given_1 narrow_1).before #[Value.ref b] s = true
-- ===== YOUR PART BEGINS =====
/-- YOUR PART: from the entry, for every script of at most 3072 ints, the law comes to its end with true ('hflags': the launch's flags, for a law that throws: no stack traces) -/
theorem whole_start {p : Program} {e : Env} {s : State} {m : MethodId} {below : List Frame} {meth : Method} {c : Code} (l : Launch) (hflags : l.flags = flags0) {b L : Nat} {xs : Nat → Int32} (hL : L ≤ 3072) (C0 : lw_At p s m meth c b L xs) : W p l e room_1 s m #[Value.ref b] below meth c s.heap [] 0 0 (lw_Z below #[Value.ref b] s) (entryFrame m ([Value.ref b] : List Value).toArray 4) := by
  obtain ⟨hx, hb, hr, hml, hown, hts, hX, hbl, hlocks, hgv⟩ := C0
  have htsG : ∀ w ∈ ng_G, w.before #[Value.ref b] s = true := fun w hw => hts w (ng_Gin hw)
  obtain ⟨A, hAe⟩ : ∃ A : Nat → Prop, A = fun q => s.heap.size ≤ q := ⟨_, rfl⟩
  have hA : ∀ q, s.heap.size ≤ q → A q := fun q h => by rw [hAe]; exact h
  have hA2 : ∀ a : Nat, a < s.heap.size → ¬ A a := fun a h z => by rw [hAe] at z; exact absurd h (Nat.not_lt.mpr z)
  have hA3 : ∀ q, A q → s.heap.size ≤ q := fun q h => by rw [hAe] at h; exact h
  obtain ⟨D, cA, hK⟩ := ng_st_K hts
  have hO := ng_st_AO hts
  have hN := ng_st_nm hts
  obtain ⟨t, hCs, tb, r0, r1, o0, o1⟩ := ng_st_C (A := A) hts hgv hX hbl hA2
  have S : CallFix p m c cL_law 4 s #[Value.ref b] ng_G RL := ⟨hx, hb, hml, hown, htsG⟩
  have hl0 := ng_ent_lh id [Value.ref b] 4 (Nat.le_of_ble_eq_true rfl)
  rw [ng_vs_id] at hl0
  rw [lg_entry_eq]
  generalize (lg_sl [Value.ref b] ++ List.replicate (4 - (lg_sl [Value.ref b]).length) Slot.unset).toArray = ls at hl0 ⊢
  have hl0 : ng_lh id ls 4 [some (.ref b), none, none, none] := hl0
  have hP0 : va_P D vwCl [] s.heap := fun k q h => by simp at h
  have hD0 : va_D A [] := ⟨fun i j p q h => by simp at h, fun k q h => by simp at h⟩
  obtain ⟨C8, T8, c81, c82, c83, c84, c85, c86⟩ := cl_L_7
  refine va_new (ci := 8) (fs := [.null, .null, .null, .null, .null, .null, .null, .int 0]) hx hb htsG c82 tyX8 c83 hown (htsG _ c84) (htsG _ c85) (htsG _ c86) hK hP0 hD0 (va_S.rf) hA c81 (by decide) (Nat.le_of_ble_eq_true rfl) (Nat.le_of_ble_eq_true rfl) dL_law_0 (fun q8 H1 hP1 hD1 hS1 => ?_)
  refine lv_dup hx hb dL_law_3 rfl ?_
  refine ng_lcall (ww := []) (Z := ng_Z0) (y2 := mi_X8_init) S hK hN hO hA (fun _ _ _ _ _ h => h) (fun _ _ _ => trivial) dL_law_4 lk_L_9 mj_X8_init n_X8 (Nat.le_of_ble_eq_true rfl) (Nat.le_of_ble_eq_true rfl) (Nat.le_of_ble_eq_true rfl) (Nat.le_of_ble_eq_true rfl) (Nat.le_of_ble_eq_true rfl) hl0.2.1 hP1 hD1 hS1 (fun a8 H2 locs2 e8 hP2 hD2 hS2 => ?_)
  subst e8
  refine lv_astore_n hx hb dL_law_7 rfl hl0.has (by decide) rfl (fun ls1 h1 => ?_)
  have hl1 : ng_lh id ls1 4 [some (.ref b), some (.ref (a8 0)), none, none] := ng_lh.store (i := 1) (v := .ref (a8 0)) hl0 (fun j u hj hu => by
    have e : j = 0 := by omega
    subst e
    simp at hu
    subst hu
    rfl) h1
  obtain ⟨C9, T9, c91, c92, c93, c94, c95, c96⟩ := cl_L_10
  refine va_new (ci := 9) (fs := [.null, .null, .null, .int 0, .null, .null, .null, .int 0, .int 0, .int 0, .int 0, .null, .int 0, .null, .null, .null, .null, .int 0, .null, .int 0, .int 0, .null, .null, .null, .null]) hx hb htsG c92 tyX9 c93 hown (htsG _ c94) (htsG _ c95) (htsG _ c96) hK hP2 hD2 hS2 hA c91 (by decide) (Nat.le_of_ble_eq_true rfl) (Nat.le_of_ble_eq_true rfl) dL_law_8 (fun q9 H3 hP3 hD3 hS3 => ?_)
  refine lv_dup hx hb dL_law_11 rfl ?_
  have hF9 : ∀ q, va_A [(q9, .inr (9, [.null, .null, .null, .int 0, .null, .null, .null, .int 0, .int 0, .int 0, .int 0, .null, .int 0, .null, .null, .null, .null, .int 0, .null, .int 0, .int 0, .null, .null, .null, .null]))] H3.size q → A q := va_free hD3 hS3 hA [(ng_G8 cA a8).length] (by simp)
  refine ng_lcall (ww := ng_G8 cA a8) (Z := ng_Zs (t 1010) (t 1011)) (y2 := mi_X9_init) S hK hN hO hA ng_Zs_calling (fun U hU hW => ?_) dL_law_12 lk_L_12 mj_X9_init n_X9 (Nat.le_of_ble_eq_true rfl) (Nat.le_of_ble_eq_true rfl) (Nat.le_of_ble_eq_true rfl) (Nat.le_of_ble_eq_true rfl) (Nat.le_of_ble_eq_true rfl) hl1.2.1 hP3 hD3 hS3 (fun a9 H4 locs4 e9 hP4 hD4 hS4 => ?_)
  · rw [ng_Zs, hU]
    exact ⟨((o0.kept hS3.2.1).moved hW.alike).narrow hF9, ((o1.kept hS3.2.1).moved hW.alike).narrow hF9, r0.warm hW, r1.warm hW⟩
  · subst e9
    have ead : ∀ k, 1000 ≤ k → ng_ad a8 a9 t k = t k := fun k hk => by
      unfold ng_ad
      rw [if_neg (by omega), if_neg (by omega)]
    have hCx : ng_Cx D cA (ng_ad a8 a9 t) A (L, xs) mi_L_law 61 p room_1 s m #[Value.ref b] c 90 2326 := ⟨S, hK, hCs.ad ead, fun M => ng_D0 hD4 M, Nat.le_of_ble_eq_true rfl, Nat.le_of_ble_eq_true rfl, Nat.le_of_ble_eq_true rfl, Nat.le_of_ble_eq_true rfl⟩
    have hl2 : ng_lh (ng_ad a8 a9 t) ls1 4 [some (.ref 1007), some (.ref 0), none, none] := by
      obtain ⟨g1, g2, g3, g4⟩ := hl1
      refine ⟨rfl, g2, g3, fun i v hi => ?_⟩
      match i, hi with
      | 0, hi =>
        have e : Value.ref 1007 = v := Option.some.inj (Option.some.inj hi)
        subst e
        have z := g4 0 (.ref b) rfl
        show ls1[0]? = some (.val (.ref (ng_ad a8 a9 t 1007)))
        rw [ead 1007 (by decide), tb]
        exact z
      | 1, hi =>
        have e : Value.ref 0 = v := Option.some.inj (Option.some.inj hi)
        subst e
        exact g4 1 (.ref (a8 0)) rfl
      | 2, hi => exact absurd (Option.some.inj hi) (by simp)
      | 3, hi => exact absurd (Option.some.inj hi) (by simp)
      | i + 4, hi => exact absurd hi (by simp)
    refine W.widen (k := 90) (n := 2326) (Nat.le_of_ble_eq_true rfl) (Nat.le_of_ble_eq_true rfl) ?_
    refine l_law15 (X := (L, xs)) hL l D cA (ng_ad a8 a9 t) A p e room_1 s m #[Value.ref b] below meth c 90 2326 (lw_Z below #[Value.ref b] s) hCx (fun r M' H' locs' ls' pc' hF hP' hS' hrt => ?_) H4 locs4 ls1 (ng_P0 hP4) hS4 hl2
    have hF : r = some (.int 1) := hF
    subst hF
    rcases hrt with ⟨v, -, hdg⟩ | ⟨e1, -⟩ | ⟨e1, -⟩
    · refine va_forget (fun q hq => hA3 _ (hS'.2.2 q hq)) ?_
      refine W.widen (k := 600000) (n := 7302250) (Nat.le_of_ble_eq_true rfl) (Nat.le_of_ble_eq_true rfl) ?_
      exact lw_ret hx hb hr hlocks hdg
    · cases e1
    · rcases e1 with e1 | ⟨k, e1⟩ <;> cases e1
-- ===== YOUR PART ENDS =====
set_option maxHeartbeats 4000000 in
theorem lw_walk (l : Launch) (hflags : l.flags = flags0) (b : Addr) (xs : List Int32) : MetFree l x (headSpec (Jvm.Cond.code x code maxLocals ret :: tables_1) room_1) (lw_P b xs) (fun _ _ _ _ _ => True) lw_Q := by
  refine MetFree.of_bodyS (code := code) (maxLocals := maxLocals) (ret := ret) (by decide) ?_ ?_
  · intro args s m h hn
    obtain ⟨meth, c, h1, h2, h3, h4, h5, h6, -, -⟩ := Cond.code_spec hn (atoms_spec (ws := Jvm.Cond.code x code maxLocals ret :: tables_1) h _ List.mem_cons_self)
    exact ⟨meth, c, h1, h2, h3, h4, h5, h6⟩
  · intro p e s m args below meth c s₁ B hml0 hP _
    obtain ⟨rfl, hx, hbd, hgv⟩ := hP
    obtain ⟨scr, harrAt, hlist, hof, hsmall⟩ := hx
    obtain ⟨hcb, hkn, -, -⟩ := State.arrayAt?_spec harrAt
    have hown : s.vm.findClass R_law = some m.cls := findClass_of_methodNamed B.named
    have hts0 : ∀ c ∈ (Jvm.Cond.code x code maxLocals ret :: tables_1), c.before #[Value.ref b] s = true := atoms_spec (ws := Jvm.Cond.code x code maxLocals ret :: tables_1) B.pre
    have hts : ∀ w ∈ lw_tbl, w.before #[Value.ref b] s = true := k2_hts_sels lw_privs (fun w hw => hts0 w (List.mem_cons_of_mem _ hw)) lw_privs_ok
    have hml : c.maxLocals = 4 := B.maxLocals_eq (hts0 _ List.mem_cons_self)
    have X₀ : Stand p l e room_1 s m #[Value.ref b] below meth c s₁ [] 0 0 := Stand.of_body B
    have hh0 : s₁.heap = s.heap := by rw [B.state]; rfl
    have hsz : scr.slots.size = xs.length := by rw [← Array.length_toList, hlist, List.length_map]
    have hval : ∀ j : Nat, j < xs.length → scr.slots[j]? = some (.int (xs.getD j 0)) := fun j hj => by
      rw [← Array.getElem?_toList, hlist]
      simp [hj]
    have hbl : b < s.heap.size := (Array.getElem?_eq_some_iff.mp hcb).1
    have hX : va_X b xs.length (fun j => xs.getD j 0) s s.heap := ⟨scr, hcb, hof, hkn, hsz, hval⟩
    have K : W p l e room_1 s m #[Value.ref b] below meth c s₁.heap [] 0 0 (lw_Z below #[Value.ref b] s) (entryFrame m ([Value.ref b] : List Value).toArray 4) := by
      rw [hh0]
      exact whole_start l hflags hbd ⟨B.exec, B.bytes, B.returns, hml, hown, hts, hX, hbl, B.notSynchronized, hgv⟩
    obtain ⟨t, a1, o, b1, b2, b3⟩ := K s₁ rfl X₀
    exact ⟨t, o, a1, b1, b2, b3⟩
theorem lw_pre_spec {args : Array Value} {s : State} (h : (Jvm.Cond.and given_1 narrow_1).before args s = true) (hr : rest_1_c.before args s = true) : ∃ (b : Addr) (xs : List Int32), lw_P b xs args s := by
  have hs := flat_of_before _ h
  have hq := flat_of_before _ hr
  have hc : (Cond.count 1).before args s = true := hs _ (by decide +kernel)
  have harr : (Cond.arrayOf (.arg 0) .int).before args s = true := hs _ (by decide +kernel)
  have hle : (Cond.le (.length (.arg 0)) (.int 3072)).before args s = true := hs _ (by decide +kernel)
  have hlen : (Cond.isInt (.length (.arg 0))).before args s = true := hq _ (by decide +kernel)
  have hall : (Cond.all (.arg 0) (.isInt (.elem (.arg 0) (.index 0)))).before args s = true := hq _ (by decide +kernel)
  obtain ⟨b, xs, hb, hx⟩ := State.ints_of_pre rfl harr hlen hall
  have hsm : xs.length < 2 ^ 31 := hx.choose_spec.2.2.2
  have hev : (Term.length (.arg 0)).eval args s none [] s = some (.int xs.length.toInt32) := hx.length_eval hb
  have hv := Cond.le_ints hev (show (Term.int 3072).eval args s none [] s = some (.int 3072) from rfl)
  have hd : xs.length.toInt32 ≤ 3072 := by
    simpa [Cond.before, Cond.holds, hv] using hle
  have hN : xs.length ≤ 3072 := (Int32.ofNat_le_ofNat hsm (by decide)).mp (show Int32.ofNat xs.length ≤ Int32.ofNat 3072 from hd)
  exact ⟨b, xs, Cond.one_arg hc (show args[0]? = some (.ref b) from hb), hx, hN, h⟩
theorem lw_comes (l : Launch) (hflags : l.flags = flags0) : Comes l x (Jvm.Cond.code x code maxLocals ret :: tables_1) room_1 (fun tb e args s => Calls_1 tb e args s ∧ rest_1 tb e args s ∧ Pre_1 tb e args s)
    (fun _ _ args s o t => lw_Q args s o t) := by
  intro p e ha hc hk s m args below hf hfit hheap happ hpre
  obtain ⟨b, xs, hP⟩ := lw_pre_spec hpre.2.2 hpre.2.1
  obtain ⟨k, o, h1, h2, h3, hQ⟩ := lw_walk l hflags b xs p e ha hc hk s m args below hf ((Spec.applies_iff_loose hf).mp happ).1 hP trivial
  exact ⟨k, o, h1, h2, h3, hQ⟩
theorem lw_frame {s t : State} {o : Outcome} {args : Array Value} (h : Framed s o t [] 600000 7302250) :
    Framed s o t (fieldLocs frame_1_writes args s ++ arrayLocs frame_1_arrays args s ++ staticLocs frame_1_statics s) 600000 7302250 := h
theorem lw_limb (L : Cond) (hL : ∀ (args : Array Value) (s t : State), L.after args s (.returned (some (.int 1))) t = true) :
    ArmFor flags0 classFile x code maxLocals ret World_1 tables_1 room_1 Calls_1 rest_1 Pre_1
      (fun tb e a s o t => postC L tb e a s o t ∧ Framed s o t (fieldLocs frame_1_writes a s ++ arrayLocs frame_1_arrays a s ++ staticLocs frame_1_statics s) 600000 7302250) := by
  intro l hflags _ _ p e ha hc hk s m args below hf hfit hheap happ hpre
  obtain ⟨k, o, h1, h2, h3, rfl, hF⟩ := lw_comes l hflags p e ha hc hk s m args below hf hfit hheap happ hpre
  exact ⟨k, _, h1, h2, h3, hL args s _, lw_frame hF⟩
theorem i_vc : Claimed_1_1 ∧ Claimed_1_2 := ⟨lw_limb limb_1_1 (fun args s t => by simp [limb_1_1, Cond.after, Cond.holds, Cond.value]), lw_limb limb_1_2 (fun args s t => Cond.after_iff.mpr (by
  first | (rw [show limb_1_2 = Cond.eq .result (.int 1) from rfl, Cond.eq_ints (x := 1) (y := 1) rfl rfl]; simp; done) | (simp [limb_1_2, Cond.value, Term.eval]; done)))⟩
