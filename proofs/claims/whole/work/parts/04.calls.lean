section NgCalls
variable {X : Nat × (Nat → Int32)} {y : ng_Y} {d pc : Nat} {lv : ng_L} {st : List Value} {M : ng_M} {F : Option Value → ng_M → Prop}
/-- what the tables say of a method that is called: n parameters -/
def ng_MY (y : ng_Y) (n : Nat) : Prop := Cond.code y.1 y.2.1 y.2.2.1 y.2.2.2 ∈ ng_G ∧ Cond.initialized y.1.cls ∈ ng_G ∧ (y.1.cls ≠ "java/lang/invoke/MethodHandle" ∧ y.1.cls ≠ "java/lang/invoke/VarHandle" ∧ (parseMethodDescriptor y.1.desc).map (fun d => d.parameters.length) = some n) ∧ y.2.2.1 ≤ 21
theorem ng_goodIn {y : ng_Y} {n : Nat} (h : ng_MY y n) : GoodIn ng_G (ng_ws y) := fun w hw => by
  rcases List.mem_cons.mp hw with rfl | hw
  · exact ⟨h.1, ng_goodG h.1⟩
  · exact ⟨hw, ng_goodG hw⟩
theorem ng_cat8 {ad : Nat → Nat} (hst : (st.map fun v => v.category).sum ≤ 8) : ((st.map (ng_v ad)).map fun v => v.category).sum ≤ 8 := by
  rw [List.map_map, show ((fun v : Value => v.category) ∘ ng_v ad) = fun v => v.category from funext (ng_v_cat ad)]
  exact hst
theorem ng_after {l : Launch} {D : va_G} {cA : Nat → ClassId} {ad : Nat → Nat} {A : Nat → Prop} {p : Program} {e : Env} {R : Room} {s : State} {m : MethodId} {args : Array Value} {below : List Frame} {meth : Method} {c : Code} {cells slots : Nat} {Q : State → Prop} {H : Heap} {locs : List Loc} {ls : Array Slot} {st0 : List Value} {as : Array Value} {F1 : Option Value → ng_M → Prop}
    (hr : va_Run p l e R s m args below meth c H locs cells slots 0 0 (F0 m pc ls st0) (st.map (ng_v ad)) (ng_Q D cA ad A F1 as) A) (hS : va_S A s.heap H locs) (C : ng_Cx D cA ad A X y d p R s m args c cells slots)
    (fin : ∀ (r : Option Value) (M' : ng_M) (H' : Heap) (locs' : List Loc) (ls' : Array Slot) (pc' : Nat), F r M' → va_P D vwCl (ng_wd cA ad M') H' → va_S A s.heap H' locs' → ng_rt y.2.1 pc' r → W p l e R s m args below meth c H' locs' cells slots Q (F0 m pc' ls' (r.map (ng_v ad)).toList))
    (hl : ng_lh ad ls y.2.2.1 lv) (kk : ∀ (r : Option Value) (M1 : ng_M), F1 r M1 → ng_Go X y d (pc + 3) lv (r.toList ++ st) M1 F) : W p l e R s m args below meth c H locs cells slots Q (F0 m pc ls st0) := by
  intro T hT X'
  obtain ⟨v, st₀, t, T', L, h0, X'', hL, e1, e2, ⟨⟨r, M1, hv, hF1, hP1⟩, hz, hk⟩, stp⟩ := hr T hT X'
  have hv' : v = r.map (ng_v ad) := by injection hv
  subst hv'
  rw [h0] at hz hk
  have hS1 : va_S A s.heap T'.heap (locs ++ L) := ⟨Nat.le_trans hS.1 (by rw [e1]; exact hz), fun q h1 h2 => by rw [e1, hk q (Nat.lt_of_lt_of_le h1 hS.1) h2]; exact hS.2.1 q h1 h2, fun q hq => (List.mem_append.mp hq).elim (hS.2.2 q) (hL q)⟩
  have g := kk r M1 hF1 l D cA ad A p e R s m args below meth c cells slots Q C fin T'.heap (locs ++ L) ls (by rw [e1]; exact hP1) hS1 hl
  have es : (r.toList ++ st).map (ng_v ad) = (r.map (ng_v ad)).toList ++ st.map (ng_v ad) := by cases r <;> simp
  rw [es] at g
  obtain ⟨t2, a1, b1⟩ := g T' rfl X''
  exact ⟨t2, stp t2 a1, b1⟩
theorem ng_pre {D : va_G} {cA : Nat → ClassId} {ad : Nat → Nat} {A : Nat → Prop} {p : Program} {R : Room} {s : State} {m : MethodId} {args : Array Value} {c : Code} {cells slots : Nat} {H : Heap} {locs : List Loc} (C : ng_Cx D cA ad A X y d p R s m args c cells slots) (hP : va_P D vwCl (ng_wd cA ad M) H) (hS : va_S A s.heap H locs) (av : List Value) : ∀ U : State, U.heap = H → s.WarmedH U.vm → va_Pc av (ng_W D cA ad A X M) av.toArray U :=
  fun U hU hW => ⟨rfl, by rw [hU]; exact hP, va_K.moved hW.alike C.2.1, C.2.2.1.to hW (fun a h1 h2 => by rw [hU]; exact hS.2.1 a h1 h2)⟩
theorem ng_callV {idx k ci n d' : Nat} {fs : List (Option Nat)} {y2 : ng_Y} {As : List Value} {F1 : Option Value → ng_M → Prop} (hd : decode y.2.1 pc = .ok (.invokevirtual idx, 3)) (hlink : Cond.methodLink y.1.cls idx y2.1 ∈ ng_G) (hin : Cond.instanceMethod y2.1 ∈ ng_G ∧ Cond.selects y2.1.cls y2.1 y2.1 ∈ ng_G) (hm : ng_MY y2 n) (hn : As.length = n) (hs : ng_HS[k]? = some (.inl (ci, fs))) (hc : ∃ (T : u_T) (N : Nat), vwCl[ci]? = some (y2.1.cls, T, N)) (hst : (st.map fun v => v.category).sum ≤ 8)
    (he : ng_Ev X d' y2 (.ref k :: As) M F1) (hdd : d' ≤ d) (kk : ∀ (r : Option Value) (M1 : ng_M), F1 r M1 → ng_Go X y (d + 1) (pc + 3) lv (r.toList ++ st) M1 F) : ng_Go X y (d + 1) pc lv (As.reverse ++ .ref k :: st) M F := by
  intro l D cA ad A p e R s m args below meth c cells slots Q C fin H locs ls hP hS hl
  obtain ⟨T0, N0, hc⟩ := hc
  have hM := he l D cA ad A C.2.2.2.1 d hdd
  have hR := C.2.2.2.2
  have hmm := hm.2.2.2
  have cw : CallW R s args y.1.cls y2.1.cls idx y2.1 y2.2.1 y2.2.2.1 y2.2.2.2 (ng_ws y2) (ng_rm d) 0 0 n := ⟨callB_of n C.1.2.2.2.2 (ng_goodIn hm) rfl rfl rfl (C.1.2.2.2.2 _ hm.2.1) (C.1.2.2.2.2 _ hlink) hm.2.2.1 ⟨hR.1, by show 8 + (y2.2.2.1 + 11) + 40 * d ≤ R.locals; omega⟩, C.1.2.2.2.2 _ hin.1, C.1.2.2.2.2 _ hin.2⟩
  have hp : PreV s H y2.1.cls (ad k) (va_Pc ((Value.ref k :: As).map (ng_v ad)) (ng_W D cA ad A X M)) (As.map (ng_v ad)) := ⟨ng_blind, va_recv C.2.1 hP hc (ng_wd_get hs), ng_pre C hP hS _⟩
  exact ng_after (va_runV (As := As.map (ng_v ad)) (rest := st.map (ng_v ad)) C.1 hM cw hp rfl (by rw [List.length_map]; exact hn) hl.2.1 (by simp [ng_v, List.map_reverse]) (lv_room (ng_cat8 hst)) hd ⟨hR.2.2.1, hR.2.2.2⟩) hS C fin hl kk
theorem ng_callVK {idx k n d' : Nat} {q : String × String × String × Value} {y2 : ng_Y} {As : List Value} {F1 : Option Value → ng_M → Prop} (hd : decode y.2.1 pc = .ok (.invokevirtual idx, 3)) (hlink : Cond.methodLink y.1.cls idx y2.1 ∈ ng_G) (hin : Cond.instanceMethod y2.1 ∈ ng_G ∧ Cond.selects y2.1.cls y2.1 y2.1 ∈ ng_G) (hm : ng_MY y2 n) (hn : As.length = n) (hs : (q.1, q.2.1, q.2.2.1, q.2.2.2, k) ∈ ng_ofs) (hc : y2.1.cls = "java/lang/String") (hst : (st.map fun v => v.category).sum ≤ 8)
    (he : ng_Ev X d' y2 (.ref k :: As) M F1) (hdd : d' ≤ d) (kk : ∀ (r : Option Value) (M1 : ng_M), F1 r M1 → ng_Go X y (d + 1) (pc + 3) lv (r.toList ++ st) M1 F) : ng_Go X y (d + 1) pc lv (As.reverse ++ .ref k :: st) M F := by
  intro l D cA ad A p e R s m args below meth c cells slots Q C fin H locs ls hP hS hl
  have hM := he l D cA ad A C.2.2.2.1 d hdd
  have hR := C.2.2.2.2
  have hmm := hm.2.2.2
  have cw : CallW R s args y.1.cls y2.1.cls idx y2.1 y2.2.1 y2.2.2.1 y2.2.2.2 (ng_ws y2) (ng_rm d) 0 0 n := ⟨callB_of n C.1.2.2.2.2 (ng_goodIn hm) rfl rfl rfl (C.1.2.2.2.2 _ hm.2.1) (C.1.2.2.2.2 _ hlink) hm.2.2.1 ⟨hR.1, by show 8 + (y2.2.2.1 + 11) + 40 * d ≤ R.locals; omega⟩, C.1.2.2.2.2 _ hin.1, C.1.2.2.2.2 _ hin.2⟩
  have hO := ((C.2.2.1.2.2.2.2.1 _ hs).2).kept hS.2.1
  have hp : PreV s H y2.1.cls (ad k) (va_Pc ((Value.ref k :: As).map (ng_v ad)) (ng_W D cA ad A X M)) (As.map (ng_v ad)) := ⟨ng_blind, by obtain ⟨cell, h1, h2, h3, -⟩ := hO; exact ⟨cell, h1, h2, by rw [hc]; exact h3⟩, ng_pre C hP hS _⟩
  exact ng_after (va_runV (As := As.map (ng_v ad)) (rest := st.map (ng_v ad)) C.1 hM cw hp rfl (by rw [List.length_map]; exact hn) hl.2.1 (by simp [ng_v, List.map_reverse]) (lv_room (ng_cat8 hst)) hd ⟨hR.2.2.1, hR.2.2.2⟩) hS C fin hl kk
theorem ng_callS {idx n d' : Nat} {y2 : ng_Y} {As : List Value} {F1 : Option Value → ng_M → Prop} (hd : decode y.2.1 pc = .ok (.invokestatic idx, 3)) (hlink : Cond.methodLink y.1.cls idx y2.1 ∈ ng_G) (hin : Cond.static y2.1 ∈ ng_G) (hm : ng_MY y2 n) (hn : As.length = n) (hst : (st.map fun v => v.category).sum ≤ 8)
    (he : ng_Ev X d' y2 As M F1) (hdd : d' ≤ d) (kk : ∀ (r : Option Value) (M1 : ng_M), F1 r M1 → ng_Go X y (d + 1) (pc + 3) lv (r.toList ++ st) M1 F) : ng_Go X y (d + 1) pc lv (As.reverse ++ st) M F := by
  intro l D cA ad A p e R s m args below meth c cells slots Q C fin H locs ls hP hS hl
  have hM := he l D cA ad A C.2.2.2.1 d hdd
  have hR := C.2.2.2.2
  have hmm := hm.2.2.2
  have cw : CallB R s args y.1.cls idx y2.1 y2.2.1 y2.2.2.1 y2.2.2.2 (ng_ws y2) (ng_rm d) 0 0 n ∧ (Cond.static y2.1).before args s = true := ⟨callB_of n C.1.2.2.2.2 (ng_goodIn hm) rfl rfl rfl (C.1.2.2.2.2 _ hm.2.1) (C.1.2.2.2.2 _ hlink) hm.2.2.1 ⟨hR.1, by show 8 + (y2.2.2.1 + 11) + 40 * d ≤ R.locals; omega⟩, C.1.2.2.2.2 _ hin⟩
  have hp : PreS s H (va_Pc (As.map (ng_v ad)) (ng_W D cA ad A X M)) (As.map (ng_v ad)) := ⟨ng_blind, ng_pre C hP hS _⟩
  exact ng_after (va_runS (As := As.map (ng_v ad)) (rest := st.map (ng_v ad)) C.1 hM cw hp rfl (by rw [List.length_map]; exact hn) hl.2.1 (by simp [List.map_reverse]) (lv_room (ng_cat8 hst)) hd ⟨hR.2.2.1, hR.2.2.2⟩) hS C fin hl kk
theorem ng_callSN {idx n d' : Nat} {host : String} {y2 : ng_Y} {As : List Value} {F1 : Option Value → ng_M → Prop} (hd : decode y.2.1 pc = .ok (.invokestatic idx, 3)) (hlink : (y.1.cls, idx, y2.1, host) ∈ ng_nm) (hin : Cond.static y2.1 ∈ ng_G) (hm : ng_MY y2 n) (hn : As.length = n) (hst : (st.map fun v => v.category).sum ≤ 8)
    (he : ng_Ev X d' y2 As M F1) (hdd : d' ≤ d) (kk : ∀ (r : Option Value) (M1 : ng_M), F1 r M1 → ng_Go X y (d + 1) (pc + 3) lv (r.toList ++ st) M1 F) : ng_Go X y (d + 1) pc lv (As.reverse ++ st) M F := by
  intro l D cA ad A p e R s m args below meth c cells slots Q C fin H locs ls hP hS hl
  have hM := he l D cA ad A C.2.2.2.1 d hdd
  have hR := C.2.2.2.2
  have hmm := hm.2.2.2
  have cw : va_CN R s args y.1.cls idx y2.1 host y2.2.1 y2.2.2.1 y2.2.2.2 (ng_ws y2) (ng_rm d) 0 0 n ∧ (Cond.static y2.1).before args s = true ∧ True := ⟨va_cnB n C.1.2.2.2.2 (ng_goodIn hm) rfl rfl rfl (C.2.2.1.1 _ hlink) (C.1.2.2.2.2 _ hm.2.1) hm.2.2.1 ⟨hR.1, by show 8 + (y2.2.2.1 + 11) + 40 * d ≤ R.locals; omega⟩, C.1.2.2.2.2 _ hin, trivial⟩
  have hp : PreS s H (va_Pc (As.map (ng_v ad)) (ng_W D cA ad A X M)) (As.map (ng_v ad)) := ⟨ng_blind, ng_pre C hP hS _⟩
  exact ng_after (va_runSN (As := As.map (ng_v ad)) (rest := st.map (ng_v ad)) C.1 hM cw hp rfl (by rw [List.length_map]; exact hn) hl.2.1 (by simp [List.map_reverse]) (lv_room (ng_cat8 hst)) hd ⟨hR.2.2.1, hR.2.2.2⟩) hS C fin hl kk
theorem ng_callV_0 {idx k ci d' : Nat} {fs : List (Option Nat)} {y2 : ng_Y} {F1 : Option Value → ng_M → Prop} (hd : decode y.2.1 pc = .ok (.invokevirtual idx, 3)) (hlink : Cond.methodLink y.1.cls idx y2.1 ∈ ng_G) (hin : Cond.instanceMethod y2.1 ∈ ng_G ∧ Cond.selects y2.1.cls y2.1 y2.1 ∈ ng_G) (hm : ng_MY y2 0) (hs : ng_HS[k]? = some (.inl (ci, fs))) (hc : ∃ (T : u_T) (N : Nat), vwCl[ci]? = some (y2.1.cls, T, N)) (hst : (st.map fun v => v.category).sum ≤ 8)
    (he : ng_Ev X d' y2 (.ref k :: []) M F1) (hdd : d' ≤ d) (kk : ∀ (r : Option Value) (M1 : ng_M), F1 r M1 → ng_Go X y (d + 1) (pc + 3) lv (r.toList ++ st) M1 F) : ng_Go X y (d + 1) pc lv (.ref k :: st) M F := ng_callV (As := []) hd hlink hin hm rfl hs hc hst he hdd kk
theorem ng_callS_0 {idx d' : Nat} {y2 : ng_Y} {F1 : Option Value → ng_M → Prop} (hd : decode y.2.1 pc = .ok (.invokestatic idx, 3)) (hlink : Cond.methodLink y.1.cls idx y2.1 ∈ ng_G) (hin : Cond.static y2.1 ∈ ng_G) (hm : ng_MY y2 0) (hst : (st.map fun v => v.category).sum ≤ 8)
    (he : ng_Ev X d' y2 [] M F1) (hdd : d' ≤ d) (kk : ∀ (r : Option Value) (M1 : ng_M), F1 r M1 → ng_Go X y (d + 1) (pc + 3) lv (r.toList ++ st) M1 F) : ng_Go X y (d + 1) pc lv (st) M F := ng_callS (As := []) hd hlink hin hm rfl hst he hdd kk
theorem ng_callSN_0 {idx d' : Nat} {host : String} {y2 : ng_Y} {F1 : Option Value → ng_M → Prop} (hd : decode y.2.1 pc = .ok (.invokestatic idx, 3)) (hlink : (y.1.cls, idx, y2.1, host) ∈ ng_nm) (hin : Cond.static y2.1 ∈ ng_G) (hm : ng_MY y2 0) (hst : (st.map fun v => v.category).sum ≤ 8)
    (he : ng_Ev X d' y2 [] M F1) (hdd : d' ≤ d) (kk : ∀ (r : Option Value) (M1 : ng_M), F1 r M1 → ng_Go X y (d + 1) (pc + 3) lv (r.toList ++ st) M1 F) : ng_Go X y (d + 1) pc lv (st) M F := ng_callSN (As := []) hd hlink hin hm rfl hst he hdd kk
theorem ng_callV_1 {idx k ci d' : Nat} {a1 : Value} {fs : List (Option Nat)} {y2 : ng_Y} {F1 : Option Value → ng_M → Prop} (hd : decode y.2.1 pc = .ok (.invokevirtual idx, 3)) (hlink : Cond.methodLink y.1.cls idx y2.1 ∈ ng_G) (hin : Cond.instanceMethod y2.1 ∈ ng_G ∧ Cond.selects y2.1.cls y2.1 y2.1 ∈ ng_G) (hm : ng_MY y2 1) (hs : ng_HS[k]? = some (.inl (ci, fs))) (hc : ∃ (T : u_T) (N : Nat), vwCl[ci]? = some (y2.1.cls, T, N)) (hst : (st.map fun v => v.category).sum ≤ 8)
    (he : ng_Ev X d' y2 (.ref k :: [a1]) M F1) (hdd : d' ≤ d) (kk : ∀ (r : Option Value) (M1 : ng_M), F1 r M1 → ng_Go X y (d + 1) (pc + 3) lv (r.toList ++ st) M1 F) : ng_Go X y (d + 1) pc lv (a1 :: .ref k :: st) M F := ng_callV (As := [a1]) hd hlink hin hm rfl hs hc hst he hdd kk
theorem ng_callS_1 {idx d' : Nat} {a1 : Value} {y2 : ng_Y} {F1 : Option Value → ng_M → Prop} (hd : decode y.2.1 pc = .ok (.invokestatic idx, 3)) (hlink : Cond.methodLink y.1.cls idx y2.1 ∈ ng_G) (hin : Cond.static y2.1 ∈ ng_G) (hm : ng_MY y2 1) (hst : (st.map fun v => v.category).sum ≤ 8)
    (he : ng_Ev X d' y2 [a1] M F1) (hdd : d' ≤ d) (kk : ∀ (r : Option Value) (M1 : ng_M), F1 r M1 → ng_Go X y (d + 1) (pc + 3) lv (r.toList ++ st) M1 F) : ng_Go X y (d + 1) pc lv (a1 :: st) M F := ng_callS (As := [a1]) hd hlink hin hm rfl hst he hdd kk
theorem ng_callSN_1 {idx d' : Nat} {host : String} {a1 : Value} {y2 : ng_Y} {F1 : Option Value → ng_M → Prop} (hd : decode y.2.1 pc = .ok (.invokestatic idx, 3)) (hlink : (y.1.cls, idx, y2.1, host) ∈ ng_nm) (hin : Cond.static y2.1 ∈ ng_G) (hm : ng_MY y2 1) (hst : (st.map fun v => v.category).sum ≤ 8)
    (he : ng_Ev X d' y2 [a1] M F1) (hdd : d' ≤ d) (kk : ∀ (r : Option Value) (M1 : ng_M), F1 r M1 → ng_Go X y (d + 1) (pc + 3) lv (r.toList ++ st) M1 F) : ng_Go X y (d + 1) pc lv (a1 :: st) M F := ng_callSN (As := [a1]) hd hlink hin hm rfl hst he hdd kk
theorem ng_callV_2 {idx k ci d' : Nat} {a1 a2 : Value} {fs : List (Option Nat)} {y2 : ng_Y} {F1 : Option Value → ng_M → Prop} (hd : decode y.2.1 pc = .ok (.invokevirtual idx, 3)) (hlink : Cond.methodLink y.1.cls idx y2.1 ∈ ng_G) (hin : Cond.instanceMethod y2.1 ∈ ng_G ∧ Cond.selects y2.1.cls y2.1 y2.1 ∈ ng_G) (hm : ng_MY y2 2) (hs : ng_HS[k]? = some (.inl (ci, fs))) (hc : ∃ (T : u_T) (N : Nat), vwCl[ci]? = some (y2.1.cls, T, N)) (hst : (st.map fun v => v.category).sum ≤ 8)
    (he : ng_Ev X d' y2 (.ref k :: [a1, a2]) M F1) (hdd : d' ≤ d) (kk : ∀ (r : Option Value) (M1 : ng_M), F1 r M1 → ng_Go X y (d + 1) (pc + 3) lv (r.toList ++ st) M1 F) : ng_Go X y (d + 1) pc lv (a2 :: a1 :: .ref k :: st) M F := ng_callV (As := [a1, a2]) hd hlink hin hm rfl hs hc hst he hdd kk
theorem ng_callS_2 {idx d' : Nat} {a1 a2 : Value} {y2 : ng_Y} {F1 : Option Value → ng_M → Prop} (hd : decode y.2.1 pc = .ok (.invokestatic idx, 3)) (hlink : Cond.methodLink y.1.cls idx y2.1 ∈ ng_G) (hin : Cond.static y2.1 ∈ ng_G) (hm : ng_MY y2 2) (hst : (st.map fun v => v.category).sum ≤ 8)
    (he : ng_Ev X d' y2 [a1, a2] M F1) (hdd : d' ≤ d) (kk : ∀ (r : Option Value) (M1 : ng_M), F1 r M1 → ng_Go X y (d + 1) (pc + 3) lv (r.toList ++ st) M1 F) : ng_Go X y (d + 1) pc lv (a2 :: a1 :: st) M F := ng_callS (As := [a1, a2]) hd hlink hin hm rfl hst he hdd kk
theorem ng_callSN_2 {idx d' : Nat} {host : String} {a1 a2 : Value} {y2 : ng_Y} {F1 : Option Value → ng_M → Prop} (hd : decode y.2.1 pc = .ok (.invokestatic idx, 3)) (hlink : (y.1.cls, idx, y2.1, host) ∈ ng_nm) (hin : Cond.static y2.1 ∈ ng_G) (hm : ng_MY y2 2) (hst : (st.map fun v => v.category).sum ≤ 8)
    (he : ng_Ev X d' y2 [a1, a2] M F1) (hdd : d' ≤ d) (kk : ∀ (r : Option Value) (M1 : ng_M), F1 r M1 → ng_Go X y (d + 1) (pc + 3) lv (r.toList ++ st) M1 F) : ng_Go X y (d + 1) pc lv (a2 :: a1 :: st) M F := ng_callSN (As := [a1, a2]) hd hlink hin hm rfl hst he hdd kk
theorem ng_callV_3 {idx k ci d' : Nat} {a1 a2 a3 : Value} {fs : List (Option Nat)} {y2 : ng_Y} {F1 : Option Value → ng_M → Prop} (hd : decode y.2.1 pc = .ok (.invokevirtual idx, 3)) (hlink : Cond.methodLink y.1.cls idx y2.1 ∈ ng_G) (hin : Cond.instanceMethod y2.1 ∈ ng_G ∧ Cond.selects y2.1.cls y2.1 y2.1 ∈ ng_G) (hm : ng_MY y2 3) (hs : ng_HS[k]? = some (.inl (ci, fs))) (hc : ∃ (T : u_T) (N : Nat), vwCl[ci]? = some (y2.1.cls, T, N)) (hst : (st.map fun v => v.category).sum ≤ 8)
    (he : ng_Ev X d' y2 (.ref k :: [a1, a2, a3]) M F1) (hdd : d' ≤ d) (kk : ∀ (r : Option Value) (M1 : ng_M), F1 r M1 → ng_Go X y (d + 1) (pc + 3) lv (r.toList ++ st) M1 F) : ng_Go X y (d + 1) pc lv (a3 :: a2 :: a1 :: .ref k :: st) M F := ng_callV (As := [a1, a2, a3]) hd hlink hin hm rfl hs hc hst he hdd kk
theorem ng_callS_3 {idx d' : Nat} {a1 a2 a3 : Value} {y2 : ng_Y} {F1 : Option Value → ng_M → Prop} (hd : decode y.2.1 pc = .ok (.invokestatic idx, 3)) (hlink : Cond.methodLink y.1.cls idx y2.1 ∈ ng_G) (hin : Cond.static y2.1 ∈ ng_G) (hm : ng_MY y2 3) (hst : (st.map fun v => v.category).sum ≤ 8)
    (he : ng_Ev X d' y2 [a1, a2, a3] M F1) (hdd : d' ≤ d) (kk : ∀ (r : Option Value) (M1 : ng_M), F1 r M1 → ng_Go X y (d + 1) (pc + 3) lv (r.toList ++ st) M1 F) : ng_Go X y (d + 1) pc lv (a3 :: a2 :: a1 :: st) M F := ng_callS (As := [a1, a2, a3]) hd hlink hin hm rfl hst he hdd kk
theorem ng_callSN_3 {idx d' : Nat} {host : String} {a1 a2 a3 : Value} {y2 : ng_Y} {F1 : Option Value → ng_M → Prop} (hd : decode y.2.1 pc = .ok (.invokestatic idx, 3)) (hlink : (y.1.cls, idx, y2.1, host) ∈ ng_nm) (hin : Cond.static y2.1 ∈ ng_G) (hm : ng_MY y2 3) (hst : (st.map fun v => v.category).sum ≤ 8)
    (he : ng_Ev X d' y2 [a1, a2, a3] M F1) (hdd : d' ≤ d) (kk : ∀ (r : Option Value) (M1 : ng_M), F1 r M1 → ng_Go X y (d + 1) (pc + 3) lv (r.toList ++ st) M1 F) : ng_Go X y (d + 1) pc lv (a3 :: a2 :: a1 :: st) M F := ng_callSN (As := [a1, a2, a3]) hd hlink hin hm rfl hst he hdd kk
theorem ng_callV_4 {idx k ci d' : Nat} {a1 a2 a3 a4 : Value} {fs : List (Option Nat)} {y2 : ng_Y} {F1 : Option Value → ng_M → Prop} (hd : decode y.2.1 pc = .ok (.invokevirtual idx, 3)) (hlink : Cond.methodLink y.1.cls idx y2.1 ∈ ng_G) (hin : Cond.instanceMethod y2.1 ∈ ng_G ∧ Cond.selects y2.1.cls y2.1 y2.1 ∈ ng_G) (hm : ng_MY y2 4) (hs : ng_HS[k]? = some (.inl (ci, fs))) (hc : ∃ (T : u_T) (N : Nat), vwCl[ci]? = some (y2.1.cls, T, N)) (hst : (st.map fun v => v.category).sum ≤ 8)
    (he : ng_Ev X d' y2 (.ref k :: [a1, a2, a3, a4]) M F1) (hdd : d' ≤ d) (kk : ∀ (r : Option Value) (M1 : ng_M), F1 r M1 → ng_Go X y (d + 1) (pc + 3) lv (r.toList ++ st) M1 F) : ng_Go X y (d + 1) pc lv (a4 :: a3 :: a2 :: a1 :: .ref k :: st) M F := ng_callV (As := [a1, a2, a3, a4]) hd hlink hin hm rfl hs hc hst he hdd kk
theorem ng_callS_4 {idx d' : Nat} {a1 a2 a3 a4 : Value} {y2 : ng_Y} {F1 : Option Value → ng_M → Prop} (hd : decode y.2.1 pc = .ok (.invokestatic idx, 3)) (hlink : Cond.methodLink y.1.cls idx y2.1 ∈ ng_G) (hin : Cond.static y2.1 ∈ ng_G) (hm : ng_MY y2 4) (hst : (st.map fun v => v.category).sum ≤ 8)
    (he : ng_Ev X d' y2 [a1, a2, a3, a4] M F1) (hdd : d' ≤ d) (kk : ∀ (r : Option Value) (M1 : ng_M), F1 r M1 → ng_Go X y (d + 1) (pc + 3) lv (r.toList ++ st) M1 F) : ng_Go X y (d + 1) pc lv (a4 :: a3 :: a2 :: a1 :: st) M F := ng_callS (As := [a1, a2, a3, a4]) hd hlink hin hm rfl hst he hdd kk
theorem ng_callSN_4 {idx d' : Nat} {host : String} {a1 a2 a3 a4 : Value} {y2 : ng_Y} {F1 : Option Value → ng_M → Prop} (hd : decode y.2.1 pc = .ok (.invokestatic idx, 3)) (hlink : (y.1.cls, idx, y2.1, host) ∈ ng_nm) (hin : Cond.static y2.1 ∈ ng_G) (hm : ng_MY y2 4) (hst : (st.map fun v => v.category).sum ≤ 8)
    (he : ng_Ev X d' y2 [a1, a2, a3, a4] M F1) (hdd : d' ≤ d) (kk : ∀ (r : Option Value) (M1 : ng_M), F1 r M1 → ng_Go X y (d + 1) (pc + 3) lv (r.toList ++ st) M1 F) : ng_Go X y (d + 1) pc lv (a4 :: a3 :: a2 :: a1 :: st) M F := ng_callSN (As := [a1, a2, a3, a4]) hd hlink hin hm rfl hst he hdd kk
theorem ng_callV_5 {idx k ci d' : Nat} {a1 a2 a3 a4 a5 : Value} {fs : List (Option Nat)} {y2 : ng_Y} {F1 : Option Value → ng_M → Prop} (hd : decode y.2.1 pc = .ok (.invokevirtual idx, 3)) (hlink : Cond.methodLink y.1.cls idx y2.1 ∈ ng_G) (hin : Cond.instanceMethod y2.1 ∈ ng_G ∧ Cond.selects y2.1.cls y2.1 y2.1 ∈ ng_G) (hm : ng_MY y2 5) (hs : ng_HS[k]? = some (.inl (ci, fs))) (hc : ∃ (T : u_T) (N : Nat), vwCl[ci]? = some (y2.1.cls, T, N)) (hst : (st.map fun v => v.category).sum ≤ 8)
    (he : ng_Ev X d' y2 (.ref k :: [a1, a2, a3, a4, a5]) M F1) (hdd : d' ≤ d) (kk : ∀ (r : Option Value) (M1 : ng_M), F1 r M1 → ng_Go X y (d + 1) (pc + 3) lv (r.toList ++ st) M1 F) : ng_Go X y (d + 1) pc lv (a5 :: a4 :: a3 :: a2 :: a1 :: .ref k :: st) M F := ng_callV (As := [a1, a2, a3, a4, a5]) hd hlink hin hm rfl hs hc hst he hdd kk
theorem ng_callS_5 {idx d' : Nat} {a1 a2 a3 a4 a5 : Value} {y2 : ng_Y} {F1 : Option Value → ng_M → Prop} (hd : decode y.2.1 pc = .ok (.invokestatic idx, 3)) (hlink : Cond.methodLink y.1.cls idx y2.1 ∈ ng_G) (hin : Cond.static y2.1 ∈ ng_G) (hm : ng_MY y2 5) (hst : (st.map fun v => v.category).sum ≤ 8)
    (he : ng_Ev X d' y2 [a1, a2, a3, a4, a5] M F1) (hdd : d' ≤ d) (kk : ∀ (r : Option Value) (M1 : ng_M), F1 r M1 → ng_Go X y (d + 1) (pc + 3) lv (r.toList ++ st) M1 F) : ng_Go X y (d + 1) pc lv (a5 :: a4 :: a3 :: a2 :: a1 :: st) M F := ng_callS (As := [a1, a2, a3, a4, a5]) hd hlink hin hm rfl hst he hdd kk
theorem ng_callSN_5 {idx d' : Nat} {host : String} {a1 a2 a3 a4 a5 : Value} {y2 : ng_Y} {F1 : Option Value → ng_M → Prop} (hd : decode y.2.1 pc = .ok (.invokestatic idx, 3)) (hlink : (y.1.cls, idx, y2.1, host) ∈ ng_nm) (hin : Cond.static y2.1 ∈ ng_G) (hm : ng_MY y2 5) (hst : (st.map fun v => v.category).sum ≤ 8)
    (he : ng_Ev X d' y2 [a1, a2, a3, a4, a5] M F1) (hdd : d' ≤ d) (kk : ∀ (r : Option Value) (M1 : ng_M), F1 r M1 → ng_Go X y (d + 1) (pc + 3) lv (r.toList ++ st) M1 F) : ng_Go X y (d + 1) pc lv (a5 :: a4 :: a3 :: a2 :: a1 :: st) M F := ng_callSN (As := [a1, a2, a3, a4, a5]) hd hlink hin hm rfl hst he hdd kk
theorem ng_callS_6 {idx d' : Nat} {a1 a2 a3 a4 a5 a6 : Value} {y2 : ng_Y} {F1 : Option Value → ng_M → Prop} (hd : decode y.2.1 pc = .ok (.invokestatic idx, 3)) (hlink : Cond.methodLink y.1.cls idx y2.1 ∈ ng_G) (hin : Cond.static y2.1 ∈ ng_G) (hm : ng_MY y2 6) (hst : (st.map fun v => v.category).sum ≤ 8)
    (he : ng_Ev X d' y2 [a1, a2, a3, a4, a5, a6] M F1) (hdd : d' ≤ d) (kk : ∀ (r : Option Value) (M1 : ng_M), F1 r M1 → ng_Go X y (d + 1) (pc + 3) lv (r.toList ++ st) M1 F) : ng_Go X y (d + 1) pc lv (a6 :: a5 :: a4 :: a3 :: a2 :: a1 :: st) M F := ng_callS (As := [a1, a2, a3, a4, a5, a6]) hd hlink hin hm rfl hst he hdd kk
theorem ng_callSN_6 {idx d' : Nat} {host : String} {a1 a2 a3 a4 a5 a6 : Value} {y2 : ng_Y} {F1 : Option Value → ng_M → Prop} (hd : decode y.2.1 pc = .ok (.invokestatic idx, 3)) (hlink : (y.1.cls, idx, y2.1, host) ∈ ng_nm) (hin : Cond.static y2.1 ∈ ng_G) (hm : ng_MY y2 6) (hst : (st.map fun v => v.category).sum ≤ 8)
    (he : ng_Ev X d' y2 [a1, a2, a3, a4, a5, a6] M F1) (hdd : d' ≤ d) (kk : ∀ (r : Option Value) (M1 : ng_M), F1 r M1 → ng_Go X y (d + 1) (pc + 3) lv (r.toList ++ st) M1 F) : ng_Go X y (d + 1) pc lv (a6 :: a5 :: a4 :: a3 :: a2 :: a1 :: st) M F := ng_callSN (As := [a1, a2, a3, a4, a5, a6]) hd hlink hin hm rfl hst he hdd kk
def ng_ent (as : List Value) (n : Nat) : ng_L := as.flatMap (fun v => if v.category = 2 then [some v, none] else [some v]) ++ List.replicate (n - (lg_sl as).length) none
theorem ng_sl_len (ad : Nat → Nat) : ∀ as : List Value, (lg_sl (as.map (ng_v ad))).length = (lg_sl as).length ∧ (as.flatMap (fun v => if v.category = 2 then [some v, none] else [some v])).length = (lg_sl as).length
  | [] => ⟨rfl, rfl⟩
  | v :: as => by
    obtain ⟨h1, h2⟩ := ng_sl_len ad as
    simp only [lg_sl, List.map_cons, List.flatMap_cons, List.length_append, ng_v_cat] at h1 h2 ⊢
    refine ⟨?_, ?_⟩
    · rw [h1]; split <;> rfl
    · rw [h2]; split <;> rfl
theorem ng_sl_at (ad : Nat → Nat) : ∀ (as : List Value) (i : Nat) (v : Value), (as.flatMap (fun v => if v.category = 2 then [some v, none] else [some v]))[i]? = some (some v) → (lg_sl (as.map (ng_v ad)))[i]? = some (.val (ng_v ad v))
  | [], i, v, h => by simp at h
  | u :: as, i, v, h => by
    have ih := ng_sl_at ad as
    rw [List.flatMap_cons] at h
    have e : lg_sl ((u :: as).map (ng_v ad)) = (if u.category = 2 then [Slot.val (ng_v ad u), .second] else [Slot.val (ng_v ad u)]) ++ lg_sl (as.map (ng_v ad)) := by
      simp [lg_sl, ng_v_cat]
    rw [e]
    by_cases hc : u.category = 2
    · simp only [hc, if_true] at h ⊢
      match i, h with
      | 0, h => simp at h ⊢; rw [h]
      | 1, h => simp at h
      | i + 2, h => simpa using ih i v (by simpa using h)
    · simp only [hc, if_false] at h ⊢
      match i, h with
      | 0, h => simp at h ⊢; rw [h]
      | i + 1, h => simpa using ih i v (by simpa using h)
theorem ng_ent_lh (ad : Nat → Nat) (as : List Value) (n : Nat) (h : (lg_sl as).length ≤ n) : ng_lh ad ((lg_sl (as.map (ng_v ad)) ++ List.replicate (n - (lg_sl (as.map (ng_v ad))).length) Slot.unset).toArray) n (ng_ent as n) := by
  obtain ⟨h1, h2⟩ := ng_sl_len ad as
  have hl := lv_entry (as.map (ng_v ad)) (n := n) (by rw [h1]; exact h)
  refine ⟨by simp only [ng_ent, List.length_append, List.length_replicate, h2]; omega, hl.1, hl.2.1, fun i v hi => ?_⟩
  rw [List.getElem?_toArray]
  by_cases hlt : i < (lg_sl as).length
  · rw [ng_ent, List.getElem?_append_left (by rw [h2]; exact hlt)] at hi
    rw [List.getElem?_append_left (by rw [h1]; exact hlt)]
    exact ng_sl_at ad as i v hi
  · rw [ng_ent, List.getElem?_append_right (by rw [h2]; omega)] at hi
    have := List.getElem?_eq_some_iff.mp hi
    simp at this
theorem ng_Ev.of {as : List Value} (hy : plainName y.1.cls = true) (hlen : (lg_sl as).length ≤ y.2.2.1) (hlv : ng_ent as y.2.2.1 = lv)
    (hF : ∀ r M', F r M' → (∃ v ty, r = some (.int v) ∧ y.2.2.2 = some ty ∧ narrow ty (.int v) = .int v) ∨ (r = none ∧ y.2.2.2 = none) ∨ ((r = some .null ∨ ∃ k, r = some (.ref k)) ∧ ∃ nm, y.2.2.2 = some (.object nm))) (h : ng_Go X y d 0 lv [] M F) : ng_Ev X d y as M F := by
  intro l D cA ad A hD d' hd'
  refine Met.ofW (cc := y.2.1) (maxL := y.2.2.1) (ret := y.2.2.2) hy rfl ?_
  intro p e s m args below meth c s₁ B hml hv
  obtain ⟨rfl, hP, hK, hC⟩ := hv
  have hts := atoms_spec (ws := ng_ws y) B.pre
  have hown : s.vm.findClass y.1.cls = some m.cls := findClass_of_methodNamed B.named
  have hlocks := B.notSynchronized
  rw [lg_entry_eq]
  subst hlv
  refine h l D cA ad A p e (headSpec (ng_ws y) (ng_rm d')).room s m _ below meth c 0 0 _ ⟨⟨B.exec, B.bytes, hml, hown, fun w hw => hts w (List.mem_cons_of_mem _ hw)⟩, hK, hC, hD, hd', by show 40 * d ≤ 40 * d'; omega, Nat.zero_le _, Nat.zero_le _⟩ ?_ s.heap [] _ hP va_S.rf (ng_ent_lh ad as _ hlen)
  intro r M' H' locs' ls' pc' hF' hP' hS' hrt
  have post : ∀ t : State, t.heap = H' → s.WarmedH t.vm → ng_Q D cA ad A F ((as.map (ng_v ad)).toArray) s (.returned (r.map (ng_v ad))) t := fun t ht hW => ⟨⟨r, M', rfl, hF', by rw [ht]; exact hP'⟩, hS'.F ht⟩
  rcases hF r M' hF' with ⟨v, ty, rfl, h1, h2⟩ | ⟨rfl, h1⟩ | ⟨h0, nm, h1⟩
  · rcases hrt with ⟨v', e1, hd⟩ | ⟨e1, -⟩ | ⟨e1, -⟩
    · exact W.zret B.exec B.bytes (B.returns.trans h1) h2 post (fun q hq => hS'.2.2 q hq) hd hlocks
    · cases e1
    · rcases e1 with e1 | ⟨k, e1⟩ <;> cases e1
  · rcases hrt with ⟨v', e1, hd⟩ | ⟨-, hd⟩ | ⟨e1, -⟩
    · cases e1
    · exact W.vret B.exec B.bytes (B.returns.trans h1) post (fun q hq => hS'.2.2 q hq) hd hlocks
    · rcases e1 with e1 | ⟨k, e1⟩ <;> cases e1
  · rcases hrt with ⟨v', e1, hd⟩ | ⟨e1, -⟩ | ⟨-, hd⟩
    · rcases h0 with rfl | ⟨k, rfl⟩ <;> cases e1
    · rcases h0 with rfl | ⟨k, rfl⟩ <;> cases e1
    · rcases h0 with rfl | ⟨k, rfl⟩
      · exact W.aret B.exec B.bytes (B.returns.trans h1) (Or.inl ⟨nm, rfl⟩) (Or.inl rfl) post (fun q hq => hS'.2.2 q hq) hd hlocks
      · exact W.aret B.exec B.bytes (B.returns.trans h1) (Or.inl ⟨nm, rfl⟩) (Or.inr ⟨ad k, rfl⟩) post (fun q hq => hS'.2.2 q hq) hd hlocks
end NgCalls
