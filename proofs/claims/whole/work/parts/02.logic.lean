/-! ===== the system's memory by labels: cell k holds the numbers M k; what is a reference never changes behind the constructors, and stands in the shapes ng_HS ===== -/
abbrev ng_M : Type := Nat → Nat → Int32
def ng_row (M : ng_M) (k : Nat) (g : Nat → Int32) : ng_M := fun j => if j = k then g else M j
/-- an object (its class's number; its fields: a label, or a number), a row of numbers (how many), a row of references (how many, the number of its type, labels) -/
abbrev ng_Sh : Type := (Nat × List (Option Nat)) ⊕ (Nat ⊕ (Nat × Nat × (Nat → Option Nat)))
/-- a method: name, code, locals, answer -/
abbrev ng_Y : Type := MethodName × ByteArray × Nat × Option FieldType
abbrev ng_L : Type := List (Option Value)
def ng_HS : List ng_Sh := [.inl (8, [some 1, some 20, some 39, some 58, some 60, some 63, some 72, none]), .inl (7, [some 2, some 15, some 18, some 19, none, none, none, none]), .inl (3, [some 3, some 4, some 5, some 6, some 7, some 11, none]), .inr (.inl 10), .inr (.inl 8), .inr (.inl 8), .inr (.inl 8), .inl (0, [some 8, none, some 9, some 10]), .inr (.inl 50), .inr (.inl 4), .inr (.inl 50), .inl (0, [some 12, none, some 13, some 14]), .inr (.inl 50), .inr (.inl 4), .inr (.inl 50), .inl (5, [some 2, some 16, some 17, none, none, none, none, none, none, none, none, none]), .inr (.inl 8), .inr (.inl 8), .inr (.inl 50), .inr (.inl 20), .inl (7, [some 21, some 34, some 37, some 38, none, none, none, none]), .inl (3, [some 22, some 23, some 24, some 25, some 26, some 30, none]), .inr (.inl 10), .inr (.inl 8), .inr (.inl 8), .inr (.inl 8), .inl (0, [some 27, none, some 28, some 29]), .inr (.inl 50), .inr (.inl 4), .inr (.inl 50), .inl (0, [some 31, none, some 32, some 33]), .inr (.inl 50), .inr (.inl 4), .inr (.inl 50), .inl (5, [some 21, some 35, some 36, none, none, none, none, none, none, none, none, none]), .inr (.inl 8), .inr (.inl 8), .inr (.inl 50), .inr (.inl 20), .inl (1, [some 40, some 41, some 56, some 57, none, none]), .inr (.inr (4, 2, fun i => ([44, 47, 50, 53] : List Nat)[i]?)), .inl (5, [some 2, some 42, some 43, none, none, none, none, none, none, none, none, none]), .inr (.inl 8), .inr (.inl 8), .inl (5, [some 2, some 45, some 46, none, none, none, none, none, none, none, none, none]), .inr (.inl 8), .inr (.inl 8), .inl (5, [some 2, some 48, some 49, none, none, none, none, none, none, none, none, none]), .inr (.inl 8), .inr (.inl 8), .inl (5, [some 2, some 51, some 52, none, none, none, none, none, none, none, none, none]), .inr (.inl 8), .inr (.inl 8), .inl (5, [some 2, some 54, some 55, none, none, none, none, none, none, none, none, none]), .inr (.inl 8), .inr (.inl 8), .inr (.inl 3), .inr (.inl 3), .inl (6, [some 59, none, none, none, none]), .inr (.inl 40), .inl (2, [some 61, none, some 62, none, none, none]), .inr (.inl 50), .inr (.inl 50), .inr (.inr (4, 1, fun i => ([64, 66, 68, 70] : List Nat)[i]?)), .inl (4, [some 65, none, none]), .inr (.inl 40), .inl (4, [some 67, none, none]), .inr (.inl 40), .inl (4, [some 69, none, none]), .inr (.inl 40), .inl (4, [some 71, none, none]), .inr (.inl 40), .inr (.inl 6), .inl (9, [some 74, some 75, some 76, none, some 77, some 78, some 79, none, none, none, none, some 80, none, some 81, some 82, some 83, some 84, none, some 85, none, none, some 86, some 87, some 88, some 89]), .inr (.inl 227), .inr (.inl 227), .inr (.inl 227), .inr (.inl 6), .inr (.inl 6), .inr (.inr (2, 3, fun i => ([1010, 1011] : List Nat)[i]?)), .inr (.inl 60), .inr (.inl 4), .inr (.inl 60), .inr (.inl 8), .inr (.inl 3), .inr (.inl 40), .inr (.inl 4), .inr (.inl 4), .inr (.inl 160), .inr (.inl 40)]
def ng_kst (X : Nat × (Nat → Int32)) : List (FieldType × Nat × (Nat → Int32)) := [(.int, 6, fun j => ([0, 0, 0, 0, -99999999, 0] : List Int32).getD j 0), (.int, 6, fun j => ([9, 12, 20, 60, 99999999, 999] : List Int32).getD j 0), (.int, 7, fun j => ([-1, 0, 1, 0, 3, 0, 1] : List Int32).getD j 0), (.char, 8, fun j => ([119, 110, 108, 104, 115, 107, 110, 117] : List Int32).getD j 0), (.int, 28, fun j => ([10, 11, 12, 13, 0, 20, 0, 0, 30, 0, 0, 0, 0, 0, 40, 0, 50, 0, 0, 51, 0, 60, 0, 0, 0, 0, 70, 71] : List Int32).getD j 0), (.byte, 4, fun j => ([119, 110, 108, 104] : List Int32).getD j 0), (.byte, 4, fun j => ([115, 107, 110, 117] : List Int32).getD j 0), (.int, X.1, X.2)]
def ng_stats : List (String × String × String × Value) := [("NinePots", "SETTING_LOW", "[I", .ref 1000), ("NinePots", "SETTING_HIGH", "[I", .ref 1001), ("NinePots", "ABOVE", "[I", .ref 1002), ("NinePots$Reader", "NAMES", "[C", .ref 1003), ("NinePots$Voices", "BODY_OF", "[I", .ref 1004), ("java/lang/String", "COMPACT_STRINGS", "Z", .int 1)]
def ng_ofs : List (String × String × String × Value × Nat) := [("java/lang/String", "value", "[B", .ref 1005, 1010), ("java/lang/String", "coder", "B", .int 0, 1010), ("java/lang/String", "value", "[B", .ref 1006, 1011), ("java/lang/String", "coder", "B", .int 0, 1011)]
def ng_nm : List (String × Nat × MethodName × String) := [("NinePots", 11, ⟨"NinePots$Whole", "<init>", "()V"⟩, "NinePots"), ("NinePots$Rules", 26, ⟨"NinePots$Formula", "<init>", "()V"⟩, "NinePots"), ("NinePots", 34, ⟨"NinePots$Voices", "<init>", "()V"⟩, "NinePots"), ("NinePots", 41, ⟨"NinePots$Reader", "<init>", "()V"⟩, "NinePots"), ("NinePots", 56, ⟨"NinePots$Sheet", "<init>", "()V"⟩, "NinePots"), ("NinePots$Rules", 54, ⟨"NinePots", "isWithin", "(III)Z"⟩, "NinePots"), ("NinePots$Sheet", 26, ⟨"NinePots", "isWithin", "(III)Z"⟩, "NinePots"), ("NinePots$Rules", 67, ⟨"NinePots", "held", "(III)I"⟩, "NinePots"), ("NinePots$Reader", 28, ⟨"NinePots", "held", "(III)I"⟩, "NinePots"), ("NinePots$Reader", 84, ⟨"NinePots", "isWithin", "(III)Z"⟩, "NinePots"), ("NinePots$Formula", 31, ⟨"NinePots", "held", "(III)I"⟩, "NinePots"), ("NinePots$Stand", 110, ⟨"NinePots", "held", "(III)I"⟩, "NinePots"), ("NinePots$Stand", 129, ⟨"NinePots", "isOf", "(II)Z"⟩, "NinePots"), ("NinePots$Outlook", 35, ⟨"NinePots", "isWithin", "(III)Z"⟩, "NinePots"), ("NinePots$Outlook", 107, ⟨"NinePots", "held", "(III)I"⟩, "NinePots"), ("NinePots$Voices", 50, ⟨"NinePots", "isWithin", "(III)Z"⟩, "NinePots"), ("NinePots$Sheet", 19, ⟨"NinePots", "held", "(III)I"⟩, "NinePots")]
def ng_nf : List (String × Nat × String × String × String × String) := [("NinePots$Voices", 47, "NinePots", "ABOVE", "[I", "NinePots")]
def ng_G : List Cond := lw_tbl.filter goodWord
theorem ng_inG {w : Cond} {i : Nat} (h : lw_tbl[i]? = some w) (hg : goodWord w = true) : w ∈ ng_G := List.mem_filter.mpr ⟨List.mem_of_getElem? h, hg⟩
theorem ng_goodG {w : Cond} (h : w ∈ ng_G) : (w.onTables && w.keeps) = true ∨ ∃ ty, w = .arrayClass ty := good_of_word (List.mem_filter.mp h).2
/-- a value with labels as the machine has it: labels are addresses there -/
def ng_v (ad : Nat → Nat) : Value → Value
  | .ref k => .ref (ad k)
  | v => v
theorem ng_v_cat (ad : Nat → Nat) (v : Value) : (ng_v ad v).category = v.category := by cases v <;> rfl
def ng_fs (ad : Nat → Nat) (g : Nat → Int32) (fs : List (Option Nat)) : List Value := fs.mapIdx (fun i o => match o with | some r => Value.ref (ad r) | none => Value.int (g i))
def ng_we (cA : Nat → ClassId) (ad : Nat → Nat) (g : Nat → Int32) : ng_Sh → va_E
  | .inl q => .inr (q.1, ng_fs ad g q.2)
  | .inr (.inl n) => .inl (cA 0, n, .inl g)
  | .inr (.inr q) => .inl (cA q.2.1, q.1, .inr (.inr (.inr (.inr (fun i => (q.2.2 i).map ad)))))
def ng_wd (cA : Nat → ClassId) (ad : Nat → Nat) (M : ng_M) : va_W := ng_HS.mapIdx (fun k sh => (ad k, ng_we cA ad (M k) sh))
def ng_tys (cA : Nat → ClassId) : List (ClassId × FieldType) := [(cA 0, .int), (cA 1, .object "NinePots$Sheet"), (cA 2, .object "NinePots$Stand"), (cA 3, .object "java/lang/String")]
theorem ng_wd_get {cA : Nat → ClassId} {ad : Nat → Nat} {M : ng_M} {k : Nat} {sh : ng_Sh} (h : ng_HS[k]? = some sh) : (ng_wd cA ad M)[k]? = some (ad k, ng_we cA ad (M k) sh) := by
  simp [ng_wd, List.getElem?_mapIdx, h]
theorem ng_wd_set {cA : Nat → ClassId} {ad : Nat → Nat} {M : ng_M} {k : Nat} {sh : ng_Sh} {g : Nat → Int32} {e : va_E} (h : ng_HS[k]? = some sh) (he : e = ng_we cA ad g sh) : (ng_wd cA ad M).set k (ad k, e) = ng_wd cA ad (ng_row M k g) := by
  subst he
  apply List.ext_getElem?
  intro i
  by_cases hi : i = k
  · subst hi
    have hl : i < (ng_wd cA ad M).length := (List.getElem?_eq_some_iff.mp (ng_wd_get (cA := cA) (ad := ad) (M := M) h)).1
    rw [List.getElem?_set_self hl, ng_wd_get h]
    simp [ng_row]
  · rw [List.getElem?_set_ne (Ne.symm hi)]
    simp [ng_wd, List.getElem?_mapIdx, ng_row, hi]
theorem ng_fs_int {ad : Nat → Nat} {g : Nat → Int32} {fs : List (Option Nat)} {k : Nat} (h : fs[k]? = some none) : (ng_fs ad g fs)[k]? = some (.int (g k)) := by
  simp [ng_fs, List.getElem?_mapIdx, h]
theorem ng_fs_ref {ad : Nat → Nat} {g : Nat → Int32} {fs : List (Option Nat)} {k r : Nat} (h : fs[k]? = some (some r)) : (ng_fs ad g fs)[k]? = some (.ref (ad r)) := by
  simp [ng_fs, List.getElem?_mapIdx, h]
theorem ng_fs_set {ad : Nat → Nat} {g : Nat → Int32} {fs : List (Option Nat)} {k : Nat} {v : Int32} (h : fs[k]? = some none) : (ng_fs ad g fs).set k (.int v) = ng_fs ad (upd g k v) fs := by
  apply List.ext_getElem?
  intro i
  by_cases hi : i = k
  · subst hi
    have hl : i < (ng_fs ad g fs).length := (List.getElem?_eq_some_iff.mp (ng_fs_int (ad := ad) (g := g) h)).1
    rw [List.getElem?_set_self hl, ng_fs_int h]
    simp [upd]
  · rw [List.getElem?_set_ne (Ne.symm hi)]
    simp only [ng_fs, List.getElem?_mapIdx]
    cases fs[i]? with
    | none => rfl
    | some o => cases o <;> simp [upd, hi]
/-- what never changes: the nest's links, static fields, constant rows (label 1000 and on; the script is the last), constant texts -/
def ng_Cs (ad : Nat → Nat) (A : Nat → Prop) (X : Nat × (Nat → Int32)) (U : State) : Prop :=
  (∀ q ∈ ng_nm, va_Nw (.methodLinkNest q.1 q.2.1 q.2.2.1 q.2.2.2) U) ∧ (∀ q ∈ ng_nf, va_Nw (.fieldLinkNest q.1 q.2.1 q.2.2.1 q.2.2.2.1 q.2.2.2.2.1 q.2.2.2.2.2) U) ∧
  (∀ q ∈ ng_stats, va_Z q.1 q.2.1 q.2.2.1 (ng_v ad q.2.2.2) A U U.heap) ∧
  (∀ (i : Nat) (q : FieldType × Nat × (Nat → Int32)), (ng_kst X)[i]? = some q → va_T q.1 (ad (1000 + i)) q.2.1 (fun j => .int (q.2.2 j)) A U U.heap) ∧
  (∀ q ∈ ng_ofs, va_OF q.1 q.2.1 q.2.2.1 (ng_v ad q.2.2.2.1) (ad q.2.2.2.2) A U U.heap ∧ va_O "java/lang/String" (ad q.2.2.2.2) A U U.heap) ∧
  (va_Z "jdk/internal/util/Preconditions" "SIOOBE_FORMATTER" "Ljava/util/function/BiFunction;" .null A U U.heap ∨ va_Z "jdk/internal/util/Preconditions" "SIOOBE_FORMATTER" "Ljava/util/function/BiFunction;" (.ref (ad 1020)) A U U.heap)
theorem ng_Cs.to {ad : Nat → Nat} {A : Nat → Prop} {X : Nat × (Nat → Int32)} {s U : State} (h : ng_Cs ad A X s) (hW : s.WarmedH U.vm) (hq : ∀ a : Nat, a < s.heap.size → ¬ A a → U.heap[a]? = s.heap[a]?) : ng_Cs ad A X U := by
  obtain ⟨h1, h2, h3, h4, h5, h6⟩ := h
  exact ⟨fun q hm => va_Nw.warmM hW (h1 q hm), fun q hm => va_Nw.warmF hW (h2 q hm), fun q hm => ((h3 q hm).kept hq).moved hW.alike, fun i q hm => ((h4 i q hm).kept hq).moved hW.alike, fun q hm => ⟨((h5 q hm).1.kept hq).moved hW.alike, ((h5 q hm).2.kept hq).moved hW.alike⟩, h6.imp (fun z => (z.kept hq).moved hW.alike) (fun z => (z.kept hq).moved hW.alike)⟩
theorem ng_Cs.call {ad : Nat → Nat} {A : Nat → Prop} {X : Nat × (Nat → Int32)} {U : State} {g : JFrame} {mk : MethodId} {a : Array Value} (h : ng_Cs ad A X U) : ng_Cs ad A X (U.calling g mk a) := by
  obtain ⟨h1, h2, h3, h4, h5, h6⟩ := h
  have e : U.vm.Alike (U.calling g mk a).vm := Vm.Alike.refl U.vm
  exact ⟨fun q hm => va_Nw.same rfl rfl (h1 q hm), fun q hm => va_Nw.same rfl rfl (h2 q hm), fun q hm => (h3 q hm).moved e, fun i q hm => (h4 i q hm).moved e, fun q hm => ⟨(h5 q hm).1.moved e, (h5 q hm).2.moved e⟩, h6.imp (fun z => z.moved e) (fun z => z.moved e)⟩
/-- the locals: as many as the list has, what it names stands there -/
def ng_lh (ad : Nat → Nat) (ls : Array Slot) (n : Nat) (lv : ng_L) : Prop := lv.length = n ∧ ls.size = n ∧ lv_wf ls ∧ ∀ (i : Nat) (v : Value), lv[i]? = some (some v) → ls[i]? = some (.val (ng_v ad v))
def ng_al (ad : Nat → Nat) (lv : ng_L) : List (Nat × Value) := (List.range lv.length).filterMap (fun i => match lv[i]? with | some (some v) => some (i, ng_v ad v) | _ => none)
theorem ng_al_mem {ad : Nat → Nat} {lv : ng_L} {i : Nat} {v : Value} (h : lv[i]? = some (some v)) : (i, ng_v ad v) ∈ ng_al ad lv := by
  refine List.mem_filterMap.mpr ⟨i, List.mem_range.mpr (List.getElem?_eq_some_iff.mp h).1, ?_⟩
  simp [h]
theorem ng_al_of {ad : Nat → Nat} {lv : ng_L} {q : Nat × Value} (h : q ∈ ng_al ad lv) : ∃ v, lv[q.1]? = some (some v) ∧ q.2 = ng_v ad v := by
  obtain ⟨i, -, h2⟩ := List.mem_filterMap.mp h
  split at h2
  · rename_i v hv
    cases h2
    exact ⟨v, hv, rfl⟩
  · cases h2
theorem ng_lh.has {ad : Nat → Nat} {ls : Array Slot} {n : Nat} {lv : ng_L} (h : ng_lh ad ls n lv) : lv_has ls n (ng_al ad lv) := by
  obtain ⟨-, h1, h2, h3⟩ := h
  refine ⟨h1, h2, fun q hq => ?_⟩
  obtain ⟨v, hv, e⟩ := ng_al_of hq
  rw [e]
  exact h3 q.1 v hv
def ng_nl : Option Value → Bool
  | some v => v.category == 1
  | none => true
theorem ng_lh.store {ad : Nat → Nat} {ls ls' : Array Slot} {n i : Nat} {lv : ng_L} {v : Value} (h : ng_lh ad ls n lv) (hp : ∀ j u, j + 1 = i → lv[j]? = some (some u) → u.category = 1)
    (h' : lv_has ls' n ((i, ng_v ad v) :: (ng_al ad lv).filter (fun q => !(q.1 == i) && !(q.1 + 1 == i && q.2.category == 2)))) : ng_lh ad ls' n (lv.set i (some v)) := by
  refine ⟨by rw [List.length_set]; exact h.1, h'.1, h'.2.1, fun j u hj => ?_⟩
  by_cases hji : j = i
  · subst hji
    have hl : j < lv.length := by
      have := (List.getElem?_eq_some_iff.mp hj).1
      rwa [List.length_set] at this
    rw [List.getElem?_set_self hl] at hj
    cases hj
    exact h'.2.2 (j, ng_v ad v) List.mem_cons_self
  · rw [List.getElem?_set_ne (Ne.symm hji)] at hj
    refine h'.2.2 (j, ng_v ad u) (List.mem_cons_of_mem _ (List.mem_filter.mpr ⟨ng_al_mem hj, ?_⟩))
    by_cases hk : j + 1 = i
    · have := hp j u hk hj
      simp [hji, hk, ng_v_cat, this]
    · simp [hji, hk]
theorem ng_lh.store2 {ad : Nat → Nat} {ls ls' : Array Slot} {n i : Nat} {lv : ng_L} {v : Value} (h : ng_lh ad ls n lv) (hi : i + 1 < n) (hp : ∀ j u, j + 1 = i → lv[j]? = some (some u) → u.category = 1)
    (h' : lv_has ls' n ((i, ng_v ad v) :: (ng_al ad lv).filter (fun q => !(q.1 == i) && (!(q.1 == i + 1) && !(q.1 + 1 == i && q.2.category == 2))))) : ng_lh ad ls' n ((lv.set i (some v)).set (i + 1) none) := by
  refine ⟨by rw [List.length_set, List.length_set]; exact h.1, h'.1, h'.2.1, fun j u hj => ?_⟩
  by_cases hj1 : j = i + 1
  · subst hj1
    rw [List.getElem?_set_self (by rw [List.length_set]; rw [h.1]; exact hi)] at hj
    cases hj
  · rw [List.getElem?_set_ne (Ne.symm hj1)] at hj
    by_cases hji : j = i
    · subst hji
      have hl : j < lv.length := by rw [h.1]; omega
      rw [List.getElem?_set_self hl] at hj
      cases hj
      exact h'.2.2 (j, ng_v ad v) List.mem_cons_self
    · rw [List.getElem?_set_ne (Ne.symm hji)] at hj
      refine h'.2.2 (j, ng_v ad u) (List.mem_cons_of_mem _ (List.mem_filter.mpr ⟨ng_al_mem hj, ?_⟩))
      by_cases hk : j + 1 = i
      · have := hp j u hk hj
        simp [hji, hk, hj1, ng_v_cat, this]
        try omega
      · simp [hji, hk, hj1]
/-- the end of a method: the instruction that goes back, with its answer -/
def ng_rt (cc : ByteArray) (pc : Nat) (r : Option Value) : Prop := (∃ v, r = some (.int v) ∧ decode cc pc = .ok (.ireturn, 1)) ∨ (r = none ∧ decode cc pc = .ok (.return_, 1)) ∨ ((r = some .null ∨ ∃ k, r = some (.ref k)) ∧ decode cc pc = .ok (.areturn, 1))
def ng_Cx (D : va_G) (cA : Nat → ClassId) (ad : Nat → Nat) (A : Nat → Prop) (X : Nat × (Nat → Int32)) (y : ng_Y) (d : Nat) (p : Program) (R : Room) (s : State) (m : MethodId) (args : Array Value) (c : Code) (cells slots : Nat) : Prop :=
  CallFix p m c y.2.1 y.2.2.1 s args ng_G y.1.cls ∧ va_K D vwCl (ng_tys cA) s ∧ ng_Cs ad A X s ∧ (∀ M, va_D A (ng_wd cA ad M)) ∧ d ≤ R.frames ∧ 40 * d ≤ R.locals ∧ cells ≤ R.cells ∧ slots ≤ R.slots
/-- from pc, with these locals and this stack, over the memory M: the method y comes to its end, with an answer and a memory that F has; d calls may stand open above it -/
def ng_Go (X : Nat × (Nat → Int32)) (y : ng_Y) (d pc : Nat) (lv : ng_L) (st : List Value) (M : ng_M) (F : Option Value → ng_M → Prop) : Prop :=
  ∀ (l : Launch) (D : va_G) (cA : Nat → ClassId) (ad : Nat → Nat) (A : Nat → Prop) (p : Program) (e : Env) (R : Room) (s : State) (m : MethodId) (args : Array Value) (below : List Frame) (meth : Method) (c : Code) (cells slots : Nat) (Q : State → Prop),
    ng_Cx D cA ad A X y d p R s m args c cells slots →
    (∀ (r : Option Value) (M' : ng_M) (H' : Heap) (locs' : List Loc) (ls' : Array Slot) (pc' : Nat), F r M' → va_P D vwCl (ng_wd cA ad M') H' → va_S A s.heap H' locs' → ng_rt y.2.1 pc' r → W p l e R s m args below meth c H' locs' cells slots Q (F0 m pc' ls' (r.map (ng_v ad)).toList)) →
    ∀ (H : Heap) (locs : List Loc) (ls : Array Slot), va_P D vwCl (ng_wd cA ad M) H → va_S A s.heap H locs → ng_lh ad ls y.2.2.1 lv → W p l e R s m args below meth c H locs cells slots Q (F0 m pc ls (st.map (ng_v ad)))
def ng_rm (d : Nat) : Room := { frames := d, cells := 0, slots := 0, locals := 40 * d }
def ng_ws (y : ng_Y) : List Cond := Cond.code y.1 y.2.1 y.2.2.1 y.2.2.2 :: ng_G
def ng_W (D : va_G) (cA : Nat → ClassId) (ad : Nat → Nat) (A : Nat → Prop) (X : Nat × (Nat → Int32)) (M : ng_M) (U : State) : Prop := va_P D vwCl (ng_wd cA ad M) U.heap ∧ va_K D vwCl (ng_tys cA) U ∧ ng_Cs ad A X U
def ng_Q (D : va_G) (cA : Nat → ClassId) (ad : Nat → Nat) (A : Nat → Prop) (F : Option Value → ng_M → Prop) : Array Value → State → Outcome → State → Prop := fun _ st o t => (∃ (r : Option Value) (M' : ng_M), o = .returned (r.map (ng_v ad)) ∧ F r M' ∧ va_P D vwCl (ng_wd cA ad M') t.heap) ∧ va_F A st t
/-- the contract of a method: from M it answers, F has the answer and the memory; at most d calls stand open -/
def ng_Ev (X : Nat × (Nat → Int32)) (d : Nat) (y : ng_Y) (as : List Value) (M : ng_M) (F : Option Value → ng_M → Prop) : Prop :=
  ∀ (l : Launch) (D : va_G) (cA : Nat → ClassId) (ad : Nat → Nat) (A : Nat → Prop), (∀ M, va_D A (ng_wd cA ad M)) → ∀ d' : Nat, d ≤ d' → Met l y.1 (ng_ws y) (ng_rm d') (va_Pc (as.map (ng_v ad)) (ng_W D cA ad A X M)) (ng_Q D cA ad A F) 0 0 A
theorem ng_Ev.up {X : Nat × (Nat → Int32)} {d d' : Nat} {y : ng_Y} {as : List Value} {M : ng_M} {F : Option Value → ng_M → Prop} (h : ng_Ev X d y as M F) (hd : d ≤ d') : ng_Ev X d' y as M F := fun l D cA ad A hD e he => h l D cA ad A hD e (Nat.le_trans hd he)
theorem ng_Go.imp {X : Nat × (Nat → Int32)} {y : ng_Y} {d pc : Nat} {lv : ng_L} {st : List Value} {M : ng_M} {F G : Option Value → ng_M → Prop} (h : ng_Go X y d pc lv st M F) (hFG : ∀ r M', F r M' → G r M') : ng_Go X y d pc lv st M G := by
  intro l D cA ad A p e R s m args below meth c cells slots Q C fin H locs ls hP hS hl
  exact h l D cA ad A p e R s m args below meth c cells slots Q C (fun r M' H' locs' ls' pc' hF => fin r M' H' locs' ls' pc' (hFG r M' hF)) H locs ls hP hS hl
theorem ng_blind {D : va_G} {cA : Nat → ClassId} {ad : Nat → Nat} {A : Nat → Prop} {X : Nat × (Nat → Int32)} {M : ng_M} {av : List Value} : FrameBlind (va_Pc av (ng_W D cA ad A X M)) := by
  intro a U g mk h
  obtain ⟨h1, h2, h3, h4⟩ := h
  exact ⟨h1, h2, va_K.moved (u := U) (U := U.calling g mk a) (Vm.Alike.refl U.vm) h3, h4.call⟩

section NgRules
variable {X : Nat × (Nat → Int32)} {y : ng_Y} {d pc : Nat} {lv : ng_L} {st : List Value} {M : ng_M} {F : Option Value → ng_M → Prop}
theorem ng_iconst {n : Int} {v : Int32} (hd : decode y.2.1 pc = .ok (.iconst n, 1)) (hv : Int32.ofInt n = v) (k : ng_Go X y d (pc + 1) lv (.int v :: st) M F) : ng_Go X y d pc lv st M F := by
  intro l D cA ad A p e R s m args below meth c cells slots Q C fin H locs ls hP hS hl
  exact lv_iconst C.1.1 C.1.2.1 hd hv (k l D cA ad A p e R s m args below meth c cells slots Q C fin H locs ls hP hS hl)
theorem ng_iconst_m1 (hd : decode y.2.1 pc = .ok (.iconst (-1), 1)) (k : ng_Go X y d (pc + 1) lv (.int (-1) :: st) M F) : ng_Go X y d pc lv st M F := ng_iconst hd (by decide) k
theorem ng_iconst_0 (hd : decode y.2.1 pc = .ok (.iconst 0, 1)) (k : ng_Go X y d (pc + 1) lv (.int 0 :: st) M F) : ng_Go X y d pc lv st M F := ng_iconst hd (by decide) k
theorem ng_iconst_1 (hd : decode y.2.1 pc = .ok (.iconst 1, 1)) (k : ng_Go X y d (pc + 1) lv (.int 1 :: st) M F) : ng_Go X y d pc lv st M F := ng_iconst hd (by decide) k
theorem ng_iconst_2 (hd : decode y.2.1 pc = .ok (.iconst 2, 1)) (k : ng_Go X y d (pc + 1) lv (.int 2 :: st) M F) : ng_Go X y d pc lv st M F := ng_iconst hd (by decide) k
theorem ng_iconst_3 (hd : decode y.2.1 pc = .ok (.iconst 3, 1)) (k : ng_Go X y d (pc + 1) lv (.int 3 :: st) M F) : ng_Go X y d pc lv st M F := ng_iconst hd (by decide) k
theorem ng_iconst_4 (hd : decode y.2.1 pc = .ok (.iconst 4, 1)) (k : ng_Go X y d (pc + 1) lv (.int 4 :: st) M F) : ng_Go X y d pc lv st M F := ng_iconst hd (by decide) k
theorem ng_iconst_5 (hd : decode y.2.1 pc = .ok (.iconst 5, 1)) (k : ng_Go X y d (pc + 1) lv (.int 5 :: st) M F) : ng_Go X y d pc lv st M F := ng_iconst hd (by decide) k
theorem ng_bipush {n : Int} {v : Int32} (hd : decode y.2.1 pc = .ok (.bipush n, 2)) (hv : (Int8.ofInt n).toInt32 = v) (k : ng_Go X y d (pc + 2) lv (.int v :: st) M F) : ng_Go X y d pc lv st M F := by
  intro l D cA ad A p e R s m args below meth c cells slots Q C fin H locs ls hP hS hl
  exact lv_bipush C.1.1 C.1.2.1 hd hv (k l D cA ad A p e R s m args below meth c cells slots Q C fin H locs ls hP hS hl)
theorem ng_sipush {n : Int} {v : Int32} (hd : decode y.2.1 pc = .ok (.sipush n, 3)) (hv : (Int16.ofInt n).toInt32 = v) (k : ng_Go X y d (pc + 3) lv (.int v :: st) M F) : ng_Go X y d pc lv st M F := by
  intro l D cA ad A p e R s m args below meth c cells slots Q C fin H locs ls hP hS hl
  exact lv_sipush C.1.1 C.1.2.1 hd hv (k l D cA ad A p e R s m args below meth c cells slots Q C fin H locs ls hP hS hl)
theorem ng_ldc {i : Nat} {v : Int32} (hd : decode y.2.1 pc = .ok (.ldc i, 2)) (hv : Jvm.Cond.constant y.1.cls i v ∈ ng_G) (k : ng_Go X y d (pc + 2) lv (.int v :: st) M F) : ng_Go X y d pc lv st M F := by
  intro l D cA ad A p e R s m args below meth c cells slots Q C fin H locs ls hP hS hl
  exact lv_ldc C.1.1 C.1.2.1 C.1.2.2.2.1 (C.1.2.2.2.2 _ hv) hd (k l D cA ad A p e R s m args below meth c cells slots Q C fin H locs ls hP hS hl)
theorem ng_ldc2 {i : Nat} {v : Int64} (hd : decode y.2.1 pc = .ok (.ldc2_w i, 3)) (hv : Jvm.Cond.constantLong y.1.cls i v ∈ ng_G) (k : ng_Go X y d (pc + 3) lv (.long v :: st) M F) : ng_Go X y d pc lv st M F := by
  intro l D cA ad A p e R s m args below meth c cells slots Q C fin H locs ls hP hS hl
  exact lv_ldc2 C.1.1 C.1.2.1 C.1.2.2.2.1 (C.1.2.2.2.2 _ hv) hd (k l D cA ad A p e R s m args below meth c cells slots Q C fin H locs ls hP hS hl)
theorem ng_null (hd : decode y.2.1 pc = .ok (.aconst_null, 1)) (k : ng_Go X y d (pc + 1) lv (.null :: st) M F) : ng_Go X y d pc lv st M F := by
  intro l D cA ad A p e R s m args below meth c cells slots Q C fin H locs ls hP hS hl
  exact lv_null C.1.1 C.1.2.1 hd (k l D cA ad A p e R s m args below meth c cells slots Q C fin H locs ls hP hS hl)
theorem ng_iload_0 {v : Int32} {t : ng_L} (hd : decode y.2.1 pc = .ok (.iload_n 0, 1)) (k : ng_Go X y d (pc + 1) (some (.int v) :: t) (.int v :: st) M F) : ng_Go X y d pc (some (.int v) :: t) st M F := by
  intro l D cA ad A p e R s m args below meth c cells slots Q C fin H locs ls hP hS hl
  exact lv_iload_n C.1.1 C.1.2.1 hd rfl (hl.2.2.2 0 _ rfl) (k l D cA ad A p e R s m args below meth c cells slots Q C fin H locs ls hP hS hl)
theorem ng_aload_0 {v : Nat} {t : ng_L} (hd : decode y.2.1 pc = .ok (.aload_n 0, 1)) (k : ng_Go X y d (pc + 1) (some (.ref v) :: t) (.ref v :: st) M F) : ng_Go X y d pc (some (.ref v) :: t) st M F := by
  intro l D cA ad A p e R s m args below meth c cells slots Q C fin H locs ls hP hS hl
  exact lv_aload_n C.1.1 C.1.2.1 hd rfl (hl.2.2.2 0 _ rfl) (k l D cA ad A p e R s m args below meth c cells slots Q C fin H locs ls hP hS hl)
theorem ng_lload_0 {v : Int64} {t : ng_L} (hd : decode y.2.1 pc = .ok (.lload_n 0, 1)) (k : ng_Go X y d (pc + 1) (some (.long v) :: t) (.long v :: st) M F) : ng_Go X y d pc (some (.long v) :: t) st M F := by
  intro l D cA ad A p e R s m args below meth c cells slots Q C fin H locs ls hP hS hl
  exact lv_lload_n C.1.1 C.1.2.1 hd rfl (hl.2.2.2 0 _ rfl) (k l D cA ad A p e R s m args below meth c cells slots Q C fin H locs ls hP hS hl)
theorem ng_iload_1 {x0 : Option Value} {v : Int32} {t : ng_L} (hd : decode y.2.1 pc = .ok (.iload_n 1, 1)) (k : ng_Go X y d (pc + 1) (x0 :: some (.int v) :: t) (.int v :: st) M F) : ng_Go X y d pc (x0 :: some (.int v) :: t) st M F := by
  intro l D cA ad A p e R s m args below meth c cells slots Q C fin H locs ls hP hS hl
  exact lv_iload_n C.1.1 C.1.2.1 hd rfl (hl.2.2.2 1 _ rfl) (k l D cA ad A p e R s m args below meth c cells slots Q C fin H locs ls hP hS hl)
theorem ng_istore_1 {x0 x1 : Option Value} {v : Int32} {t : ng_L} (hd : decode y.2.1 pc = .ok (.istore_n 1, 1)) (hp : ng_nl x0 = true) (k : ng_Go X y d (pc + 1) (x0 :: some (.int v) :: t) st M F) : ng_Go X y d pc (x0 :: x1 :: t) (.int v :: st) M F := by
  intro l D cA ad A p e R s m args below meth c cells slots Q C fin H locs ls hP hS hl
  refine lv_istore_n C.1.1 C.1.2.1 hd rfl hl.has (by rw [← hl.1]; simp only [List.length_cons]; omega) rfl (fun ls' h' => ?_)
  exact k l D cA ad A p e R s m args below meth c cells slots Q C fin H locs ls' hP hS (ng_lh.store (v := .int v) hl (fun j u hj hu => by
    have e : j = 0 := by omega
    subst e
    simp at hu
    subst hu
    simpa [ng_nl] using hp) h')
theorem ng_aload_1 {x0 : Option Value} {v : Nat} {t : ng_L} (hd : decode y.2.1 pc = .ok (.aload_n 1, 1)) (k : ng_Go X y d (pc + 1) (x0 :: some (.ref v) :: t) (.ref v :: st) M F) : ng_Go X y d pc (x0 :: some (.ref v) :: t) st M F := by
  intro l D cA ad A p e R s m args below meth c cells slots Q C fin H locs ls hP hS hl
  exact lv_aload_n C.1.1 C.1.2.1 hd rfl (hl.2.2.2 1 _ rfl) (k l D cA ad A p e R s m args below meth c cells slots Q C fin H locs ls hP hS hl)
theorem ng_astore_1 {x0 x1 : Option Value} {v : Nat} {t : ng_L} (hd : decode y.2.1 pc = .ok (.astore_n 1, 1)) (hp : ng_nl x0 = true) (k : ng_Go X y d (pc + 1) (x0 :: some (.ref v) :: t) st M F) : ng_Go X y d pc (x0 :: x1 :: t) (.ref v :: st) M F := by
  intro l D cA ad A p e R s m args below meth c cells slots Q C fin H locs ls hP hS hl
  refine lv_astore_n C.1.1 C.1.2.1 hd rfl hl.has (by rw [← hl.1]; simp only [List.length_cons]; omega) rfl (fun ls' h' => ?_)
  exact k l D cA ad A p e R s m args below meth c cells slots Q C fin H locs ls' hP hS (ng_lh.store (v := .ref v) hl (fun j u hj hu => by
    have e : j = 0 := by omega
    subst e
    simp at hu
    subst hu
    simpa [ng_nl] using hp) h')
theorem ng_lload_1 {x0 : Option Value} {v : Int64} {t : ng_L} (hd : decode y.2.1 pc = .ok (.lload_n 1, 1)) (k : ng_Go X y d (pc + 1) (x0 :: some (.long v) :: t) (.long v :: st) M F) : ng_Go X y d pc (x0 :: some (.long v) :: t) st M F := by
  intro l D cA ad A p e R s m args below meth c cells slots Q C fin H locs ls hP hS hl
  exact lv_lload_n C.1.1 C.1.2.1 hd rfl (hl.2.2.2 1 _ rfl) (k l D cA ad A p e R s m args below meth c cells slots Q C fin H locs ls hP hS hl)
theorem ng_lstore_1 {x0 x1 x2 : Option Value} {v : Int64} {t : ng_L} (hd : decode y.2.1 pc = .ok (.lstore_n 1, 1)) (hp : ng_nl x0 = true) (k : ng_Go X y d (pc + 1) (x0 :: some (.long v) :: none :: t) st M F) : ng_Go X y d pc (x0 :: x1 :: x2 :: t) (.long v :: st) M F := by
  intro l D cA ad A p e R s m args below meth c cells slots Q C fin H locs ls hP hS hl
  have hn : 1 + 1 < y.2.2.1 := by rw [← hl.1]; simp only [List.length_cons]; omega
  refine lv_lstore_n C.1.1 C.1.2.1 hd rfl hl.has hn rfl (fun ls' h' => ?_)
  exact k l D cA ad A p e R s m args below meth c cells slots Q C fin H locs ls' hP hS (ng_lh.store2 (v := .long v) hl hn (fun j u hj hu => by
    have e : j = 0 := by omega
    subst e
    simp at hu
    subst hu
    simpa [ng_nl] using hp) h')
theorem ng_iinc_1 {x0 : Option Value} {v w : Int32} {n : Int} {t : ng_L} (hd : decode y.2.1 pc = .ok (.iinc 1 n, 3)) (hv : Int32.ofInt n = w) (hp : ng_nl x0 = true) (k : ng_Go X y d (pc + 3) (x0 :: some (.int (v + w)) :: t) st M F) : ng_Go X y d pc (x0 :: some (.int v) :: t) st M F := by
  intro l D cA ad A p e R s m args below meth c cells slots Q C fin H locs ls hP hS hl
  obtain ⟨q, hq⟩ := List.getElem?_of_mem (ng_al_mem (ad := ad) (lv := x0 :: some (.int v) :: t) (i := 1) (v := .int v) rfl)
  refine lv_iinc (v := v + w) C.1.1 C.1.2.1 hd hl.has (k := q) hq (by rw [hv]) (by rw [← hl.1]; simp only [List.length_cons]; omega) rfl (fun ls' h' => ?_)
  exact k l D cA ad A p e R s m args below meth c cells slots Q C fin H locs ls' hP hS (ng_lh.store (v := .int (v + w)) hl (fun j u hj hu => by
    have e : j = 0 := by omega
    subst e
    simp at hu
    subst hu
    simpa [ng_nl] using hp) h')
theorem ng_iload_2 {x0 x1 : Option Value} {v : Int32} {t : ng_L} (hd : decode y.2.1 pc = .ok (.iload_n 2, 1)) (k : ng_Go X y d (pc + 1) (x0 :: x1 :: some (.int v) :: t) (.int v :: st) M F) : ng_Go X y d pc (x0 :: x1 :: some (.int v) :: t) st M F := by
  intro l D cA ad A p e R s m args below meth c cells slots Q C fin H locs ls hP hS hl
  exact lv_iload_n C.1.1 C.1.2.1 hd rfl (hl.2.2.2 2 _ rfl) (k l D cA ad A p e R s m args below meth c cells slots Q C fin H locs ls hP hS hl)
theorem ng_istore_2 {x0 x1 x2 : Option Value} {v : Int32} {t : ng_L} (hd : decode y.2.1 pc = .ok (.istore_n 2, 1)) (hp : ng_nl x1 = true) (k : ng_Go X y d (pc + 1) (x0 :: x1 :: some (.int v) :: t) st M F) : ng_Go X y d pc (x0 :: x1 :: x2 :: t) (.int v :: st) M F := by
  intro l D cA ad A p e R s m args below meth c cells slots Q C fin H locs ls hP hS hl
  refine lv_istore_n C.1.1 C.1.2.1 hd rfl hl.has (by rw [← hl.1]; simp only [List.length_cons]; omega) rfl (fun ls' h' => ?_)
  exact k l D cA ad A p e R s m args below meth c cells slots Q C fin H locs ls' hP hS (ng_lh.store (v := .int v) hl (fun j u hj hu => by
    have e : j = 1 := by omega
    subst e
    simp at hu
    subst hu
    simpa [ng_nl] using hp) h')
theorem ng_aload_2 {x0 x1 : Option Value} {v : Nat} {t : ng_L} (hd : decode y.2.1 pc = .ok (.aload_n 2, 1)) (k : ng_Go X y d (pc + 1) (x0 :: x1 :: some (.ref v) :: t) (.ref v :: st) M F) : ng_Go X y d pc (x0 :: x1 :: some (.ref v) :: t) st M F := by
  intro l D cA ad A p e R s m args below meth c cells slots Q C fin H locs ls hP hS hl
  exact lv_aload_n C.1.1 C.1.2.1 hd rfl (hl.2.2.2 2 _ rfl) (k l D cA ad A p e R s m args below meth c cells slots Q C fin H locs ls hP hS hl)
theorem ng_astore_2 {x0 x1 x2 : Option Value} {v : Nat} {t : ng_L} (hd : decode y.2.1 pc = .ok (.astore_n 2, 1)) (hp : ng_nl x1 = true) (k : ng_Go X y d (pc + 1) (x0 :: x1 :: some (.ref v) :: t) st M F) : ng_Go X y d pc (x0 :: x1 :: x2 :: t) (.ref v :: st) M F := by
  intro l D cA ad A p e R s m args below meth c cells slots Q C fin H locs ls hP hS hl
  refine lv_astore_n C.1.1 C.1.2.1 hd rfl hl.has (by rw [← hl.1]; simp only [List.length_cons]; omega) rfl (fun ls' h' => ?_)
  exact k l D cA ad A p e R s m args below meth c cells slots Q C fin H locs ls' hP hS (ng_lh.store (v := .ref v) hl (fun j u hj hu => by
    have e : j = 1 := by omega
    subst e
    simp at hu
    subst hu
    simpa [ng_nl] using hp) h')
theorem ng_lload_2 {x0 x1 : Option Value} {v : Int64} {t : ng_L} (hd : decode y.2.1 pc = .ok (.lload_n 2, 1)) (k : ng_Go X y d (pc + 1) (x0 :: x1 :: some (.long v) :: t) (.long v :: st) M F) : ng_Go X y d pc (x0 :: x1 :: some (.long v) :: t) st M F := by
  intro l D cA ad A p e R s m args below meth c cells slots Q C fin H locs ls hP hS hl
  exact lv_lload_n C.1.1 C.1.2.1 hd rfl (hl.2.2.2 2 _ rfl) (k l D cA ad A p e R s m args below meth c cells slots Q C fin H locs ls hP hS hl)
theorem ng_lstore_2 {x0 x1 x2 x3 : Option Value} {v : Int64} {t : ng_L} (hd : decode y.2.1 pc = .ok (.lstore_n 2, 1)) (hp : ng_nl x1 = true) (k : ng_Go X y d (pc + 1) (x0 :: x1 :: some (.long v) :: none :: t) st M F) : ng_Go X y d pc (x0 :: x1 :: x2 :: x3 :: t) (.long v :: st) M F := by
  intro l D cA ad A p e R s m args below meth c cells slots Q C fin H locs ls hP hS hl
  have hn : 2 + 1 < y.2.2.1 := by rw [← hl.1]; simp only [List.length_cons]; omega
  refine lv_lstore_n C.1.1 C.1.2.1 hd rfl hl.has hn rfl (fun ls' h' => ?_)
  exact k l D cA ad A p e R s m args below meth c cells slots Q C fin H locs ls' hP hS (ng_lh.store2 (v := .long v) hl hn (fun j u hj hu => by
    have e : j = 1 := by omega
    subst e
    simp at hu
    subst hu
    simpa [ng_nl] using hp) h')
theorem ng_iinc_2 {x0 x1 : Option Value} {v w : Int32} {n : Int} {t : ng_L} (hd : decode y.2.1 pc = .ok (.iinc 2 n, 3)) (hv : Int32.ofInt n = w) (hp : ng_nl x1 = true) (k : ng_Go X y d (pc + 3) (x0 :: x1 :: some (.int (v + w)) :: t) st M F) : ng_Go X y d pc (x0 :: x1 :: some (.int v) :: t) st M F := by
  intro l D cA ad A p e R s m args below meth c cells slots Q C fin H locs ls hP hS hl
  obtain ⟨q, hq⟩ := List.getElem?_of_mem (ng_al_mem (ad := ad) (lv := x0 :: x1 :: some (.int v) :: t) (i := 2) (v := .int v) rfl)
  refine lv_iinc (v := v + w) C.1.1 C.1.2.1 hd hl.has (k := q) hq (by rw [hv]) (by rw [← hl.1]; simp only [List.length_cons]; omega) rfl (fun ls' h' => ?_)
  exact k l D cA ad A p e R s m args below meth c cells slots Q C fin H locs ls' hP hS (ng_lh.store (v := .int (v + w)) hl (fun j u hj hu => by
    have e : j = 1 := by omega
    subst e
    simp at hu
    subst hu
    simpa [ng_nl] using hp) h')
theorem ng_iload_3 {x0 x1 x2 : Option Value} {v : Int32} {t : ng_L} (hd : decode y.2.1 pc = .ok (.iload_n 3, 1)) (k : ng_Go X y d (pc + 1) (x0 :: x1 :: x2 :: some (.int v) :: t) (.int v :: st) M F) : ng_Go X y d pc (x0 :: x1 :: x2 :: some (.int v) :: t) st M F := by
  intro l D cA ad A p e R s m args below meth c cells slots Q C fin H locs ls hP hS hl
  exact lv_iload_n C.1.1 C.1.2.1 hd rfl (hl.2.2.2 3 _ rfl) (k l D cA ad A p e R s m args below meth c cells slots Q C fin H locs ls hP hS hl)
theorem ng_istore_3 {x0 x1 x2 x3 : Option Value} {v : Int32} {t : ng_L} (hd : decode y.2.1 pc = .ok (.istore_n 3, 1)) (hp : ng_nl x2 = true) (k : ng_Go X y d (pc + 1) (x0 :: x1 :: x2 :: some (.int v) :: t) st M F) : ng_Go X y d pc (x0 :: x1 :: x2 :: x3 :: t) (.int v :: st) M F := by
  intro l D cA ad A p e R s m args below meth c cells slots Q C fin H locs ls hP hS hl
  refine lv_istore_n C.1.1 C.1.2.1 hd rfl hl.has (by rw [← hl.1]; simp only [List.length_cons]; omega) rfl (fun ls' h' => ?_)
  exact k l D cA ad A p e R s m args below meth c cells slots Q C fin H locs ls' hP hS (ng_lh.store (v := .int v) hl (fun j u hj hu => by
    have e : j = 2 := by omega
    subst e
    simp at hu
    subst hu
    simpa [ng_nl] using hp) h')
theorem ng_aload_3 {x0 x1 x2 : Option Value} {v : Nat} {t : ng_L} (hd : decode y.2.1 pc = .ok (.aload_n 3, 1)) (k : ng_Go X y d (pc + 1) (x0 :: x1 :: x2 :: some (.ref v) :: t) (.ref v :: st) M F) : ng_Go X y d pc (x0 :: x1 :: x2 :: some (.ref v) :: t) st M F := by
  intro l D cA ad A p e R s m args below meth c cells slots Q C fin H locs ls hP hS hl
  exact lv_aload_n C.1.1 C.1.2.1 hd rfl (hl.2.2.2 3 _ rfl) (k l D cA ad A p e R s m args below meth c cells slots Q C fin H locs ls hP hS hl)
theorem ng_astore_3 {x0 x1 x2 x3 : Option Value} {v : Nat} {t : ng_L} (hd : decode y.2.1 pc = .ok (.astore_n 3, 1)) (hp : ng_nl x2 = true) (k : ng_Go X y d (pc + 1) (x0 :: x1 :: x2 :: some (.ref v) :: t) st M F) : ng_Go X y d pc (x0 :: x1 :: x2 :: x3 :: t) (.ref v :: st) M F := by
  intro l D cA ad A p e R s m args below meth c cells slots Q C fin H locs ls hP hS hl
  refine lv_astore_n C.1.1 C.1.2.1 hd rfl hl.has (by rw [← hl.1]; simp only [List.length_cons]; omega) rfl (fun ls' h' => ?_)
  exact k l D cA ad A p e R s m args below meth c cells slots Q C fin H locs ls' hP hS (ng_lh.store (v := .ref v) hl (fun j u hj hu => by
    have e : j = 2 := by omega
    subst e
    simp at hu
    subst hu
    simpa [ng_nl] using hp) h')
theorem ng_lload_3 {x0 x1 x2 : Option Value} {v : Int64} {t : ng_L} (hd : decode y.2.1 pc = .ok (.lload_n 3, 1)) (k : ng_Go X y d (pc + 1) (x0 :: x1 :: x2 :: some (.long v) :: t) (.long v :: st) M F) : ng_Go X y d pc (x0 :: x1 :: x2 :: some (.long v) :: t) st M F := by
  intro l D cA ad A p e R s m args below meth c cells slots Q C fin H locs ls hP hS hl
  exact lv_lload_n C.1.1 C.1.2.1 hd rfl (hl.2.2.2 3 _ rfl) (k l D cA ad A p e R s m args below meth c cells slots Q C fin H locs ls hP hS hl)
theorem ng_lstore_3 {x0 x1 x2 x3 x4 : Option Value} {v : Int64} {t : ng_L} (hd : decode y.2.1 pc = .ok (.lstore_n 3, 1)) (hp : ng_nl x2 = true) (k : ng_Go X y d (pc + 1) (x0 :: x1 :: x2 :: some (.long v) :: none :: t) st M F) : ng_Go X y d pc (x0 :: x1 :: x2 :: x3 :: x4 :: t) (.long v :: st) M F := by
  intro l D cA ad A p e R s m args below meth c cells slots Q C fin H locs ls hP hS hl
  have hn : 3 + 1 < y.2.2.1 := by rw [← hl.1]; simp only [List.length_cons]; omega
  refine lv_lstore_n C.1.1 C.1.2.1 hd rfl hl.has hn rfl (fun ls' h' => ?_)
  exact k l D cA ad A p e R s m args below meth c cells slots Q C fin H locs ls' hP hS (ng_lh.store2 (v := .long v) hl hn (fun j u hj hu => by
    have e : j = 2 := by omega
    subst e
    simp at hu
    subst hu
    simpa [ng_nl] using hp) h')
theorem ng_iinc_3 {x0 x1 x2 : Option Value} {v w : Int32} {n : Int} {t : ng_L} (hd : decode y.2.1 pc = .ok (.iinc 3 n, 3)) (hv : Int32.ofInt n = w) (hp : ng_nl x2 = true) (k : ng_Go X y d (pc + 3) (x0 :: x1 :: x2 :: some (.int (v + w)) :: t) st M F) : ng_Go X y d pc (x0 :: x1 :: x2 :: some (.int v) :: t) st M F := by
  intro l D cA ad A p e R s m args below meth c cells slots Q C fin H locs ls hP hS hl
  obtain ⟨q, hq⟩ := List.getElem?_of_mem (ng_al_mem (ad := ad) (lv := x0 :: x1 :: x2 :: some (.int v) :: t) (i := 3) (v := .int v) rfl)
  refine lv_iinc (v := v + w) C.1.1 C.1.2.1 hd hl.has (k := q) hq (by rw [hv]) (by rw [← hl.1]; simp only [List.length_cons]; omega) rfl (fun ls' h' => ?_)
  exact k l D cA ad A p e R s m args below meth c cells slots Q C fin H locs ls' hP hS (ng_lh.store (v := .int (v + w)) hl (fun j u hj hu => by
    have e : j = 2 := by omega
    subst e
    simp at hu
    subst hu
    simpa [ng_nl] using hp) h')
theorem ng_iload_4 {x0 x1 x2 x3 : Option Value} {v : Int32} {t : ng_L} (hd : decode y.2.1 pc = .ok (.iload 4, 2)) (k : ng_Go X y d (pc + 2) (x0 :: x1 :: x2 :: x3 :: some (.int v) :: t) (.int v :: st) M F) : ng_Go X y d pc (x0 :: x1 :: x2 :: x3 :: some (.int v) :: t) st M F := by
  intro l D cA ad A p e R s m args below meth c cells slots Q C fin H locs ls hP hS hl
  exact lv_iload C.1.1 C.1.2.1 hd (hl.2.2.2 4 _ rfl) (k l D cA ad A p e R s m args below meth c cells slots Q C fin H locs ls hP hS hl)
theorem ng_istore_4 {x0 x1 x2 x3 x4 : Option Value} {v : Int32} {t : ng_L} (hd : decode y.2.1 pc = .ok (.istore 4, 2)) (hp : ng_nl x3 = true) (k : ng_Go X y d (pc + 2) (x0 :: x1 :: x2 :: x3 :: some (.int v) :: t) st M F) : ng_Go X y d pc (x0 :: x1 :: x2 :: x3 :: x4 :: t) (.int v :: st) M F := by
  intro l D cA ad A p e R s m args below meth c cells slots Q C fin H locs ls hP hS hl
  refine lv_istore C.1.1 C.1.2.1 hd hl.has (by rw [← hl.1]; simp only [List.length_cons]; omega) rfl (fun ls' h' => ?_)
  exact k l D cA ad A p e R s m args below meth c cells slots Q C fin H locs ls' hP hS (ng_lh.store (v := .int v) hl (fun j u hj hu => by
    have e : j = 3 := by omega
    subst e
    simp at hu
    subst hu
    simpa [ng_nl] using hp) h')
theorem ng_aload_4 {x0 x1 x2 x3 : Option Value} {v : Nat} {t : ng_L} (hd : decode y.2.1 pc = .ok (.aload 4, 2)) (k : ng_Go X y d (pc + 2) (x0 :: x1 :: x2 :: x3 :: some (.ref v) :: t) (.ref v :: st) M F) : ng_Go X y d pc (x0 :: x1 :: x2 :: x3 :: some (.ref v) :: t) st M F := by
  intro l D cA ad A p e R s m args below meth c cells slots Q C fin H locs ls hP hS hl
  exact lv_aload C.1.1 C.1.2.1 hd (hl.2.2.2 4 _ rfl) (k l D cA ad A p e R s m args below meth c cells slots Q C fin H locs ls hP hS hl)
theorem ng_astore_4 {x0 x1 x2 x3 x4 : Option Value} {v : Nat} {t : ng_L} (hd : decode y.2.1 pc = .ok (.astore 4, 2)) (hp : ng_nl x3 = true) (k : ng_Go X y d (pc + 2) (x0 :: x1 :: x2 :: x3 :: some (.ref v) :: t) st M F) : ng_Go X y d pc (x0 :: x1 :: x2 :: x3 :: x4 :: t) (.ref v :: st) M F := by
  intro l D cA ad A p e R s m args below meth c cells slots Q C fin H locs ls hP hS hl
  refine lv_astore C.1.1 C.1.2.1 hd hl.has (by rw [← hl.1]; simp only [List.length_cons]; omega) rfl (fun ls' h' => ?_)
  exact k l D cA ad A p e R s m args below meth c cells slots Q C fin H locs ls' hP hS (ng_lh.store (v := .ref v) hl (fun j u hj hu => by
    have e : j = 3 := by omega
    subst e
    simp at hu
    subst hu
    simpa [ng_nl] using hp) h')
theorem ng_lload_4 {x0 x1 x2 x3 : Option Value} {v : Int64} {t : ng_L} (hd : decode y.2.1 pc = .ok (.lload 4, 2)) (k : ng_Go X y d (pc + 2) (x0 :: x1 :: x2 :: x3 :: some (.long v) :: t) (.long v :: st) M F) : ng_Go X y d pc (x0 :: x1 :: x2 :: x3 :: some (.long v) :: t) st M F := by
  intro l D cA ad A p e R s m args below meth c cells slots Q C fin H locs ls hP hS hl
  exact lv_lload C.1.1 C.1.2.1 hd (hl.2.2.2 4 _ rfl) (k l D cA ad A p e R s m args below meth c cells slots Q C fin H locs ls hP hS hl)
theorem ng_lstore_4 {x0 x1 x2 x3 x4 x5 : Option Value} {v : Int64} {t : ng_L} (hd : decode y.2.1 pc = .ok (.lstore 4, 2)) (hp : ng_nl x3 = true) (k : ng_Go X y d (pc + 2) (x0 :: x1 :: x2 :: x3 :: some (.long v) :: none :: t) st M F) : ng_Go X y d pc (x0 :: x1 :: x2 :: x3 :: x4 :: x5 :: t) (.long v :: st) M F := by
  intro l D cA ad A p e R s m args below meth c cells slots Q C fin H locs ls hP hS hl
  have hn : 4 + 1 < y.2.2.1 := by rw [← hl.1]; simp only [List.length_cons]; omega
  refine lv_lstore C.1.1 C.1.2.1 hd hl.has hn rfl (fun ls' h' => ?_)
  exact k l D cA ad A p e R s m args below meth c cells slots Q C fin H locs ls' hP hS (ng_lh.store2 (v := .long v) hl hn (fun j u hj hu => by
    have e : j = 3 := by omega
    subst e
    simp at hu
    subst hu
    simpa [ng_nl] using hp) h')
theorem ng_iinc_4 {x0 x1 x2 x3 : Option Value} {v w : Int32} {n : Int} {t : ng_L} (hd : decode y.2.1 pc = .ok (.iinc 4 n, 3)) (hv : Int32.ofInt n = w) (hp : ng_nl x3 = true) (k : ng_Go X y d (pc + 3) (x0 :: x1 :: x2 :: x3 :: some (.int (v + w)) :: t) st M F) : ng_Go X y d pc (x0 :: x1 :: x2 :: x3 :: some (.int v) :: t) st M F := by
  intro l D cA ad A p e R s m args below meth c cells slots Q C fin H locs ls hP hS hl
  obtain ⟨q, hq⟩ := List.getElem?_of_mem (ng_al_mem (ad := ad) (lv := x0 :: x1 :: x2 :: x3 :: some (.int v) :: t) (i := 4) (v := .int v) rfl)
  refine lv_iinc (v := v + w) C.1.1 C.1.2.1 hd hl.has (k := q) hq (by rw [hv]) (by rw [← hl.1]; simp only [List.length_cons]; omega) rfl (fun ls' h' => ?_)
  exact k l D cA ad A p e R s m args below meth c cells slots Q C fin H locs ls' hP hS (ng_lh.store (v := .int (v + w)) hl (fun j u hj hu => by
    have e : j = 3 := by omega
    subst e
    simp at hu
    subst hu
    simpa [ng_nl] using hp) h')
theorem ng_iload_5 {x0 x1 x2 x3 x4 : Option Value} {v : Int32} {t : ng_L} (hd : decode y.2.1 pc = .ok (.iload 5, 2)) (k : ng_Go X y d (pc + 2) (x0 :: x1 :: x2 :: x3 :: x4 :: some (.int v) :: t) (.int v :: st) M F) : ng_Go X y d pc (x0 :: x1 :: x2 :: x3 :: x4 :: some (.int v) :: t) st M F := by
  intro l D cA ad A p e R s m args below meth c cells slots Q C fin H locs ls hP hS hl
  exact lv_iload C.1.1 C.1.2.1 hd (hl.2.2.2 5 _ rfl) (k l D cA ad A p e R s m args below meth c cells slots Q C fin H locs ls hP hS hl)
theorem ng_istore_5 {x0 x1 x2 x3 x4 x5 : Option Value} {v : Int32} {t : ng_L} (hd : decode y.2.1 pc = .ok (.istore 5, 2)) (hp : ng_nl x4 = true) (k : ng_Go X y d (pc + 2) (x0 :: x1 :: x2 :: x3 :: x4 :: some (.int v) :: t) st M F) : ng_Go X y d pc (x0 :: x1 :: x2 :: x3 :: x4 :: x5 :: t) (.int v :: st) M F := by
  intro l D cA ad A p e R s m args below meth c cells slots Q C fin H locs ls hP hS hl
  refine lv_istore C.1.1 C.1.2.1 hd hl.has (by rw [← hl.1]; simp only [List.length_cons]; omega) rfl (fun ls' h' => ?_)
  exact k l D cA ad A p e R s m args below meth c cells slots Q C fin H locs ls' hP hS (ng_lh.store (v := .int v) hl (fun j u hj hu => by
    have e : j = 4 := by omega
    subst e
    simp at hu
    subst hu
    simpa [ng_nl] using hp) h')
theorem ng_aload_5 {x0 x1 x2 x3 x4 : Option Value} {v : Nat} {t : ng_L} (hd : decode y.2.1 pc = .ok (.aload 5, 2)) (k : ng_Go X y d (pc + 2) (x0 :: x1 :: x2 :: x3 :: x4 :: some (.ref v) :: t) (.ref v :: st) M F) : ng_Go X y d pc (x0 :: x1 :: x2 :: x3 :: x4 :: some (.ref v) :: t) st M F := by
  intro l D cA ad A p e R s m args below meth c cells slots Q C fin H locs ls hP hS hl
  exact lv_aload C.1.1 C.1.2.1 hd (hl.2.2.2 5 _ rfl) (k l D cA ad A p e R s m args below meth c cells slots Q C fin H locs ls hP hS hl)
theorem ng_astore_5 {x0 x1 x2 x3 x4 x5 : Option Value} {v : Nat} {t : ng_L} (hd : decode y.2.1 pc = .ok (.astore 5, 2)) (hp : ng_nl x4 = true) (k : ng_Go X y d (pc + 2) (x0 :: x1 :: x2 :: x3 :: x4 :: some (.ref v) :: t) st M F) : ng_Go X y d pc (x0 :: x1 :: x2 :: x3 :: x4 :: x5 :: t) (.ref v :: st) M F := by
  intro l D cA ad A p e R s m args below meth c cells slots Q C fin H locs ls hP hS hl
  refine lv_astore C.1.1 C.1.2.1 hd hl.has (by rw [← hl.1]; simp only [List.length_cons]; omega) rfl (fun ls' h' => ?_)
  exact k l D cA ad A p e R s m args below meth c cells slots Q C fin H locs ls' hP hS (ng_lh.store (v := .ref v) hl (fun j u hj hu => by
    have e : j = 4 := by omega
    subst e
    simp at hu
    subst hu
    simpa [ng_nl] using hp) h')
theorem ng_lload_5 {x0 x1 x2 x3 x4 : Option Value} {v : Int64} {t : ng_L} (hd : decode y.2.1 pc = .ok (.lload 5, 2)) (k : ng_Go X y d (pc + 2) (x0 :: x1 :: x2 :: x3 :: x4 :: some (.long v) :: t) (.long v :: st) M F) : ng_Go X y d pc (x0 :: x1 :: x2 :: x3 :: x4 :: some (.long v) :: t) st M F := by
  intro l D cA ad A p e R s m args below meth c cells slots Q C fin H locs ls hP hS hl
  exact lv_lload C.1.1 C.1.2.1 hd (hl.2.2.2 5 _ rfl) (k l D cA ad A p e R s m args below meth c cells slots Q C fin H locs ls hP hS hl)
theorem ng_lstore_5 {x0 x1 x2 x3 x4 x5 x6 : Option Value} {v : Int64} {t : ng_L} (hd : decode y.2.1 pc = .ok (.lstore 5, 2)) (hp : ng_nl x4 = true) (k : ng_Go X y d (pc + 2) (x0 :: x1 :: x2 :: x3 :: x4 :: some (.long v) :: none :: t) st M F) : ng_Go X y d pc (x0 :: x1 :: x2 :: x3 :: x4 :: x5 :: x6 :: t) (.long v :: st) M F := by
  intro l D cA ad A p e R s m args below meth c cells slots Q C fin H locs ls hP hS hl
  have hn : 5 + 1 < y.2.2.1 := by rw [← hl.1]; simp only [List.length_cons]; omega
  refine lv_lstore C.1.1 C.1.2.1 hd hl.has hn rfl (fun ls' h' => ?_)
  exact k l D cA ad A p e R s m args below meth c cells slots Q C fin H locs ls' hP hS (ng_lh.store2 (v := .long v) hl hn (fun j u hj hu => by
    have e : j = 4 := by omega
    subst e
    simp at hu
    subst hu
    simpa [ng_nl] using hp) h')
theorem ng_iinc_5 {x0 x1 x2 x3 x4 : Option Value} {v w : Int32} {n : Int} {t : ng_L} (hd : decode y.2.1 pc = .ok (.iinc 5 n, 3)) (hv : Int32.ofInt n = w) (hp : ng_nl x4 = true) (k : ng_Go X y d (pc + 3) (x0 :: x1 :: x2 :: x3 :: x4 :: some (.int (v + w)) :: t) st M F) : ng_Go X y d pc (x0 :: x1 :: x2 :: x3 :: x4 :: some (.int v) :: t) st M F := by
  intro l D cA ad A p e R s m args below meth c cells slots Q C fin H locs ls hP hS hl
  obtain ⟨q, hq⟩ := List.getElem?_of_mem (ng_al_mem (ad := ad) (lv := x0 :: x1 :: x2 :: x3 :: x4 :: some (.int v) :: t) (i := 5) (v := .int v) rfl)
  refine lv_iinc (v := v + w) C.1.1 C.1.2.1 hd hl.has (k := q) hq (by rw [hv]) (by rw [← hl.1]; simp only [List.length_cons]; omega) rfl (fun ls' h' => ?_)
  exact k l D cA ad A p e R s m args below meth c cells slots Q C fin H locs ls' hP hS (ng_lh.store (v := .int (v + w)) hl (fun j u hj hu => by
    have e : j = 4 := by omega
    subst e
    simp at hu
    subst hu
    simpa [ng_nl] using hp) h')
theorem ng_iload_6 {x0 x1 x2 x3 x4 x5 : Option Value} {v : Int32} {t : ng_L} (hd : decode y.2.1 pc = .ok (.iload 6, 2)) (k : ng_Go X y d (pc + 2) (x0 :: x1 :: x2 :: x3 :: x4 :: x5 :: some (.int v) :: t) (.int v :: st) M F) : ng_Go X y d pc (x0 :: x1 :: x2 :: x3 :: x4 :: x5 :: some (.int v) :: t) st M F := by
  intro l D cA ad A p e R s m args below meth c cells slots Q C fin H locs ls hP hS hl
  exact lv_iload C.1.1 C.1.2.1 hd (hl.2.2.2 6 _ rfl) (k l D cA ad A p e R s m args below meth c cells slots Q C fin H locs ls hP hS hl)
theorem ng_istore_6 {x0 x1 x2 x3 x4 x5 x6 : Option Value} {v : Int32} {t : ng_L} (hd : decode y.2.1 pc = .ok (.istore 6, 2)) (hp : ng_nl x5 = true) (k : ng_Go X y d (pc + 2) (x0 :: x1 :: x2 :: x3 :: x4 :: x5 :: some (.int v) :: t) st M F) : ng_Go X y d pc (x0 :: x1 :: x2 :: x3 :: x4 :: x5 :: x6 :: t) (.int v :: st) M F := by
  intro l D cA ad A p e R s m args below meth c cells slots Q C fin H locs ls hP hS hl
  refine lv_istore C.1.1 C.1.2.1 hd hl.has (by rw [← hl.1]; simp only [List.length_cons]; omega) rfl (fun ls' h' => ?_)
  exact k l D cA ad A p e R s m args below meth c cells slots Q C fin H locs ls' hP hS (ng_lh.store (v := .int v) hl (fun j u hj hu => by
    have e : j = 5 := by omega
    subst e
    simp at hu
    subst hu
    simpa [ng_nl] using hp) h')
theorem ng_aload_6 {x0 x1 x2 x3 x4 x5 : Option Value} {v : Nat} {t : ng_L} (hd : decode y.2.1 pc = .ok (.aload 6, 2)) (k : ng_Go X y d (pc + 2) (x0 :: x1 :: x2 :: x3 :: x4 :: x5 :: some (.ref v) :: t) (.ref v :: st) M F) : ng_Go X y d pc (x0 :: x1 :: x2 :: x3 :: x4 :: x5 :: some (.ref v) :: t) st M F := by
  intro l D cA ad A p e R s m args below meth c cells slots Q C fin H locs ls hP hS hl
  exact lv_aload C.1.1 C.1.2.1 hd (hl.2.2.2 6 _ rfl) (k l D cA ad A p e R s m args below meth c cells slots Q C fin H locs ls hP hS hl)
theorem ng_astore_6 {x0 x1 x2 x3 x4 x5 x6 : Option Value} {v : Nat} {t : ng_L} (hd : decode y.2.1 pc = .ok (.astore 6, 2)) (hp : ng_nl x5 = true) (k : ng_Go X y d (pc + 2) (x0 :: x1 :: x2 :: x3 :: x4 :: x5 :: some (.ref v) :: t) st M F) : ng_Go X y d pc (x0 :: x1 :: x2 :: x3 :: x4 :: x5 :: x6 :: t) (.ref v :: st) M F := by
  intro l D cA ad A p e R s m args below meth c cells slots Q C fin H locs ls hP hS hl
  refine lv_astore C.1.1 C.1.2.1 hd hl.has (by rw [← hl.1]; simp only [List.length_cons]; omega) rfl (fun ls' h' => ?_)
  exact k l D cA ad A p e R s m args below meth c cells slots Q C fin H locs ls' hP hS (ng_lh.store (v := .ref v) hl (fun j u hj hu => by
    have e : j = 5 := by omega
    subst e
    simp at hu
    subst hu
    simpa [ng_nl] using hp) h')
theorem ng_lload_6 {x0 x1 x2 x3 x4 x5 : Option Value} {v : Int64} {t : ng_L} (hd : decode y.2.1 pc = .ok (.lload 6, 2)) (k : ng_Go X y d (pc + 2) (x0 :: x1 :: x2 :: x3 :: x4 :: x5 :: some (.long v) :: t) (.long v :: st) M F) : ng_Go X y d pc (x0 :: x1 :: x2 :: x3 :: x4 :: x5 :: some (.long v) :: t) st M F := by
  intro l D cA ad A p e R s m args below meth c cells slots Q C fin H locs ls hP hS hl
  exact lv_lload C.1.1 C.1.2.1 hd (hl.2.2.2 6 _ rfl) (k l D cA ad A p e R s m args below meth c cells slots Q C fin H locs ls hP hS hl)
theorem ng_lstore_6 {x0 x1 x2 x3 x4 x5 x6 x7 : Option Value} {v : Int64} {t : ng_L} (hd : decode y.2.1 pc = .ok (.lstore 6, 2)) (hp : ng_nl x5 = true) (k : ng_Go X y d (pc + 2) (x0 :: x1 :: x2 :: x3 :: x4 :: x5 :: some (.long v) :: none :: t) st M F) : ng_Go X y d pc (x0 :: x1 :: x2 :: x3 :: x4 :: x5 :: x6 :: x7 :: t) (.long v :: st) M F := by
  intro l D cA ad A p e R s m args below meth c cells slots Q C fin H locs ls hP hS hl
  have hn : 6 + 1 < y.2.2.1 := by rw [← hl.1]; simp only [List.length_cons]; omega
  refine lv_lstore C.1.1 C.1.2.1 hd hl.has hn rfl (fun ls' h' => ?_)
  exact k l D cA ad A p e R s m args below meth c cells slots Q C fin H locs ls' hP hS (ng_lh.store2 (v := .long v) hl hn (fun j u hj hu => by
    have e : j = 5 := by omega
    subst e
    simp at hu
    subst hu
    simpa [ng_nl] using hp) h')
theorem ng_iinc_6 {x0 x1 x2 x3 x4 x5 : Option Value} {v w : Int32} {n : Int} {t : ng_L} (hd : decode y.2.1 pc = .ok (.iinc 6 n, 3)) (hv : Int32.ofInt n = w) (hp : ng_nl x5 = true) (k : ng_Go X y d (pc + 3) (x0 :: x1 :: x2 :: x3 :: x4 :: x5 :: some (.int (v + w)) :: t) st M F) : ng_Go X y d pc (x0 :: x1 :: x2 :: x3 :: x4 :: x5 :: some (.int v) :: t) st M F := by
  intro l D cA ad A p e R s m args below meth c cells slots Q C fin H locs ls hP hS hl
  obtain ⟨q, hq⟩ := List.getElem?_of_mem (ng_al_mem (ad := ad) (lv := x0 :: x1 :: x2 :: x3 :: x4 :: x5 :: some (.int v) :: t) (i := 6) (v := .int v) rfl)
  refine lv_iinc (v := v + w) C.1.1 C.1.2.1 hd hl.has (k := q) hq (by rw [hv]) (by rw [← hl.1]; simp only [List.length_cons]; omega) rfl (fun ls' h' => ?_)
  exact k l D cA ad A p e R s m args below meth c cells slots Q C fin H locs ls' hP hS (ng_lh.store (v := .int (v + w)) hl (fun j u hj hu => by
    have e : j = 5 := by omega
    subst e
    simp at hu
    subst hu
    simpa [ng_nl] using hp) h')
theorem ng_iload_7 {x0 x1 x2 x3 x4 x5 x6 : Option Value} {v : Int32} {t : ng_L} (hd : decode y.2.1 pc = .ok (.iload 7, 2)) (k : ng_Go X y d (pc + 2) (x0 :: x1 :: x2 :: x3 :: x4 :: x5 :: x6 :: some (.int v) :: t) (.int v :: st) M F) : ng_Go X y d pc (x0 :: x1 :: x2 :: x3 :: x4 :: x5 :: x6 :: some (.int v) :: t) st M F := by
  intro l D cA ad A p e R s m args below meth c cells slots Q C fin H locs ls hP hS hl
  exact lv_iload C.1.1 C.1.2.1 hd (hl.2.2.2 7 _ rfl) (k l D cA ad A p e R s m args below meth c cells slots Q C fin H locs ls hP hS hl)
theorem ng_istore_7 {x0 x1 x2 x3 x4 x5 x6 x7 : Option Value} {v : Int32} {t : ng_L} (hd : decode y.2.1 pc = .ok (.istore 7, 2)) (hp : ng_nl x6 = true) (k : ng_Go X y d (pc + 2) (x0 :: x1 :: x2 :: x3 :: x4 :: x5 :: x6 :: some (.int v) :: t) st M F) : ng_Go X y d pc (x0 :: x1 :: x2 :: x3 :: x4 :: x5 :: x6 :: x7 :: t) (.int v :: st) M F := by
  intro l D cA ad A p e R s m args below meth c cells slots Q C fin H locs ls hP hS hl
  refine lv_istore C.1.1 C.1.2.1 hd hl.has (by rw [← hl.1]; simp only [List.length_cons]; omega) rfl (fun ls' h' => ?_)
  exact k l D cA ad A p e R s m args below meth c cells slots Q C fin H locs ls' hP hS (ng_lh.store (v := .int v) hl (fun j u hj hu => by
    have e : j = 6 := by omega
    subst e
    simp at hu
    subst hu
    simpa [ng_nl] using hp) h')
theorem ng_aload_7 {x0 x1 x2 x3 x4 x5 x6 : Option Value} {v : Nat} {t : ng_L} (hd : decode y.2.1 pc = .ok (.aload 7, 2)) (k : ng_Go X y d (pc + 2) (x0 :: x1 :: x2 :: x3 :: x4 :: x5 :: x6 :: some (.ref v) :: t) (.ref v :: st) M F) : ng_Go X y d pc (x0 :: x1 :: x2 :: x3 :: x4 :: x5 :: x6 :: some (.ref v) :: t) st M F := by
  intro l D cA ad A p e R s m args below meth c cells slots Q C fin H locs ls hP hS hl
  exact lv_aload C.1.1 C.1.2.1 hd (hl.2.2.2 7 _ rfl) (k l D cA ad A p e R s m args below meth c cells slots Q C fin H locs ls hP hS hl)
theorem ng_astore_7 {x0 x1 x2 x3 x4 x5 x6 x7 : Option Value} {v : Nat} {t : ng_L} (hd : decode y.2.1 pc = .ok (.astore 7, 2)) (hp : ng_nl x6 = true) (k : ng_Go X y d (pc + 2) (x0 :: x1 :: x2 :: x3 :: x4 :: x5 :: x6 :: some (.ref v) :: t) st M F) : ng_Go X y d pc (x0 :: x1 :: x2 :: x3 :: x4 :: x5 :: x6 :: x7 :: t) (.ref v :: st) M F := by
  intro l D cA ad A p e R s m args below meth c cells slots Q C fin H locs ls hP hS hl
  refine lv_astore C.1.1 C.1.2.1 hd hl.has (by rw [← hl.1]; simp only [List.length_cons]; omega) rfl (fun ls' h' => ?_)
  exact k l D cA ad A p e R s m args below meth c cells slots Q C fin H locs ls' hP hS (ng_lh.store (v := .ref v) hl (fun j u hj hu => by
    have e : j = 6 := by omega
    subst e
    simp at hu
    subst hu
    simpa [ng_nl] using hp) h')
theorem ng_lload_7 {x0 x1 x2 x3 x4 x5 x6 : Option Value} {v : Int64} {t : ng_L} (hd : decode y.2.1 pc = .ok (.lload 7, 2)) (k : ng_Go X y d (pc + 2) (x0 :: x1 :: x2 :: x3 :: x4 :: x5 :: x6 :: some (.long v) :: t) (.long v :: st) M F) : ng_Go X y d pc (x0 :: x1 :: x2 :: x3 :: x4 :: x5 :: x6 :: some (.long v) :: t) st M F := by
  intro l D cA ad A p e R s m args below meth c cells slots Q C fin H locs ls hP hS hl
  exact lv_lload C.1.1 C.1.2.1 hd (hl.2.2.2 7 _ rfl) (k l D cA ad A p e R s m args below meth c cells slots Q C fin H locs ls hP hS hl)
theorem ng_lstore_7 {x0 x1 x2 x3 x4 x5 x6 x7 x8 : Option Value} {v : Int64} {t : ng_L} (hd : decode y.2.1 pc = .ok (.lstore 7, 2)) (hp : ng_nl x6 = true) (k : ng_Go X y d (pc + 2) (x0 :: x1 :: x2 :: x3 :: x4 :: x5 :: x6 :: some (.long v) :: none :: t) st M F) : ng_Go X y d pc (x0 :: x1 :: x2 :: x3 :: x4 :: x5 :: x6 :: x7 :: x8 :: t) (.long v :: st) M F := by
  intro l D cA ad A p e R s m args below meth c cells slots Q C fin H locs ls hP hS hl
  have hn : 7 + 1 < y.2.2.1 := by rw [← hl.1]; simp only [List.length_cons]; omega
  refine lv_lstore C.1.1 C.1.2.1 hd hl.has hn rfl (fun ls' h' => ?_)
  exact k l D cA ad A p e R s m args below meth c cells slots Q C fin H locs ls' hP hS (ng_lh.store2 (v := .long v) hl hn (fun j u hj hu => by
    have e : j = 6 := by omega
    subst e
    simp at hu
    subst hu
    simpa [ng_nl] using hp) h')
theorem ng_iinc_7 {x0 x1 x2 x3 x4 x5 x6 : Option Value} {v w : Int32} {n : Int} {t : ng_L} (hd : decode y.2.1 pc = .ok (.iinc 7 n, 3)) (hv : Int32.ofInt n = w) (hp : ng_nl x6 = true) (k : ng_Go X y d (pc + 3) (x0 :: x1 :: x2 :: x3 :: x4 :: x5 :: x6 :: some (.int (v + w)) :: t) st M F) : ng_Go X y d pc (x0 :: x1 :: x2 :: x3 :: x4 :: x5 :: x6 :: some (.int v) :: t) st M F := by
  intro l D cA ad A p e R s m args below meth c cells slots Q C fin H locs ls hP hS hl
  obtain ⟨q, hq⟩ := List.getElem?_of_mem (ng_al_mem (ad := ad) (lv := x0 :: x1 :: x2 :: x3 :: x4 :: x5 :: x6 :: some (.int v) :: t) (i := 7) (v := .int v) rfl)
  refine lv_iinc (v := v + w) C.1.1 C.1.2.1 hd hl.has (k := q) hq (by rw [hv]) (by rw [← hl.1]; simp only [List.length_cons]; omega) rfl (fun ls' h' => ?_)
  exact k l D cA ad A p e R s m args below meth c cells slots Q C fin H locs ls' hP hS (ng_lh.store (v := .int (v + w)) hl (fun j u hj hu => by
    have e : j = 6 := by omega
    subst e
    simp at hu
    subst hu
    simpa [ng_nl] using hp) h')
theorem ng_iload_8 {x0 x1 x2 x3 x4 x5 x6 x7 : Option Value} {v : Int32} {t : ng_L} (hd : decode y.2.1 pc = .ok (.iload 8, 2)) (k : ng_Go X y d (pc + 2) (x0 :: x1 :: x2 :: x3 :: x4 :: x5 :: x6 :: x7 :: some (.int v) :: t) (.int v :: st) M F) : ng_Go X y d pc (x0 :: x1 :: x2 :: x3 :: x4 :: x5 :: x6 :: x7 :: some (.int v) :: t) st M F := by
  intro l D cA ad A p e R s m args below meth c cells slots Q C fin H locs ls hP hS hl
  exact lv_iload C.1.1 C.1.2.1 hd (hl.2.2.2 8 _ rfl) (k l D cA ad A p e R s m args below meth c cells slots Q C fin H locs ls hP hS hl)
theorem ng_istore_8 {x0 x1 x2 x3 x4 x5 x6 x7 x8 : Option Value} {v : Int32} {t : ng_L} (hd : decode y.2.1 pc = .ok (.istore 8, 2)) (hp : ng_nl x7 = true) (k : ng_Go X y d (pc + 2) (x0 :: x1 :: x2 :: x3 :: x4 :: x5 :: x6 :: x7 :: some (.int v) :: t) st M F) : ng_Go X y d pc (x0 :: x1 :: x2 :: x3 :: x4 :: x5 :: x6 :: x7 :: x8 :: t) (.int v :: st) M F := by
  intro l D cA ad A p e R s m args below meth c cells slots Q C fin H locs ls hP hS hl
  refine lv_istore C.1.1 C.1.2.1 hd hl.has (by rw [← hl.1]; simp only [List.length_cons]; omega) rfl (fun ls' h' => ?_)
  exact k l D cA ad A p e R s m args below meth c cells slots Q C fin H locs ls' hP hS (ng_lh.store (v := .int v) hl (fun j u hj hu => by
    have e : j = 7 := by omega
    subst e
    simp at hu
    subst hu
    simpa [ng_nl] using hp) h')
theorem ng_aload_8 {x0 x1 x2 x3 x4 x5 x6 x7 : Option Value} {v : Nat} {t : ng_L} (hd : decode y.2.1 pc = .ok (.aload 8, 2)) (k : ng_Go X y d (pc + 2) (x0 :: x1 :: x2 :: x3 :: x4 :: x5 :: x6 :: x7 :: some (.ref v) :: t) (.ref v :: st) M F) : ng_Go X y d pc (x0 :: x1 :: x2 :: x3 :: x4 :: x5 :: x6 :: x7 :: some (.ref v) :: t) st M F := by
  intro l D cA ad A p e R s m args below meth c cells slots Q C fin H locs ls hP hS hl
  exact lv_aload C.1.1 C.1.2.1 hd (hl.2.2.2 8 _ rfl) (k l D cA ad A p e R s m args below meth c cells slots Q C fin H locs ls hP hS hl)
theorem ng_astore_8 {x0 x1 x2 x3 x4 x5 x6 x7 x8 : Option Value} {v : Nat} {t : ng_L} (hd : decode y.2.1 pc = .ok (.astore 8, 2)) (hp : ng_nl x7 = true) (k : ng_Go X y d (pc + 2) (x0 :: x1 :: x2 :: x3 :: x4 :: x5 :: x6 :: x7 :: some (.ref v) :: t) st M F) : ng_Go X y d pc (x0 :: x1 :: x2 :: x3 :: x4 :: x5 :: x6 :: x7 :: x8 :: t) (.ref v :: st) M F := by
  intro l D cA ad A p e R s m args below meth c cells slots Q C fin H locs ls hP hS hl
  refine lv_astore C.1.1 C.1.2.1 hd hl.has (by rw [← hl.1]; simp only [List.length_cons]; omega) rfl (fun ls' h' => ?_)
  exact k l D cA ad A p e R s m args below meth c cells slots Q C fin H locs ls' hP hS (ng_lh.store (v := .ref v) hl (fun j u hj hu => by
    have e : j = 7 := by omega
    subst e
    simp at hu
    subst hu
    simpa [ng_nl] using hp) h')
theorem ng_lload_8 {x0 x1 x2 x3 x4 x5 x6 x7 : Option Value} {v : Int64} {t : ng_L} (hd : decode y.2.1 pc = .ok (.lload 8, 2)) (k : ng_Go X y d (pc + 2) (x0 :: x1 :: x2 :: x3 :: x4 :: x5 :: x6 :: x7 :: some (.long v) :: t) (.long v :: st) M F) : ng_Go X y d pc (x0 :: x1 :: x2 :: x3 :: x4 :: x5 :: x6 :: x7 :: some (.long v) :: t) st M F := by
  intro l D cA ad A p e R s m args below meth c cells slots Q C fin H locs ls hP hS hl
  exact lv_lload C.1.1 C.1.2.1 hd (hl.2.2.2 8 _ rfl) (k l D cA ad A p e R s m args below meth c cells slots Q C fin H locs ls hP hS hl)
theorem ng_lstore_8 {x0 x1 x2 x3 x4 x5 x6 x7 x8 x9 : Option Value} {v : Int64} {t : ng_L} (hd : decode y.2.1 pc = .ok (.lstore 8, 2)) (hp : ng_nl x7 = true) (k : ng_Go X y d (pc + 2) (x0 :: x1 :: x2 :: x3 :: x4 :: x5 :: x6 :: x7 :: some (.long v) :: none :: t) st M F) : ng_Go X y d pc (x0 :: x1 :: x2 :: x3 :: x4 :: x5 :: x6 :: x7 :: x8 :: x9 :: t) (.long v :: st) M F := by
  intro l D cA ad A p e R s m args below meth c cells slots Q C fin H locs ls hP hS hl
  have hn : 8 + 1 < y.2.2.1 := by rw [← hl.1]; simp only [List.length_cons]; omega
  refine lv_lstore C.1.1 C.1.2.1 hd hl.has hn rfl (fun ls' h' => ?_)
  exact k l D cA ad A p e R s m args below meth c cells slots Q C fin H locs ls' hP hS (ng_lh.store2 (v := .long v) hl hn (fun j u hj hu => by
    have e : j = 7 := by omega
    subst e
    simp at hu
    subst hu
    simpa [ng_nl] using hp) h')
theorem ng_iinc_8 {x0 x1 x2 x3 x4 x5 x6 x7 : Option Value} {v w : Int32} {n : Int} {t : ng_L} (hd : decode y.2.1 pc = .ok (.iinc 8 n, 3)) (hv : Int32.ofInt n = w) (hp : ng_nl x7 = true) (k : ng_Go X y d (pc + 3) (x0 :: x1 :: x2 :: x3 :: x4 :: x5 :: x6 :: x7 :: some (.int (v + w)) :: t) st M F) : ng_Go X y d pc (x0 :: x1 :: x2 :: x3 :: x4 :: x5 :: x6 :: x7 :: some (.int v) :: t) st M F := by
  intro l D cA ad A p e R s m args below meth c cells slots Q C fin H locs ls hP hS hl
  obtain ⟨q, hq⟩ := List.getElem?_of_mem (ng_al_mem (ad := ad) (lv := x0 :: x1 :: x2 :: x3 :: x4 :: x5 :: x6 :: x7 :: some (.int v) :: t) (i := 8) (v := .int v) rfl)
  refine lv_iinc (v := v + w) C.1.1 C.1.2.1 hd hl.has (k := q) hq (by rw [hv]) (by rw [← hl.1]; simp only [List.length_cons]; omega) rfl (fun ls' h' => ?_)
  exact k l D cA ad A p e R s m args below meth c cells slots Q C fin H locs ls' hP hS (ng_lh.store (v := .int (v + w)) hl (fun j u hj hu => by
    have e : j = 7 := by omega
    subst e
    simp at hu
    subst hu
    simpa [ng_nl] using hp) h')
theorem ng_iload_9 {x0 x1 x2 x3 x4 x5 x6 x7 x8 : Option Value} {v : Int32} {t : ng_L} (hd : decode y.2.1 pc = .ok (.iload 9, 2)) (k : ng_Go X y d (pc + 2) (x0 :: x1 :: x2 :: x3 :: x4 :: x5 :: x6 :: x7 :: x8 :: some (.int v) :: t) (.int v :: st) M F) : ng_Go X y d pc (x0 :: x1 :: x2 :: x3 :: x4 :: x5 :: x6 :: x7 :: x8 :: some (.int v) :: t) st M F := by
  intro l D cA ad A p e R s m args below meth c cells slots Q C fin H locs ls hP hS hl
  exact lv_iload C.1.1 C.1.2.1 hd (hl.2.2.2 9 _ rfl) (k l D cA ad A p e R s m args below meth c cells slots Q C fin H locs ls hP hS hl)
theorem ng_istore_9 {x0 x1 x2 x3 x4 x5 x6 x7 x8 x9 : Option Value} {v : Int32} {t : ng_L} (hd : decode y.2.1 pc = .ok (.istore 9, 2)) (hp : ng_nl x8 = true) (k : ng_Go X y d (pc + 2) (x0 :: x1 :: x2 :: x3 :: x4 :: x5 :: x6 :: x7 :: x8 :: some (.int v) :: t) st M F) : ng_Go X y d pc (x0 :: x1 :: x2 :: x3 :: x4 :: x5 :: x6 :: x7 :: x8 :: x9 :: t) (.int v :: st) M F := by
  intro l D cA ad A p e R s m args below meth c cells slots Q C fin H locs ls hP hS hl
  refine lv_istore C.1.1 C.1.2.1 hd hl.has (by rw [← hl.1]; simp only [List.length_cons]; omega) rfl (fun ls' h' => ?_)
  exact k l D cA ad A p e R s m args below meth c cells slots Q C fin H locs ls' hP hS (ng_lh.store (v := .int v) hl (fun j u hj hu => by
    have e : j = 8 := by omega
    subst e
    simp at hu
    subst hu
    simpa [ng_nl] using hp) h')
theorem ng_aload_9 {x0 x1 x2 x3 x4 x5 x6 x7 x8 : Option Value} {v : Nat} {t : ng_L} (hd : decode y.2.1 pc = .ok (.aload 9, 2)) (k : ng_Go X y d (pc + 2) (x0 :: x1 :: x2 :: x3 :: x4 :: x5 :: x6 :: x7 :: x8 :: some (.ref v) :: t) (.ref v :: st) M F) : ng_Go X y d pc (x0 :: x1 :: x2 :: x3 :: x4 :: x5 :: x6 :: x7 :: x8 :: some (.ref v) :: t) st M F := by
  intro l D cA ad A p e R s m args below meth c cells slots Q C fin H locs ls hP hS hl
  exact lv_aload C.1.1 C.1.2.1 hd (hl.2.2.2 9 _ rfl) (k l D cA ad A p e R s m args below meth c cells slots Q C fin H locs ls hP hS hl)
theorem ng_astore_9 {x0 x1 x2 x3 x4 x5 x6 x7 x8 x9 : Option Value} {v : Nat} {t : ng_L} (hd : decode y.2.1 pc = .ok (.astore 9, 2)) (hp : ng_nl x8 = true) (k : ng_Go X y d (pc + 2) (x0 :: x1 :: x2 :: x3 :: x4 :: x5 :: x6 :: x7 :: x8 :: some (.ref v) :: t) st M F) : ng_Go X y d pc (x0 :: x1 :: x2 :: x3 :: x4 :: x5 :: x6 :: x7 :: x8 :: x9 :: t) (.ref v :: st) M F := by
  intro l D cA ad A p e R s m args below meth c cells slots Q C fin H locs ls hP hS hl
  refine lv_astore C.1.1 C.1.2.1 hd hl.has (by rw [← hl.1]; simp only [List.length_cons]; omega) rfl (fun ls' h' => ?_)
  exact k l D cA ad A p e R s m args below meth c cells slots Q C fin H locs ls' hP hS (ng_lh.store (v := .ref v) hl (fun j u hj hu => by
    have e : j = 8 := by omega
    subst e
    simp at hu
    subst hu
    simpa [ng_nl] using hp) h')
theorem ng_lload_9 {x0 x1 x2 x3 x4 x5 x6 x7 x8 : Option Value} {v : Int64} {t : ng_L} (hd : decode y.2.1 pc = .ok (.lload 9, 2)) (k : ng_Go X y d (pc + 2) (x0 :: x1 :: x2 :: x3 :: x4 :: x5 :: x6 :: x7 :: x8 :: some (.long v) :: t) (.long v :: st) M F) : ng_Go X y d pc (x0 :: x1 :: x2 :: x3 :: x4 :: x5 :: x6 :: x7 :: x8 :: some (.long v) :: t) st M F := by
  intro l D cA ad A p e R s m args below meth c cells slots Q C fin H locs ls hP hS hl
  exact lv_lload C.1.1 C.1.2.1 hd (hl.2.2.2 9 _ rfl) (k l D cA ad A p e R s m args below meth c cells slots Q C fin H locs ls hP hS hl)
theorem ng_lstore_9 {x0 x1 x2 x3 x4 x5 x6 x7 x8 x9 x10 : Option Value} {v : Int64} {t : ng_L} (hd : decode y.2.1 pc = .ok (.lstore 9, 2)) (hp : ng_nl x8 = true) (k : ng_Go X y d (pc + 2) (x0 :: x1 :: x2 :: x3 :: x4 :: x5 :: x6 :: x7 :: x8 :: some (.long v) :: none :: t) st M F) : ng_Go X y d pc (x0 :: x1 :: x2 :: x3 :: x4 :: x5 :: x6 :: x7 :: x8 :: x9 :: x10 :: t) (.long v :: st) M F := by
  intro l D cA ad A p e R s m args below meth c cells slots Q C fin H locs ls hP hS hl
  have hn : 9 + 1 < y.2.2.1 := by rw [← hl.1]; simp only [List.length_cons]; omega
  refine lv_lstore C.1.1 C.1.2.1 hd hl.has hn rfl (fun ls' h' => ?_)
  exact k l D cA ad A p e R s m args below meth c cells slots Q C fin H locs ls' hP hS (ng_lh.store2 (v := .long v) hl hn (fun j u hj hu => by
    have e : j = 8 := by omega
    subst e
    simp at hu
    subst hu
    simpa [ng_nl] using hp) h')
theorem ng_iinc_9 {x0 x1 x2 x3 x4 x5 x6 x7 x8 : Option Value} {v w : Int32} {n : Int} {t : ng_L} (hd : decode y.2.1 pc = .ok (.iinc 9 n, 3)) (hv : Int32.ofInt n = w) (hp : ng_nl x8 = true) (k : ng_Go X y d (pc + 3) (x0 :: x1 :: x2 :: x3 :: x4 :: x5 :: x6 :: x7 :: x8 :: some (.int (v + w)) :: t) st M F) : ng_Go X y d pc (x0 :: x1 :: x2 :: x3 :: x4 :: x5 :: x6 :: x7 :: x8 :: some (.int v) :: t) st M F := by
  intro l D cA ad A p e R s m args below meth c cells slots Q C fin H locs ls hP hS hl
  obtain ⟨q, hq⟩ := List.getElem?_of_mem (ng_al_mem (ad := ad) (lv := x0 :: x1 :: x2 :: x3 :: x4 :: x5 :: x6 :: x7 :: x8 :: some (.int v) :: t) (i := 9) (v := .int v) rfl)
  refine lv_iinc (v := v + w) C.1.1 C.1.2.1 hd hl.has (k := q) hq (by rw [hv]) (by rw [← hl.1]; simp only [List.length_cons]; omega) rfl (fun ls' h' => ?_)
  exact k l D cA ad A p e R s m args below meth c cells slots Q C fin H locs ls' hP hS (ng_lh.store (v := .int (v + w)) hl (fun j u hj hu => by
    have e : j = 8 := by omega
    subst e
    simp at hu
    subst hu
    simpa [ng_nl] using hp) h')
theorem ng_iload_10 {x0 x1 x2 x3 x4 x5 x6 x7 x8 x9 : Option Value} {v : Int32} {t : ng_L} (hd : decode y.2.1 pc = .ok (.iload 10, 2)) (k : ng_Go X y d (pc + 2) (x0 :: x1 :: x2 :: x3 :: x4 :: x5 :: x6 :: x7 :: x8 :: x9 :: some (.int v) :: t) (.int v :: st) M F) : ng_Go X y d pc (x0 :: x1 :: x2 :: x3 :: x4 :: x5 :: x6 :: x7 :: x8 :: x9 :: some (.int v) :: t) st M F := by
  intro l D cA ad A p e R s m args below meth c cells slots Q C fin H locs ls hP hS hl
  exact lv_iload C.1.1 C.1.2.1 hd (hl.2.2.2 10 _ rfl) (k l D cA ad A p e R s m args below meth c cells slots Q C fin H locs ls hP hS hl)
theorem ng_istore_10 {x0 x1 x2 x3 x4 x5 x6 x7 x8 x9 x10 : Option Value} {v : Int32} {t : ng_L} (hd : decode y.2.1 pc = .ok (.istore 10, 2)) (hp : ng_nl x9 = true) (k : ng_Go X y d (pc + 2) (x0 :: x1 :: x2 :: x3 :: x4 :: x5 :: x6 :: x7 :: x8 :: x9 :: some (.int v) :: t) st M F) : ng_Go X y d pc (x0 :: x1 :: x2 :: x3 :: x4 :: x5 :: x6 :: x7 :: x8 :: x9 :: x10 :: t) (.int v :: st) M F := by
  intro l D cA ad A p e R s m args below meth c cells slots Q C fin H locs ls hP hS hl
  refine lv_istore C.1.1 C.1.2.1 hd hl.has (by rw [← hl.1]; simp only [List.length_cons]; omega) rfl (fun ls' h' => ?_)
  exact k l D cA ad A p e R s m args below meth c cells slots Q C fin H locs ls' hP hS (ng_lh.store (v := .int v) hl (fun j u hj hu => by
    have e : j = 9 := by omega
    subst e
    simp at hu
    subst hu
    simpa [ng_nl] using hp) h')
theorem ng_aload_10 {x0 x1 x2 x3 x4 x5 x6 x7 x8 x9 : Option Value} {v : Nat} {t : ng_L} (hd : decode y.2.1 pc = .ok (.aload 10, 2)) (k : ng_Go X y d (pc + 2) (x0 :: x1 :: x2 :: x3 :: x4 :: x5 :: x6 :: x7 :: x8 :: x9 :: some (.ref v) :: t) (.ref v :: st) M F) : ng_Go X y d pc (x0 :: x1 :: x2 :: x3 :: x4 :: x5 :: x6 :: x7 :: x8 :: x9 :: some (.ref v) :: t) st M F := by
  intro l D cA ad A p e R s m args below meth c cells slots Q C fin H locs ls hP hS hl
  exact lv_aload C.1.1 C.1.2.1 hd (hl.2.2.2 10 _ rfl) (k l D cA ad A p e R s m args below meth c cells slots Q C fin H locs ls hP hS hl)
theorem ng_astore_10 {x0 x1 x2 x3 x4 x5 x6 x7 x8 x9 x10 : Option Value} {v : Nat} {t : ng_L} (hd : decode y.2.1 pc = .ok (.astore 10, 2)) (hp : ng_nl x9 = true) (k : ng_Go X y d (pc + 2) (x0 :: x1 :: x2 :: x3 :: x4 :: x5 :: x6 :: x7 :: x8 :: x9 :: some (.ref v) :: t) st M F) : ng_Go X y d pc (x0 :: x1 :: x2 :: x3 :: x4 :: x5 :: x6 :: x7 :: x8 :: x9 :: x10 :: t) (.ref v :: st) M F := by
  intro l D cA ad A p e R s m args below meth c cells slots Q C fin H locs ls hP hS hl
  refine lv_astore C.1.1 C.1.2.1 hd hl.has (by rw [← hl.1]; simp only [List.length_cons]; omega) rfl (fun ls' h' => ?_)
  exact k l D cA ad A p e R s m args below meth c cells slots Q C fin H locs ls' hP hS (ng_lh.store (v := .ref v) hl (fun j u hj hu => by
    have e : j = 9 := by omega
    subst e
    simp at hu
    subst hu
    simpa [ng_nl] using hp) h')
theorem ng_lload_10 {x0 x1 x2 x3 x4 x5 x6 x7 x8 x9 : Option Value} {v : Int64} {t : ng_L} (hd : decode y.2.1 pc = .ok (.lload 10, 2)) (k : ng_Go X y d (pc + 2) (x0 :: x1 :: x2 :: x3 :: x4 :: x5 :: x6 :: x7 :: x8 :: x9 :: some (.long v) :: t) (.long v :: st) M F) : ng_Go X y d pc (x0 :: x1 :: x2 :: x3 :: x4 :: x5 :: x6 :: x7 :: x8 :: x9 :: some (.long v) :: t) st M F := by
  intro l D cA ad A p e R s m args below meth c cells slots Q C fin H locs ls hP hS hl
  exact lv_lload C.1.1 C.1.2.1 hd (hl.2.2.2 10 _ rfl) (k l D cA ad A p e R s m args below meth c cells slots Q C fin H locs ls hP hS hl)
theorem ng_lstore_10 {x0 x1 x2 x3 x4 x5 x6 x7 x8 x9 x10 x11 : Option Value} {v : Int64} {t : ng_L} (hd : decode y.2.1 pc = .ok (.lstore 10, 2)) (hp : ng_nl x9 = true) (k : ng_Go X y d (pc + 2) (x0 :: x1 :: x2 :: x3 :: x4 :: x5 :: x6 :: x7 :: x8 :: x9 :: some (.long v) :: none :: t) st M F) : ng_Go X y d pc (x0 :: x1 :: x2 :: x3 :: x4 :: x5 :: x6 :: x7 :: x8 :: x9 :: x10 :: x11 :: t) (.long v :: st) M F := by
  intro l D cA ad A p e R s m args below meth c cells slots Q C fin H locs ls hP hS hl
  have hn : 10 + 1 < y.2.2.1 := by rw [← hl.1]; simp only [List.length_cons]; omega
  refine lv_lstore C.1.1 C.1.2.1 hd hl.has hn rfl (fun ls' h' => ?_)
  exact k l D cA ad A p e R s m args below meth c cells slots Q C fin H locs ls' hP hS (ng_lh.store2 (v := .long v) hl hn (fun j u hj hu => by
    have e : j = 9 := by omega
    subst e
    simp at hu
    subst hu
    simpa [ng_nl] using hp) h')
theorem ng_iinc_10 {x0 x1 x2 x3 x4 x5 x6 x7 x8 x9 : Option Value} {v w : Int32} {n : Int} {t : ng_L} (hd : decode y.2.1 pc = .ok (.iinc 10 n, 3)) (hv : Int32.ofInt n = w) (hp : ng_nl x9 = true) (k : ng_Go X y d (pc + 3) (x0 :: x1 :: x2 :: x3 :: x4 :: x5 :: x6 :: x7 :: x8 :: x9 :: some (.int (v + w)) :: t) st M F) : ng_Go X y d pc (x0 :: x1 :: x2 :: x3 :: x4 :: x5 :: x6 :: x7 :: x8 :: x9 :: some (.int v) :: t) st M F := by
  intro l D cA ad A p e R s m args below meth c cells slots Q C fin H locs ls hP hS hl
  obtain ⟨q, hq⟩ := List.getElem?_of_mem (ng_al_mem (ad := ad) (lv := x0 :: x1 :: x2 :: x3 :: x4 :: x5 :: x6 :: x7 :: x8 :: x9 :: some (.int v) :: t) (i := 10) (v := .int v) rfl)
  refine lv_iinc (v := v + w) C.1.1 C.1.2.1 hd hl.has (k := q) hq (by rw [hv]) (by rw [← hl.1]; simp only [List.length_cons]; omega) rfl (fun ls' h' => ?_)
  exact k l D cA ad A p e R s m args below meth c cells slots Q C fin H locs ls' hP hS (ng_lh.store (v := .int (v + w)) hl (fun j u hj hu => by
    have e : j = 9 := by omega
    subst e
    simp at hu
    subst hu
    simpa [ng_nl] using hp) h')
theorem ng_iload_11 {x0 x1 x2 x3 x4 x5 x6 x7 x8 x9 x10 : Option Value} {v : Int32} {t : ng_L} (hd : decode y.2.1 pc = .ok (.iload 11, 2)) (k : ng_Go X y d (pc + 2) (x0 :: x1 :: x2 :: x3 :: x4 :: x5 :: x6 :: x7 :: x8 :: x9 :: x10 :: some (.int v) :: t) (.int v :: st) M F) : ng_Go X y d pc (x0 :: x1 :: x2 :: x3 :: x4 :: x5 :: x6 :: x7 :: x8 :: x9 :: x10 :: some (.int v) :: t) st M F := by
  intro l D cA ad A p e R s m args below meth c cells slots Q C fin H locs ls hP hS hl
  exact lv_iload C.1.1 C.1.2.1 hd (hl.2.2.2 11 _ rfl) (k l D cA ad A p e R s m args below meth c cells slots Q C fin H locs ls hP hS hl)
theorem ng_istore_11 {x0 x1 x2 x3 x4 x5 x6 x7 x8 x9 x10 x11 : Option Value} {v : Int32} {t : ng_L} (hd : decode y.2.1 pc = .ok (.istore 11, 2)) (hp : ng_nl x10 = true) (k : ng_Go X y d (pc + 2) (x0 :: x1 :: x2 :: x3 :: x4 :: x5 :: x6 :: x7 :: x8 :: x9 :: x10 :: some (.int v) :: t) st M F) : ng_Go X y d pc (x0 :: x1 :: x2 :: x3 :: x4 :: x5 :: x6 :: x7 :: x8 :: x9 :: x10 :: x11 :: t) (.int v :: st) M F := by
  intro l D cA ad A p e R s m args below meth c cells slots Q C fin H locs ls hP hS hl
  refine lv_istore C.1.1 C.1.2.1 hd hl.has (by rw [← hl.1]; simp only [List.length_cons]; omega) rfl (fun ls' h' => ?_)
  exact k l D cA ad A p e R s m args below meth c cells slots Q C fin H locs ls' hP hS (ng_lh.store (v := .int v) hl (fun j u hj hu => by
    have e : j = 10 := by omega
    subst e
    simp at hu
    subst hu
    simpa [ng_nl] using hp) h')
theorem ng_aload_11 {x0 x1 x2 x3 x4 x5 x6 x7 x8 x9 x10 : Option Value} {v : Nat} {t : ng_L} (hd : decode y.2.1 pc = .ok (.aload 11, 2)) (k : ng_Go X y d (pc + 2) (x0 :: x1 :: x2 :: x3 :: x4 :: x5 :: x6 :: x7 :: x8 :: x9 :: x10 :: some (.ref v) :: t) (.ref v :: st) M F) : ng_Go X y d pc (x0 :: x1 :: x2 :: x3 :: x4 :: x5 :: x6 :: x7 :: x8 :: x9 :: x10 :: some (.ref v) :: t) st M F := by
  intro l D cA ad A p e R s m args below meth c cells slots Q C fin H locs ls hP hS hl
  exact lv_aload C.1.1 C.1.2.1 hd (hl.2.2.2 11 _ rfl) (k l D cA ad A p e R s m args below meth c cells slots Q C fin H locs ls hP hS hl)
theorem ng_astore_11 {x0 x1 x2 x3 x4 x5 x6 x7 x8 x9 x10 x11 : Option Value} {v : Nat} {t : ng_L} (hd : decode y.2.1 pc = .ok (.astore 11, 2)) (hp : ng_nl x10 = true) (k : ng_Go X y d (pc + 2) (x0 :: x1 :: x2 :: x3 :: x4 :: x5 :: x6 :: x7 :: x8 :: x9 :: x10 :: some (.ref v) :: t) st M F) : ng_Go X y d pc (x0 :: x1 :: x2 :: x3 :: x4 :: x5 :: x6 :: x7 :: x8 :: x9 :: x10 :: x11 :: t) (.ref v :: st) M F := by
  intro l D cA ad A p e R s m args below meth c cells slots Q C fin H locs ls hP hS hl
  refine lv_astore C.1.1 C.1.2.1 hd hl.has (by rw [← hl.1]; simp only [List.length_cons]; omega) rfl (fun ls' h' => ?_)
  exact k l D cA ad A p e R s m args below meth c cells slots Q C fin H locs ls' hP hS (ng_lh.store (v := .ref v) hl (fun j u hj hu => by
    have e : j = 10 := by omega
    subst e
    simp at hu
    subst hu
    simpa [ng_nl] using hp) h')
theorem ng_lload_11 {x0 x1 x2 x3 x4 x5 x6 x7 x8 x9 x10 : Option Value} {v : Int64} {t : ng_L} (hd : decode y.2.1 pc = .ok (.lload 11, 2)) (k : ng_Go X y d (pc + 2) (x0 :: x1 :: x2 :: x3 :: x4 :: x5 :: x6 :: x7 :: x8 :: x9 :: x10 :: some (.long v) :: t) (.long v :: st) M F) : ng_Go X y d pc (x0 :: x1 :: x2 :: x3 :: x4 :: x5 :: x6 :: x7 :: x8 :: x9 :: x10 :: some (.long v) :: t) st M F := by
  intro l D cA ad A p e R s m args below meth c cells slots Q C fin H locs ls hP hS hl
  exact lv_lload C.1.1 C.1.2.1 hd (hl.2.2.2 11 _ rfl) (k l D cA ad A p e R s m args below meth c cells slots Q C fin H locs ls hP hS hl)
theorem ng_lstore_11 {x0 x1 x2 x3 x4 x5 x6 x7 x8 x9 x10 x11 x12 : Option Value} {v : Int64} {t : ng_L} (hd : decode y.2.1 pc = .ok (.lstore 11, 2)) (hp : ng_nl x10 = true) (k : ng_Go X y d (pc + 2) (x0 :: x1 :: x2 :: x3 :: x4 :: x5 :: x6 :: x7 :: x8 :: x9 :: x10 :: some (.long v) :: none :: t) st M F) : ng_Go X y d pc (x0 :: x1 :: x2 :: x3 :: x4 :: x5 :: x6 :: x7 :: x8 :: x9 :: x10 :: x11 :: x12 :: t) (.long v :: st) M F := by
  intro l D cA ad A p e R s m args below meth c cells slots Q C fin H locs ls hP hS hl
  have hn : 11 + 1 < y.2.2.1 := by rw [← hl.1]; simp only [List.length_cons]; omega
  refine lv_lstore C.1.1 C.1.2.1 hd hl.has hn rfl (fun ls' h' => ?_)
  exact k l D cA ad A p e R s m args below meth c cells slots Q C fin H locs ls' hP hS (ng_lh.store2 (v := .long v) hl hn (fun j u hj hu => by
    have e : j = 10 := by omega
    subst e
    simp at hu
    subst hu
    simpa [ng_nl] using hp) h')
theorem ng_iinc_11 {x0 x1 x2 x3 x4 x5 x6 x7 x8 x9 x10 : Option Value} {v w : Int32} {n : Int} {t : ng_L} (hd : decode y.2.1 pc = .ok (.iinc 11 n, 3)) (hv : Int32.ofInt n = w) (hp : ng_nl x10 = true) (k : ng_Go X y d (pc + 3) (x0 :: x1 :: x2 :: x3 :: x4 :: x5 :: x6 :: x7 :: x8 :: x9 :: x10 :: some (.int (v + w)) :: t) st M F) : ng_Go X y d pc (x0 :: x1 :: x2 :: x3 :: x4 :: x5 :: x6 :: x7 :: x8 :: x9 :: x10 :: some (.int v) :: t) st M F := by
  intro l D cA ad A p e R s m args below meth c cells slots Q C fin H locs ls hP hS hl
  obtain ⟨q, hq⟩ := List.getElem?_of_mem (ng_al_mem (ad := ad) (lv := x0 :: x1 :: x2 :: x3 :: x4 :: x5 :: x6 :: x7 :: x8 :: x9 :: x10 :: some (.int v) :: t) (i := 11) (v := .int v) rfl)
  refine lv_iinc (v := v + w) C.1.1 C.1.2.1 hd hl.has (k := q) hq (by rw [hv]) (by rw [← hl.1]; simp only [List.length_cons]; omega) rfl (fun ls' h' => ?_)
  exact k l D cA ad A p e R s m args below meth c cells slots Q C fin H locs ls' hP hS (ng_lh.store (v := .int (v + w)) hl (fun j u hj hu => by
    have e : j = 10 := by omega
    subst e
    simp at hu
    subst hu
    simpa [ng_nl] using hp) h')
theorem ng_iload_12 {x0 x1 x2 x3 x4 x5 x6 x7 x8 x9 x10 x11 : Option Value} {v : Int32} {t : ng_L} (hd : decode y.2.1 pc = .ok (.iload 12, 2)) (k : ng_Go X y d (pc + 2) (x0 :: x1 :: x2 :: x3 :: x4 :: x5 :: x6 :: x7 :: x8 :: x9 :: x10 :: x11 :: some (.int v) :: t) (.int v :: st) M F) : ng_Go X y d pc (x0 :: x1 :: x2 :: x3 :: x4 :: x5 :: x6 :: x7 :: x8 :: x9 :: x10 :: x11 :: some (.int v) :: t) st M F := by
  intro l D cA ad A p e R s m args below meth c cells slots Q C fin H locs ls hP hS hl
  exact lv_iload C.1.1 C.1.2.1 hd (hl.2.2.2 12 _ rfl) (k l D cA ad A p e R s m args below meth c cells slots Q C fin H locs ls hP hS hl)
theorem ng_istore_12 {x0 x1 x2 x3 x4 x5 x6 x7 x8 x9 x10 x11 x12 : Option Value} {v : Int32} {t : ng_L} (hd : decode y.2.1 pc = .ok (.istore 12, 2)) (hp : ng_nl x11 = true) (k : ng_Go X y d (pc + 2) (x0 :: x1 :: x2 :: x3 :: x4 :: x5 :: x6 :: x7 :: x8 :: x9 :: x10 :: x11 :: some (.int v) :: t) st M F) : ng_Go X y d pc (x0 :: x1 :: x2 :: x3 :: x4 :: x5 :: x6 :: x7 :: x8 :: x9 :: x10 :: x11 :: x12 :: t) (.int v :: st) M F := by
  intro l D cA ad A p e R s m args below meth c cells slots Q C fin H locs ls hP hS hl
  refine lv_istore C.1.1 C.1.2.1 hd hl.has (by rw [← hl.1]; simp only [List.length_cons]; omega) rfl (fun ls' h' => ?_)
  exact k l D cA ad A p e R s m args below meth c cells slots Q C fin H locs ls' hP hS (ng_lh.store (v := .int v) hl (fun j u hj hu => by
    have e : j = 11 := by omega
    subst e
    simp at hu
    subst hu
    simpa [ng_nl] using hp) h')
theorem ng_aload_12 {x0 x1 x2 x3 x4 x5 x6 x7 x8 x9 x10 x11 : Option Value} {v : Nat} {t : ng_L} (hd : decode y.2.1 pc = .ok (.aload 12, 2)) (k : ng_Go X y d (pc + 2) (x0 :: x1 :: x2 :: x3 :: x4 :: x5 :: x6 :: x7 :: x8 :: x9 :: x10 :: x11 :: some (.ref v) :: t) (.ref v :: st) M F) : ng_Go X y d pc (x0 :: x1 :: x2 :: x3 :: x4 :: x5 :: x6 :: x7 :: x8 :: x9 :: x10 :: x11 :: some (.ref v) :: t) st M F := by
  intro l D cA ad A p e R s m args below meth c cells slots Q C fin H locs ls hP hS hl
  exact lv_aload C.1.1 C.1.2.1 hd (hl.2.2.2 12 _ rfl) (k l D cA ad A p e R s m args below meth c cells slots Q C fin H locs ls hP hS hl)
theorem ng_astore_12 {x0 x1 x2 x3 x4 x5 x6 x7 x8 x9 x10 x11 x12 : Option Value} {v : Nat} {t : ng_L} (hd : decode y.2.1 pc = .ok (.astore 12, 2)) (hp : ng_nl x11 = true) (k : ng_Go X y d (pc + 2) (x0 :: x1 :: x2 :: x3 :: x4 :: x5 :: x6 :: x7 :: x8 :: x9 :: x10 :: x11 :: some (.ref v) :: t) st M F) : ng_Go X y d pc (x0 :: x1 :: x2 :: x3 :: x4 :: x5 :: x6 :: x7 :: x8 :: x9 :: x10 :: x11 :: x12 :: t) (.ref v :: st) M F := by
  intro l D cA ad A p e R s m args below meth c cells slots Q C fin H locs ls hP hS hl
  refine lv_astore C.1.1 C.1.2.1 hd hl.has (by rw [← hl.1]; simp only [List.length_cons]; omega) rfl (fun ls' h' => ?_)
  exact k l D cA ad A p e R s m args below meth c cells slots Q C fin H locs ls' hP hS (ng_lh.store (v := .ref v) hl (fun j u hj hu => by
    have e : j = 11 := by omega
    subst e
    simp at hu
    subst hu
    simpa [ng_nl] using hp) h')
theorem ng_lload_12 {x0 x1 x2 x3 x4 x5 x6 x7 x8 x9 x10 x11 : Option Value} {v : Int64} {t : ng_L} (hd : decode y.2.1 pc = .ok (.lload 12, 2)) (k : ng_Go X y d (pc + 2) (x0 :: x1 :: x2 :: x3 :: x4 :: x5 :: x6 :: x7 :: x8 :: x9 :: x10 :: x11 :: some (.long v) :: t) (.long v :: st) M F) : ng_Go X y d pc (x0 :: x1 :: x2 :: x3 :: x4 :: x5 :: x6 :: x7 :: x8 :: x9 :: x10 :: x11 :: some (.long v) :: t) st M F := by
  intro l D cA ad A p e R s m args below meth c cells slots Q C fin H locs ls hP hS hl
  exact lv_lload C.1.1 C.1.2.1 hd (hl.2.2.2 12 _ rfl) (k l D cA ad A p e R s m args below meth c cells slots Q C fin H locs ls hP hS hl)
theorem ng_lstore_12 {x0 x1 x2 x3 x4 x5 x6 x7 x8 x9 x10 x11 x12 x13 : Option Value} {v : Int64} {t : ng_L} (hd : decode y.2.1 pc = .ok (.lstore 12, 2)) (hp : ng_nl x11 = true) (k : ng_Go X y d (pc + 2) (x0 :: x1 :: x2 :: x3 :: x4 :: x5 :: x6 :: x7 :: x8 :: x9 :: x10 :: x11 :: some (.long v) :: none :: t) st M F) : ng_Go X y d pc (x0 :: x1 :: x2 :: x3 :: x4 :: x5 :: x6 :: x7 :: x8 :: x9 :: x10 :: x11 :: x12 :: x13 :: t) (.long v :: st) M F := by
  intro l D cA ad A p e R s m args below meth c cells slots Q C fin H locs ls hP hS hl
  have hn : 12 + 1 < y.2.2.1 := by rw [← hl.1]; simp only [List.length_cons]; omega
  refine lv_lstore C.1.1 C.1.2.1 hd hl.has hn rfl (fun ls' h' => ?_)
  exact k l D cA ad A p e R s m args below meth c cells slots Q C fin H locs ls' hP hS (ng_lh.store2 (v := .long v) hl hn (fun j u hj hu => by
    have e : j = 11 := by omega
    subst e
    simp at hu
    subst hu
    simpa [ng_nl] using hp) h')
theorem ng_iinc_12 {x0 x1 x2 x3 x4 x5 x6 x7 x8 x9 x10 x11 : Option Value} {v w : Int32} {n : Int} {t : ng_L} (hd : decode y.2.1 pc = .ok (.iinc 12 n, 3)) (hv : Int32.ofInt n = w) (hp : ng_nl x11 = true) (k : ng_Go X y d (pc + 3) (x0 :: x1 :: x2 :: x3 :: x4 :: x5 :: x6 :: x7 :: x8 :: x9 :: x10 :: x11 :: some (.int (v + w)) :: t) st M F) : ng_Go X y d pc (x0 :: x1 :: x2 :: x3 :: x4 :: x5 :: x6 :: x7 :: x8 :: x9 :: x10 :: x11 :: some (.int v) :: t) st M F := by
  intro l D cA ad A p e R s m args below meth c cells slots Q C fin H locs ls hP hS hl
  obtain ⟨q, hq⟩ := List.getElem?_of_mem (ng_al_mem (ad := ad) (lv := x0 :: x1 :: x2 :: x3 :: x4 :: x5 :: x6 :: x7 :: x8 :: x9 :: x10 :: x11 :: some (.int v) :: t) (i := 12) (v := .int v) rfl)
  refine lv_iinc (v := v + w) C.1.1 C.1.2.1 hd hl.has (k := q) hq (by rw [hv]) (by rw [← hl.1]; simp only [List.length_cons]; omega) rfl (fun ls' h' => ?_)
  exact k l D cA ad A p e R s m args below meth c cells slots Q C fin H locs ls' hP hS (ng_lh.store (v := .int (v + w)) hl (fun j u hj hu => by
    have e : j = 11 := by omega
    subst e
    simp at hu
    subst hu
    simpa [ng_nl] using hp) h')
theorem ng_iadd {a b : Int32} (hd : decode y.2.1 pc = .ok (.iadd, 1)) (k : ng_Go X y d (pc + 1) lv (.int (a + b) :: st) M F) : ng_Go X y d pc lv (.int b :: .int a :: st) M F := by
  intro l D cA ad A p e R s m args below meth c cells slots Q C fin H locs ls hP hS hl
  exact lv_iadd C.1.1 C.1.2.1 hd (k l D cA ad A p e R s m args below meth c cells slots Q C fin H locs ls hP hS hl)
theorem ng_isub {a b : Int32} (hd : decode y.2.1 pc = .ok (.isub, 1)) (k : ng_Go X y d (pc + 1) lv (.int (a - b) :: st) M F) : ng_Go X y d pc lv (.int b :: .int a :: st) M F := by
  intro l D cA ad A p e R s m args below meth c cells slots Q C fin H locs ls hP hS hl
  exact lv_isub C.1.1 C.1.2.1 hd (k l D cA ad A p e R s m args below meth c cells slots Q C fin H locs ls hP hS hl)
theorem ng_imul {a b : Int32} (hd : decode y.2.1 pc = .ok (.imul, 1)) (k : ng_Go X y d (pc + 1) lv (.int (a * b) :: st) M F) : ng_Go X y d pc lv (.int b :: .int a :: st) M F := by
  intro l D cA ad A p e R s m args below meth c cells slots Q C fin H locs ls hP hS hl
  exact lv_imul C.1.1 C.1.2.1 hd (k l D cA ad A p e R s m args below meth c cells slots Q C fin H locs ls hP hS hl)
theorem ng_iand {a b : Int32} (hd : decode y.2.1 pc = .ok (.iand, 1)) (k : ng_Go X y d (pc + 1) lv (.int (a &&& b) :: st) M F) : ng_Go X y d pc lv (.int b :: .int a :: st) M F := by
  intro l D cA ad A p e R s m args below meth c cells slots Q C fin H locs ls hP hS hl
  exact lv_iand C.1.1 C.1.2.1 hd (k l D cA ad A p e R s m args below meth c cells slots Q C fin H locs ls hP hS hl)
theorem ng_ior {a b : Int32} (hd : decode y.2.1 pc = .ok (.ior, 1)) (k : ng_Go X y d (pc + 1) lv (.int (a ||| b) :: st) M F) : ng_Go X y d pc lv (.int b :: .int a :: st) M F := by
  intro l D cA ad A p e R s m args below meth c cells slots Q C fin H locs ls hP hS hl
  exact lv_ior C.1.1 C.1.2.1 hd (k l D cA ad A p e R s m args below meth c cells slots Q C fin H locs ls hP hS hl)
theorem ng_ixor {a b : Int32} (hd : decode y.2.1 pc = .ok (.ixor, 1)) (k : ng_Go X y d (pc + 1) lv (.int (a ^^^ b) :: st) M F) : ng_Go X y d pc lv (.int b :: .int a :: st) M F := by
  intro l D cA ad A p e R s m args below meth c cells slots Q C fin H locs ls hP hS hl
  exact lv_ixor C.1.1 C.1.2.1 hd (k l D cA ad A p e R s m args below meth c cells slots Q C fin H locs ls hP hS hl)
theorem ng_ishl {a b : Int32} (hd : decode y.2.1 pc = .ok (.ishl, 1)) (k : ng_Go X y d (pc + 1) lv (.int (a <<< (b &&& 31)) :: st) M F) : ng_Go X y d pc lv (.int b :: .int a :: st) M F := by
  intro l D cA ad A p e R s m args below meth c cells slots Q C fin H locs ls hP hS hl
  exact lv_ishl C.1.1 C.1.2.1 hd (k l D cA ad A p e R s m args below meth c cells slots Q C fin H locs ls hP hS hl)
theorem ng_ishr {a b : Int32} (hd : decode y.2.1 pc = .ok (.ishr, 1)) (k : ng_Go X y d (pc + 1) lv (.int (a >>> (b &&& 31)) :: st) M F) : ng_Go X y d pc lv (.int b :: .int a :: st) M F := by
  intro l D cA ad A p e R s m args below meth c cells slots Q C fin H locs ls hP hS hl
  exact lv_ishr C.1.1 C.1.2.1 hd (k l D cA ad A p e R s m args below meth c cells slots Q C fin H locs ls hP hS hl)
theorem ng_idiv {a b : Int32} (hd : decode y.2.1 pc = .ok (.idiv, 1)) (hne : ¬ b = 0) (k : ng_Go X y d (pc + 1) lv (.int (a / b) :: st) M F) : ng_Go X y d pc lv (.int b :: .int a :: st) M F := by
  intro l D cA ad A p e R s m args below meth c cells slots Q C fin H locs ls hP hS hl
  exact lv_idiv C.1.1 C.1.2.1 hd hne (k l D cA ad A p e R s m args below meth c cells slots Q C fin H locs ls hP hS hl)
theorem ng_irem {a b : Int32} (hd : decode y.2.1 pc = .ok (.irem, 1)) (hne : ¬ b = 0) (k : ng_Go X y d (pc + 1) lv (.int (a - a / b * b) :: st) M F) : ng_Go X y d pc lv (.int b :: .int a :: st) M F := by
  intro l D cA ad A p e R s m args below meth c cells slots Q C fin H locs ls hP hS hl
  exact lv_irem C.1.1 C.1.2.1 hd hne (k l D cA ad A p e R s m args below meth c cells slots Q C fin H locs ls hP hS hl)
theorem ng_ineg {a : Int32} (hd : decode y.2.1 pc = .ok (.ineg, 1)) (k : ng_Go X y d (pc + 1) lv (.int (-a) :: st) M F) : ng_Go X y d pc lv (.int a :: st) M F := by
  intro l D cA ad A p e R s m args below meth c cells slots Q C fin H locs ls hP hS hl
  exact lv_ineg C.1.1 C.1.2.1 hd (k l D cA ad A p e R s m args below meth c cells slots Q C fin H locs ls hP hS hl)
theorem ng_iushr {a b : Int32} (hd : decode y.2.1 pc = .ok (.iushr, 1)) (k : ng_Go X y d (pc + 1) lv (.int ((a.toUInt32 >>> (b.toUInt32 &&& Int32.toUInt32 31)).toInt32) :: st) M F) : ng_Go X y d pc lv (.int b :: .int a :: st) M F := by
  intro l D cA ad A p e R s m args below meth c cells slots Q C fin H locs ls hP hS hl
  exact lv_iushr C.1.1 C.1.2.1 hd rfl (k l D cA ad A p e R s m args below meth c cells slots Q C fin H locs ls hP hS hl)
theorem ng_ladd {a b : Int64} (hd : decode y.2.1 pc = .ok (.ladd, 1)) (k : ng_Go X y d (pc + 1) lv (.long (a + b) :: st) M F) : ng_Go X y d pc lv (.long b :: .long a :: st) M F := by
  intro l D cA ad A p e R s m args below meth c cells slots Q C fin H locs ls hP hS hl
  exact lv_ladd C.1.1 C.1.2.1 hd (k l D cA ad A p e R s m args below meth c cells slots Q C fin H locs ls hP hS hl)
theorem ng_lsub {a b : Int64} (hd : decode y.2.1 pc = .ok (.lsub, 1)) (k : ng_Go X y d (pc + 1) lv (.long (a - b) :: st) M F) : ng_Go X y d pc lv (.long b :: .long a :: st) M F := by
  intro l D cA ad A p e R s m args below meth c cells slots Q C fin H locs ls hP hS hl
  exact lv_lsub C.1.1 C.1.2.1 hd (k l D cA ad A p e R s m args below meth c cells slots Q C fin H locs ls hP hS hl)
theorem ng_lmul {a b : Int64} (hd : decode y.2.1 pc = .ok (.lmul, 1)) (k : ng_Go X y d (pc + 1) lv (.long (a * b) :: st) M F) : ng_Go X y d pc lv (.long b :: .long a :: st) M F := by
  intro l D cA ad A p e R s m args below meth c cells slots Q C fin H locs ls hP hS hl
  exact lv_lmul C.1.1 C.1.2.1 hd (k l D cA ad A p e R s m args below meth c cells slots Q C fin H locs ls hP hS hl)
theorem ng_land {a b : Int64} (hd : decode y.2.1 pc = .ok (.land, 1)) (k : ng_Go X y d (pc + 1) lv (.long (a &&& b) :: st) M F) : ng_Go X y d pc lv (.long b :: .long a :: st) M F := by
  intro l D cA ad A p e R s m args below meth c cells slots Q C fin H locs ls hP hS hl
  exact lv_land C.1.1 C.1.2.1 hd (k l D cA ad A p e R s m args below meth c cells slots Q C fin H locs ls hP hS hl)
theorem ng_lor {a b : Int64} (hd : decode y.2.1 pc = .ok (.lor, 1)) (k : ng_Go X y d (pc + 1) lv (.long (a ||| b) :: st) M F) : ng_Go X y d pc lv (.long b :: .long a :: st) M F := by
  intro l D cA ad A p e R s m args below meth c cells slots Q C fin H locs ls hP hS hl
  exact lv_lor C.1.1 C.1.2.1 hd (k l D cA ad A p e R s m args below meth c cells slots Q C fin H locs ls hP hS hl)
theorem ng_lushr {a : Int64} {b : Int32} (hd : decode y.2.1 pc = .ok (.lushr, 1)) (k : ng_Go X y d (pc + 1) lv (.long ((a.toUInt64 >>> (b.toInt64.toUInt64 &&& Int64.toUInt64 63)).toInt64) :: st) M F) : ng_Go X y d pc lv (.int b :: .long a :: st) M F := by
  intro l D cA ad A p e R s m args below meth c cells slots Q C fin H locs ls hP hS hl
  exact lv_lushr C.1.1 C.1.2.1 hd rfl (k l D cA ad A p e R s m args below meth c cells slots Q C fin H locs ls hP hS hl)
theorem ng_lshl {a : Int64} {b : Int32} (hd : decode y.2.1 pc = .ok (.lshl, 1)) (k : ng_Go X y d (pc + 1) lv (.long (a <<< (b.toInt64 &&& 63)) :: st) M F) : ng_Go X y d pc lv (.int b :: .long a :: st) M F := by
  intro l D cA ad A p e R s m args below meth c cells slots Q C fin H locs ls hP hS hl
  exact lv_lshl C.1.1 C.1.2.1 hd rfl (k l D cA ad A p e R s m args below meth c cells slots Q C fin H locs ls hP hS hl)
theorem ng_lshr {a : Int64} {b : Int32} (hd : decode y.2.1 pc = .ok (.lshr, 1)) (k : ng_Go X y d (pc + 1) lv (.long (a >>> (b.toInt64 &&& 63)) :: st) M F) : ng_Go X y d pc lv (.int b :: .long a :: st) M F := by
  intro l D cA ad A p e R s m args below meth c cells slots Q C fin H locs ls hP hS hl
  exact lv_lshr C.1.1 C.1.2.1 hd rfl (k l D cA ad A p e R s m args below meth c cells slots Q C fin H locs ls hP hS hl)
theorem ng_i2l {a : Int32} (hd : decode y.2.1 pc = .ok (.i2l, 1)) (k : ng_Go X y d (pc + 1) lv (.long (a.toInt64) :: st) M F) : ng_Go X y d pc lv (.int a :: st) M F := by
  intro l D cA ad A p e R s m args below meth c cells slots Q C fin H locs ls hP hS hl
  exact lv_i2l C.1.1 C.1.2.1 hd rfl (k l D cA ad A p e R s m args below meth c cells slots Q C fin H locs ls hP hS hl)
theorem ng_l2i {a : Int64} (hd : decode y.2.1 pc = .ok (.l2i, 1)) (k : ng_Go X y d (pc + 1) lv (.int (a.toInt32) :: st) M F) : ng_Go X y d pc lv (.long a :: st) M F := by
  intro l D cA ad A p e R s m args below meth c cells slots Q C fin H locs ls hP hS hl
  exact lv_l2i C.1.1 C.1.2.1 hd rfl (k l D cA ad A p e R s m args below meth c cells slots Q C fin H locs ls hP hS hl)
theorem ng_i2b {a : Int32} (hd : decode y.2.1 pc = .ok (.i2b, 1)) (k : ng_Go X y d (pc + 1) lv (.int (a.toInt8.toInt32) :: st) M F) : ng_Go X y d pc lv (.int a :: st) M F := by
  intro l D cA ad A p e R s m args below meth c cells slots Q C fin H locs ls hP hS hl
  exact lv_i2b C.1.1 C.1.2.1 hd rfl (k l D cA ad A p e R s m args below meth c cells slots Q C fin H locs ls hP hS hl)
theorem ng_i2s {a : Int32} (hd : decode y.2.1 pc = .ok (.i2s, 1)) (k : ng_Go X y d (pc + 1) lv (.int (a.toInt16.toInt32) :: st) M F) : ng_Go X y d pc lv (.int a :: st) M F := by
  intro l D cA ad A p e R s m args below meth c cells slots Q C fin H locs ls hP hS hl
  exact lv_i2s C.1.1 C.1.2.1 hd rfl (k l D cA ad A p e R s m args below meth c cells slots Q C fin H locs ls hP hS hl)
theorem ng_i2c {a : Int32} (hd : decode y.2.1 pc = .ok (.i2c, 1)) (k : ng_Go X y d (pc + 1) lv (.int ((a.toUInt32 % 65536).toInt32) :: st) M F) : ng_Go X y d pc lv (.int a :: st) M F := by
  intro l D cA ad A p e R s m args below meth c cells slots Q C fin H locs ls hP hS hl
  exact lv_i2c C.1.1 C.1.2.1 hd rfl (k l D cA ad A p e R s m args below meth c cells slots Q C fin H locs ls hP hS hl)
theorem ng_lcmp {a b : Int64} (hd : decode y.2.1 pc = .ok (.lcmp, 1)) (k : ng_Go X y d (pc + 1) lv (.int (lg_cmp a b) :: st) M F) : ng_Go X y d pc lv (.long b :: .long a :: st) M F := by
  intro l D cA ad A p e R s m args below meth c cells slots Q C fin H locs ls hP hS hl
  exact W.lcmp C.1.1 C.1.2.1 hd (k l D cA ad A p e R s m args below meth c cells slots Q C fin H locs ls hP hS hl)
theorem ng_dup {a : Value} (hd : decode y.2.1 pc = .ok (.dup, 1)) (ha : a.category = 1) (k : ng_Go X y d (pc + 1) lv (a :: a :: st) M F) : ng_Go X y d pc lv (a :: st) M F := by
  intro l D cA ad A p e R s m args below meth c cells slots Q C fin H locs ls hP hS hl
  exact lv_dup C.1.1 C.1.2.1 hd (by rw [ng_v_cat]; exact ha) (k l D cA ad A p e R s m args below meth c cells slots Q C fin H locs ls hP hS hl)
theorem ng_pop {a : Value} (hd : decode y.2.1 pc = .ok (.pop, 1)) (ha : a.category = 1) (k : ng_Go X y d (pc + 1) lv st M F) : ng_Go X y d pc lv (a :: st) M F := by
  intro l D cA ad A p e R s m args below meth c cells slots Q C fin H locs ls hP hS hl
  exact lv_pop C.1.1 C.1.2.1 hd (by rw [ng_v_cat]; exact ha) (k l D cA ad A p e R s m args below meth c cells slots Q C fin H locs ls hP hS hl)
theorem ng_dup2 {a b : Value} (hd : decode y.2.1 pc = .ok (.dup2, 1)) (ha : a.category = 1) (hb : b.category = 1) (k : ng_Go X y d (pc + 1) lv (a :: b :: a :: b :: st) M F) : ng_Go X y d pc lv (a :: b :: st) M F := by
  intro l D cA ad A p e R s m args below meth c cells slots Q C fin H locs ls hP hS hl
  exact lv_dup2_11 C.1.1 C.1.2.1 hd (by rw [ng_v_cat]; exact ha) (by rw [ng_v_cat]; exact hb) (k l D cA ad A p e R s m args below meth c cells slots Q C fin H locs ls hP hS hl)
theorem ng_if_eq {a : Int32} {off : Int} (tgt : Nat) (hd : decode y.2.1 pc = .ok (.ifCond .eq off, 3)) (ht : (pc : Int) + off = (tgt : Int)) (kt : a = 0 → ng_Go X y d tgt lv st M F) (kf : ¬ a = 0 → ng_Go X y d (pc + 3) lv st M F) : ng_Go X y d pc lv (.int a :: st) M F := by
  intro l D cA ad A p e R s m args below meth c cells slots Q C fin H locs ls hP hS hl
  exact lv_if_eq C.1.1 C.1.2.1 hd ht (fun h => (kt h l D cA ad A p e R s m args below meth c cells slots Q C fin H locs ls hP hS hl)) (fun h => (kf h l D cA ad A p e R s m args below meth c cells slots Q C fin H locs ls hP hS hl))
theorem ng_icmp_eq {a b : Int32} {off : Int} (tgt : Nat) (hd : decode y.2.1 pc = .ok (.if_icmp .eq off, 3)) (ht : (pc : Int) + off = (tgt : Int)) (kt : a = b → ng_Go X y d tgt lv st M F) (kf : ¬ a = b → ng_Go X y d (pc + 3) lv st M F) : ng_Go X y d pc lv (.int b :: .int a :: st) M F := by
  intro l D cA ad A p e R s m args below meth c cells slots Q C fin H locs ls hP hS hl
  exact lv_icmp_eq C.1.1 C.1.2.1 hd ht (fun h => (kt h l D cA ad A p e R s m args below meth c cells slots Q C fin H locs ls hP hS hl)) (fun h => (kf h l D cA ad A p e R s m args below meth c cells slots Q C fin H locs ls hP hS hl))
theorem ng_if_ne {a : Int32} {off : Int} (tgt : Nat) (hd : decode y.2.1 pc = .ok (.ifCond .ne off, 3)) (ht : (pc : Int) + off = (tgt : Int)) (kt : ¬ a = 0 → ng_Go X y d tgt lv st M F) (kf : a = 0 → ng_Go X y d (pc + 3) lv st M F) : ng_Go X y d pc lv (.int a :: st) M F := by
  intro l D cA ad A p e R s m args below meth c cells slots Q C fin H locs ls hP hS hl
  exact lv_if_ne C.1.1 C.1.2.1 hd ht (fun h => (kt h l D cA ad A p e R s m args below meth c cells slots Q C fin H locs ls hP hS hl)) (fun h => (kf h l D cA ad A p e R s m args below meth c cells slots Q C fin H locs ls hP hS hl))
theorem ng_icmp_ne {a b : Int32} {off : Int} (tgt : Nat) (hd : decode y.2.1 pc = .ok (.if_icmp .ne off, 3)) (ht : (pc : Int) + off = (tgt : Int)) (kt : ¬ a = b → ng_Go X y d tgt lv st M F) (kf : a = b → ng_Go X y d (pc + 3) lv st M F) : ng_Go X y d pc lv (.int b :: .int a :: st) M F := by
  intro l D cA ad A p e R s m args below meth c cells slots Q C fin H locs ls hP hS hl
  exact lv_icmp_ne C.1.1 C.1.2.1 hd ht (fun h => (kt h l D cA ad A p e R s m args below meth c cells slots Q C fin H locs ls hP hS hl)) (fun h => (kf h l D cA ad A p e R s m args below meth c cells slots Q C fin H locs ls hP hS hl))
theorem ng_if_lt {a : Int32} {off : Int} (tgt : Nat) (hd : decode y.2.1 pc = .ok (.ifCond .lt off, 3)) (ht : (pc : Int) + off = (tgt : Int)) (kt : a < 0 → ng_Go X y d tgt lv st M F) (kf : ¬ a < 0 → ng_Go X y d (pc + 3) lv st M F) : ng_Go X y d pc lv (.int a :: st) M F := by
  intro l D cA ad A p e R s m args below meth c cells slots Q C fin H locs ls hP hS hl
  exact lv_if_lt C.1.1 C.1.2.1 hd ht (fun h => (kt h l D cA ad A p e R s m args below meth c cells slots Q C fin H locs ls hP hS hl)) (fun h => (kf h l D cA ad A p e R s m args below meth c cells slots Q C fin H locs ls hP hS hl))
theorem ng_icmp_lt {a b : Int32} {off : Int} (tgt : Nat) (hd : decode y.2.1 pc = .ok (.if_icmp .lt off, 3)) (ht : (pc : Int) + off = (tgt : Int)) (kt : a < b → ng_Go X y d tgt lv st M F) (kf : ¬ a < b → ng_Go X y d (pc + 3) lv st M F) : ng_Go X y d pc lv (.int b :: .int a :: st) M F := by
  intro l D cA ad A p e R s m args below meth c cells slots Q C fin H locs ls hP hS hl
  exact lv_icmp_lt C.1.1 C.1.2.1 hd ht (fun h => (kt h l D cA ad A p e R s m args below meth c cells slots Q C fin H locs ls hP hS hl)) (fun h => (kf h l D cA ad A p e R s m args below meth c cells slots Q C fin H locs ls hP hS hl))
theorem ng_if_ge {a : Int32} {off : Int} (tgt : Nat) (hd : decode y.2.1 pc = .ok (.ifCond .ge off, 3)) (ht : (pc : Int) + off = (tgt : Int)) (kt : 0 ≤ a → ng_Go X y d tgt lv st M F) (kf : ¬ 0 ≤ a → ng_Go X y d (pc + 3) lv st M F) : ng_Go X y d pc lv (.int a :: st) M F := by
  intro l D cA ad A p e R s m args below meth c cells slots Q C fin H locs ls hP hS hl
  exact lv_if_ge C.1.1 C.1.2.1 hd ht (fun h => (kt h l D cA ad A p e R s m args below meth c cells slots Q C fin H locs ls hP hS hl)) (fun h => (kf h l D cA ad A p e R s m args below meth c cells slots Q C fin H locs ls hP hS hl))
theorem ng_icmp_ge {a b : Int32} {off : Int} (tgt : Nat) (hd : decode y.2.1 pc = .ok (.if_icmp .ge off, 3)) (ht : (pc : Int) + off = (tgt : Int)) (kt : b ≤ a → ng_Go X y d tgt lv st M F) (kf : ¬ b ≤ a → ng_Go X y d (pc + 3) lv st M F) : ng_Go X y d pc lv (.int b :: .int a :: st) M F := by
  intro l D cA ad A p e R s m args below meth c cells slots Q C fin H locs ls hP hS hl
  exact lv_icmp_ge C.1.1 C.1.2.1 hd ht (fun h => (kt h l D cA ad A p e R s m args below meth c cells slots Q C fin H locs ls hP hS hl)) (fun h => (kf h l D cA ad A p e R s m args below meth c cells slots Q C fin H locs ls hP hS hl))
theorem ng_if_gt {a : Int32} {off : Int} (tgt : Nat) (hd : decode y.2.1 pc = .ok (.ifCond .gt off, 3)) (ht : (pc : Int) + off = (tgt : Int)) (kt : 0 < a → ng_Go X y d tgt lv st M F) (kf : ¬ 0 < a → ng_Go X y d (pc + 3) lv st M F) : ng_Go X y d pc lv (.int a :: st) M F := by
  intro l D cA ad A p e R s m args below meth c cells slots Q C fin H locs ls hP hS hl
  exact lv_if_gt C.1.1 C.1.2.1 hd ht (fun h => (kt h l D cA ad A p e R s m args below meth c cells slots Q C fin H locs ls hP hS hl)) (fun h => (kf h l D cA ad A p e R s m args below meth c cells slots Q C fin H locs ls hP hS hl))
theorem ng_icmp_gt {a b : Int32} {off : Int} (tgt : Nat) (hd : decode y.2.1 pc = .ok (.if_icmp .gt off, 3)) (ht : (pc : Int) + off = (tgt : Int)) (kt : b < a → ng_Go X y d tgt lv st M F) (kf : ¬ b < a → ng_Go X y d (pc + 3) lv st M F) : ng_Go X y d pc lv (.int b :: .int a :: st) M F := by
  intro l D cA ad A p e R s m args below meth c cells slots Q C fin H locs ls hP hS hl
  exact lv_icmp_gt C.1.1 C.1.2.1 hd ht (fun h => (kt h l D cA ad A p e R s m args below meth c cells slots Q C fin H locs ls hP hS hl)) (fun h => (kf h l D cA ad A p e R s m args below meth c cells slots Q C fin H locs ls hP hS hl))
theorem ng_if_le {a : Int32} {off : Int} (tgt : Nat) (hd : decode y.2.1 pc = .ok (.ifCond .le off, 3)) (ht : (pc : Int) + off = (tgt : Int)) (kt : a ≤ 0 → ng_Go X y d tgt lv st M F) (kf : ¬ a ≤ 0 → ng_Go X y d (pc + 3) lv st M F) : ng_Go X y d pc lv (.int a :: st) M F := by
  intro l D cA ad A p e R s m args below meth c cells slots Q C fin H locs ls hP hS hl
  exact lv_if_le C.1.1 C.1.2.1 hd ht (fun h => (kt h l D cA ad A p e R s m args below meth c cells slots Q C fin H locs ls hP hS hl)) (fun h => (kf h l D cA ad A p e R s m args below meth c cells slots Q C fin H locs ls hP hS hl))
theorem ng_icmp_le {a b : Int32} {off : Int} (tgt : Nat) (hd : decode y.2.1 pc = .ok (.if_icmp .le off, 3)) (ht : (pc : Int) + off = (tgt : Int)) (kt : a ≤ b → ng_Go X y d tgt lv st M F) (kf : ¬ a ≤ b → ng_Go X y d (pc + 3) lv st M F) : ng_Go X y d pc lv (.int b :: .int a :: st) M F := by
  intro l D cA ad A p e R s m args below meth c cells slots Q C fin H locs ls hP hS hl
  exact lv_icmp_le C.1.1 C.1.2.1 hd ht (fun h => (kt h l D cA ad A p e R s m args below meth c cells slots Q C fin H locs ls hP hS hl)) (fun h => (kf h l D cA ad A p e R s m args below meth c cells slots Q C fin H locs ls hP hS hl))
theorem ng_goto {off : Int} (tgt : Nat) (hd : decode y.2.1 pc = .ok (.goto off, 3)) (ht : (pc : Int) + off = (tgt : Int)) (k : ng_Go X y d tgt lv st M F) : ng_Go X y d pc lv st M F := by
  intro l D cA ad A p e R s m args below meth c cells slots Q C fin H locs ls hP hS hl
  exact lv_goto C.1.1 C.1.2.1 hd ht (k l D cA ad A p e R s m args below meth c cells slots Q C fin H locs ls hP hS hl)
theorem ng_ifnonnull {off : Int} {a : Nat} (tgt : Nat) (hd : decode y.2.1 pc = .ok (.ifnonnull off, 3)) (ht : (pc : Int) + off = (tgt : Int)) (k : ng_Go X y d tgt lv st M F) : ng_Go X y d pc lv (.ref a :: st) M F := by
  intro l D cA ad A p e R s m args below meth c cells slots Q C fin H locs ls hP hS hl
  exact lv_ifnonnull C.1.1 C.1.2.1 hd ht (k l D cA ad A p e R s m args below meth c cells slots Q C fin H locs ls hP hS hl)
theorem ng_ifnull {off : Int} {a : Nat} (hd : decode y.2.1 pc = .ok (.ifnull off, 3)) (k : ng_Go X y d (pc + 3) lv st M F) : ng_Go X y d pc lv (.ref a :: st) M F := by
  intro l D cA ad A p e R s m args below meth c cells slots Q C fin H locs ls hP hS hl
  exact lv_ifnull C.1.1 C.1.2.1 hd (k l D cA ad A p e R s m args below meth c cells slots Q C fin H locs ls hP hS hl)
theorem ng_ifnullN {off : Int} (tgt : Nat) (hd : decode y.2.1 pc = .ok (.ifnull off, 3)) (ht : (pc : Int) + off = (tgt : Int)) (k : ng_Go X y d tgt lv st M F) : ng_Go X y d pc lv (.null :: st) M F := by
  intro l D cA ad A p e R s m args below meth c cells slots Q C fin H locs ls hP hS hl
  exact lv_ifnullN C.1.1 C.1.2.1 hd ht (k l D cA ad A p e R s m args below meth c cells slots Q C fin H locs ls hP hS hl)
theorem ng_ifnonnullN {off : Int} (hd : decode y.2.1 pc = .ok (.ifnonnull off, 3)) (k : ng_Go X y d (pc + 3) lv st M F) : ng_Go X y d pc lv (.null :: st) M F := by
  intro l D cA ad A p e R s m args below meth c cells slots Q C fin H locs ls hP hS hl
  exact lv_ifnonnullN C.1.1 C.1.2.1 hd (k l D cA ad A p e R s m args below meth c cells slots Q C fin H locs ls hP hS hl)
theorem ng_aloadN_0 {t : ng_L} (hd : decode y.2.1 pc = .ok (.aload_n 0, 1)) (k : ng_Go X y d (pc + 1) (some .null :: t) (.null :: st) M F) : ng_Go X y d pc (some .null :: t) st M F := by
  intro l D cA ad A p e R s m args below meth c cells slots Q C fin H locs ls hP hS hl
  exact lv_aload_nN C.1.1 C.1.2.1 hd rfl (hl.2.2.2 0 _ rfl) (k l D cA ad A p e R s m args below meth c cells slots Q C fin H locs ls hP hS hl)
theorem ng_aloadN_1 {x0 : Option Value} {t : ng_L} (hd : decode y.2.1 pc = .ok (.aload_n 1, 1)) (k : ng_Go X y d (pc + 1) (x0 :: some .null :: t) (.null :: st) M F) : ng_Go X y d pc (x0 :: some .null :: t) st M F := by
  intro l D cA ad A p e R s m args below meth c cells slots Q C fin H locs ls hP hS hl
  exact lv_aload_nN C.1.1 C.1.2.1 hd rfl (hl.2.2.2 1 _ rfl) (k l D cA ad A p e R s m args below meth c cells slots Q C fin H locs ls hP hS hl)
theorem ng_astoreN_1 {x0 x1 : Option Value} {t : ng_L} (hd : decode y.2.1 pc = .ok (.astore_n 1, 1)) (hp : ng_nl x0 = true) (k : ng_Go X y d (pc + 1) (x0 :: some .null :: t) st M F) : ng_Go X y d pc (x0 :: x1 :: t) (.null :: st) M F := by
  intro l D cA ad A p e R s m args below meth c cells slots Q C fin H locs ls hP hS hl
  refine lv_astore_nN C.1.1 C.1.2.1 hd rfl hl.has (by rw [← hl.1]; simp only [List.length_cons]; omega) rfl (fun ls' h' => ?_)
  exact k l D cA ad A p e R s m args below meth c cells slots Q C fin H locs ls' hP hS (ng_lh.store (v := .null) hl (fun j u hj hu => by
    have e : j = 0 := by omega
    subst e
    simp at hu
    subst hu
    simpa [ng_nl] using hp) h')
theorem ng_aloadN_2 {x0 x1 : Option Value} {t : ng_L} (hd : decode y.2.1 pc = .ok (.aload_n 2, 1)) (k : ng_Go X y d (pc + 1) (x0 :: x1 :: some .null :: t) (.null :: st) M F) : ng_Go X y d pc (x0 :: x1 :: some .null :: t) st M F := by
  intro l D cA ad A p e R s m args below meth c cells slots Q C fin H locs ls hP hS hl
  exact lv_aload_nN C.1.1 C.1.2.1 hd rfl (hl.2.2.2 2 _ rfl) (k l D cA ad A p e R s m args below meth c cells slots Q C fin H locs ls hP hS hl)
theorem ng_astoreN_2 {x0 x1 x2 : Option Value} {t : ng_L} (hd : decode y.2.1 pc = .ok (.astore_n 2, 1)) (hp : ng_nl x1 = true) (k : ng_Go X y d (pc + 1) (x0 :: x1 :: some .null :: t) st M F) : ng_Go X y d pc (x0 :: x1 :: x2 :: t) (.null :: st) M F := by
  intro l D cA ad A p e R s m args below meth c cells slots Q C fin H locs ls hP hS hl
  refine lv_astore_nN C.1.1 C.1.2.1 hd rfl hl.has (by rw [← hl.1]; simp only [List.length_cons]; omega) rfl (fun ls' h' => ?_)
  exact k l D cA ad A p e R s m args below meth c cells slots Q C fin H locs ls' hP hS (ng_lh.store (v := .null) hl (fun j u hj hu => by
    have e : j = 1 := by omega
    subst e
    simp at hu
    subst hu
    simpa [ng_nl] using hp) h')
theorem ng_aloadN_3 {x0 x1 x2 : Option Value} {t : ng_L} (hd : decode y.2.1 pc = .ok (.aload_n 3, 1)) (k : ng_Go X y d (pc + 1) (x0 :: x1 :: x2 :: some .null :: t) (.null :: st) M F) : ng_Go X y d pc (x0 :: x1 :: x2 :: some .null :: t) st M F := by
  intro l D cA ad A p e R s m args below meth c cells slots Q C fin H locs ls hP hS hl
  exact lv_aload_nN C.1.1 C.1.2.1 hd rfl (hl.2.2.2 3 _ rfl) (k l D cA ad A p e R s m args below meth c cells slots Q C fin H locs ls hP hS hl)
theorem ng_astoreN_3 {x0 x1 x2 x3 : Option Value} {t : ng_L} (hd : decode y.2.1 pc = .ok (.astore_n 3, 1)) (hp : ng_nl x2 = true) (k : ng_Go X y d (pc + 1) (x0 :: x1 :: x2 :: some .null :: t) st M F) : ng_Go X y d pc (x0 :: x1 :: x2 :: x3 :: t) (.null :: st) M F := by
  intro l D cA ad A p e R s m args below meth c cells slots Q C fin H locs ls hP hS hl
  refine lv_astore_nN C.1.1 C.1.2.1 hd rfl hl.has (by rw [← hl.1]; simp only [List.length_cons]; omega) rfl (fun ls' h' => ?_)
  exact k l D cA ad A p e R s m args below meth c cells slots Q C fin H locs ls' hP hS (ng_lh.store (v := .null) hl (fun j u hj hu => by
    have e : j = 2 := by omega
    subst e
    simp at hu
    subst hu
    simpa [ng_nl] using hp) h')
theorem ng_aloadN_4 {x0 x1 x2 x3 : Option Value} {t : ng_L} (hd : decode y.2.1 pc = .ok (.aload 4, 2)) (k : ng_Go X y d (pc + 2) (x0 :: x1 :: x2 :: x3 :: some .null :: t) (.null :: st) M F) : ng_Go X y d pc (x0 :: x1 :: x2 :: x3 :: some .null :: t) st M F := by
  intro l D cA ad A p e R s m args below meth c cells slots Q C fin H locs ls hP hS hl
  exact lv_aloadN C.1.1 C.1.2.1 hd (hl.2.2.2 4 _ rfl) (k l D cA ad A p e R s m args below meth c cells slots Q C fin H locs ls hP hS hl)
theorem ng_astoreN_4 {x0 x1 x2 x3 x4 : Option Value} {t : ng_L} (hd : decode y.2.1 pc = .ok (.astore 4, 2)) (hp : ng_nl x3 = true) (k : ng_Go X y d (pc + 2) (x0 :: x1 :: x2 :: x3 :: some .null :: t) st M F) : ng_Go X y d pc (x0 :: x1 :: x2 :: x3 :: x4 :: t) (.null :: st) M F := by
  intro l D cA ad A p e R s m args below meth c cells slots Q C fin H locs ls hP hS hl
  refine lv_astoreN C.1.1 C.1.2.1 hd hl.has (by rw [← hl.1]; simp only [List.length_cons]; omega) rfl (fun ls' h' => ?_)
  exact k l D cA ad A p e R s m args below meth c cells slots Q C fin H locs ls' hP hS (ng_lh.store (v := .null) hl (fun j u hj hu => by
    have e : j = 3 := by omega
    subst e
    simp at hu
    subst hu
    simpa [ng_nl] using hp) h')
theorem ng_aloadN_5 {x0 x1 x2 x3 x4 : Option Value} {t : ng_L} (hd : decode y.2.1 pc = .ok (.aload 5, 2)) (k : ng_Go X y d (pc + 2) (x0 :: x1 :: x2 :: x3 :: x4 :: some .null :: t) (.null :: st) M F) : ng_Go X y d pc (x0 :: x1 :: x2 :: x3 :: x4 :: some .null :: t) st M F := by
  intro l D cA ad A p e R s m args below meth c cells slots Q C fin H locs ls hP hS hl
  exact lv_aloadN C.1.1 C.1.2.1 hd (hl.2.2.2 5 _ rfl) (k l D cA ad A p e R s m args below meth c cells slots Q C fin H locs ls hP hS hl)
theorem ng_astoreN_5 {x0 x1 x2 x3 x4 x5 : Option Value} {t : ng_L} (hd : decode y.2.1 pc = .ok (.astore 5, 2)) (hp : ng_nl x4 = true) (k : ng_Go X y d (pc + 2) (x0 :: x1 :: x2 :: x3 :: x4 :: some .null :: t) st M F) : ng_Go X y d pc (x0 :: x1 :: x2 :: x3 :: x4 :: x5 :: t) (.null :: st) M F := by
  intro l D cA ad A p e R s m args below meth c cells slots Q C fin H locs ls hP hS hl
  refine lv_astoreN C.1.1 C.1.2.1 hd hl.has (by rw [← hl.1]; simp only [List.length_cons]; omega) rfl (fun ls' h' => ?_)
  exact k l D cA ad A p e R s m args below meth c cells slots Q C fin H locs ls' hP hS (ng_lh.store (v := .null) hl (fun j u hj hu => by
    have e : j = 4 := by omega
    subst e
    simp at hu
    subst hu
    simpa [ng_nl] using hp) h')
theorem ng_aloadN_6 {x0 x1 x2 x3 x4 x5 : Option Value} {t : ng_L} (hd : decode y.2.1 pc = .ok (.aload 6, 2)) (k : ng_Go X y d (pc + 2) (x0 :: x1 :: x2 :: x3 :: x4 :: x5 :: some .null :: t) (.null :: st) M F) : ng_Go X y d pc (x0 :: x1 :: x2 :: x3 :: x4 :: x5 :: some .null :: t) st M F := by
  intro l D cA ad A p e R s m args below meth c cells slots Q C fin H locs ls hP hS hl
  exact lv_aloadN C.1.1 C.1.2.1 hd (hl.2.2.2 6 _ rfl) (k l D cA ad A p e R s m args below meth c cells slots Q C fin H locs ls hP hS hl)
theorem ng_astoreN_6 {x0 x1 x2 x3 x4 x5 x6 : Option Value} {t : ng_L} (hd : decode y.2.1 pc = .ok (.astore 6, 2)) (hp : ng_nl x5 = true) (k : ng_Go X y d (pc + 2) (x0 :: x1 :: x2 :: x3 :: x4 :: x5 :: some .null :: t) st M F) : ng_Go X y d pc (x0 :: x1 :: x2 :: x3 :: x4 :: x5 :: x6 :: t) (.null :: st) M F := by
  intro l D cA ad A p e R s m args below meth c cells slots Q C fin H locs ls hP hS hl
  refine lv_astoreN C.1.1 C.1.2.1 hd hl.has (by rw [← hl.1]; simp only [List.length_cons]; omega) rfl (fun ls' h' => ?_)
  exact k l D cA ad A p e R s m args below meth c cells slots Q C fin H locs ls' hP hS (ng_lh.store (v := .null) hl (fun j u hj hu => by
    have e : j = 5 := by omega
    subst e
    simp at hu
    subst hu
    simpa [ng_nl] using hp) h')
theorem ng_aloadN_7 {x0 x1 x2 x3 x4 x5 x6 : Option Value} {t : ng_L} (hd : decode y.2.1 pc = .ok (.aload 7, 2)) (k : ng_Go X y d (pc + 2) (x0 :: x1 :: x2 :: x3 :: x4 :: x5 :: x6 :: some .null :: t) (.null :: st) M F) : ng_Go X y d pc (x0 :: x1 :: x2 :: x3 :: x4 :: x5 :: x6 :: some .null :: t) st M F := by
  intro l D cA ad A p e R s m args below meth c cells slots Q C fin H locs ls hP hS hl
  exact lv_aloadN C.1.1 C.1.2.1 hd (hl.2.2.2 7 _ rfl) (k l D cA ad A p e R s m args below meth c cells slots Q C fin H locs ls hP hS hl)
theorem ng_astoreN_7 {x0 x1 x2 x3 x4 x5 x6 x7 : Option Value} {t : ng_L} (hd : decode y.2.1 pc = .ok (.astore 7, 2)) (hp : ng_nl x6 = true) (k : ng_Go X y d (pc + 2) (x0 :: x1 :: x2 :: x3 :: x4 :: x5 :: x6 :: some .null :: t) st M F) : ng_Go X y d pc (x0 :: x1 :: x2 :: x3 :: x4 :: x5 :: x6 :: x7 :: t) (.null :: st) M F := by
  intro l D cA ad A p e R s m args below meth c cells slots Q C fin H locs ls hP hS hl
  refine lv_astoreN C.1.1 C.1.2.1 hd hl.has (by rw [← hl.1]; simp only [List.length_cons]; omega) rfl (fun ls' h' => ?_)
  exact k l D cA ad A p e R s m args below meth c cells slots Q C fin H locs ls' hP hS (ng_lh.store (v := .null) hl (fun j u hj hu => by
    have e : j = 6 := by omega
    subst e
    simp at hu
    subst hu
    simpa [ng_nl] using hp) h')
theorem ng_aloadN_8 {x0 x1 x2 x3 x4 x5 x6 x7 : Option Value} {t : ng_L} (hd : decode y.2.1 pc = .ok (.aload 8, 2)) (k : ng_Go X y d (pc + 2) (x0 :: x1 :: x2 :: x3 :: x4 :: x5 :: x6 :: x7 :: some .null :: t) (.null :: st) M F) : ng_Go X y d pc (x0 :: x1 :: x2 :: x3 :: x4 :: x5 :: x6 :: x7 :: some .null :: t) st M F := by
  intro l D cA ad A p e R s m args below meth c cells slots Q C fin H locs ls hP hS hl
  exact lv_aloadN C.1.1 C.1.2.1 hd (hl.2.2.2 8 _ rfl) (k l D cA ad A p e R s m args below meth c cells slots Q C fin H locs ls hP hS hl)
theorem ng_astoreN_8 {x0 x1 x2 x3 x4 x5 x6 x7 x8 : Option Value} {t : ng_L} (hd : decode y.2.1 pc = .ok (.astore 8, 2)) (hp : ng_nl x7 = true) (k : ng_Go X y d (pc + 2) (x0 :: x1 :: x2 :: x3 :: x4 :: x5 :: x6 :: x7 :: some .null :: t) st M F) : ng_Go X y d pc (x0 :: x1 :: x2 :: x3 :: x4 :: x5 :: x6 :: x7 :: x8 :: t) (.null :: st) M F := by
  intro l D cA ad A p e R s m args below meth c cells slots Q C fin H locs ls hP hS hl
  refine lv_astoreN C.1.1 C.1.2.1 hd hl.has (by rw [← hl.1]; simp only [List.length_cons]; omega) rfl (fun ls' h' => ?_)
  exact k l D cA ad A p e R s m args below meth c cells slots Q C fin H locs ls' hP hS (ng_lh.store (v := .null) hl (fun j u hj hu => by
    have e : j = 7 := by omega
    subst e
    simp at hu
    subst hu
    simpa [ng_nl] using hp) h')
theorem ng_aloadN_9 {x0 x1 x2 x3 x4 x5 x6 x7 x8 : Option Value} {t : ng_L} (hd : decode y.2.1 pc = .ok (.aload 9, 2)) (k : ng_Go X y d (pc + 2) (x0 :: x1 :: x2 :: x3 :: x4 :: x5 :: x6 :: x7 :: x8 :: some .null :: t) (.null :: st) M F) : ng_Go X y d pc (x0 :: x1 :: x2 :: x3 :: x4 :: x5 :: x6 :: x7 :: x8 :: some .null :: t) st M F := by
  intro l D cA ad A p e R s m args below meth c cells slots Q C fin H locs ls hP hS hl
  exact lv_aloadN C.1.1 C.1.2.1 hd (hl.2.2.2 9 _ rfl) (k l D cA ad A p e R s m args below meth c cells slots Q C fin H locs ls hP hS hl)
theorem ng_astoreN_9 {x0 x1 x2 x3 x4 x5 x6 x7 x8 x9 : Option Value} {t : ng_L} (hd : decode y.2.1 pc = .ok (.astore 9, 2)) (hp : ng_nl x8 = true) (k : ng_Go X y d (pc + 2) (x0 :: x1 :: x2 :: x3 :: x4 :: x5 :: x6 :: x7 :: x8 :: some .null :: t) st M F) : ng_Go X y d pc (x0 :: x1 :: x2 :: x3 :: x4 :: x5 :: x6 :: x7 :: x8 :: x9 :: t) (.null :: st) M F := by
  intro l D cA ad A p e R s m args below meth c cells slots Q C fin H locs ls hP hS hl
  refine lv_astoreN C.1.1 C.1.2.1 hd hl.has (by rw [← hl.1]; simp only [List.length_cons]; omega) rfl (fun ls' h' => ?_)
  exact k l D cA ad A p e R s m args below meth c cells slots Q C fin H locs ls' hP hS (ng_lh.store (v := .null) hl (fun j u hj hu => by
    have e : j = 8 := by omega
    subst e
    simp at hu
    subst hu
    simpa [ng_nl] using hp) h')
theorem ng_aloadN_10 {x0 x1 x2 x3 x4 x5 x6 x7 x8 x9 : Option Value} {t : ng_L} (hd : decode y.2.1 pc = .ok (.aload 10, 2)) (k : ng_Go X y d (pc + 2) (x0 :: x1 :: x2 :: x3 :: x4 :: x5 :: x6 :: x7 :: x8 :: x9 :: some .null :: t) (.null :: st) M F) : ng_Go X y d pc (x0 :: x1 :: x2 :: x3 :: x4 :: x5 :: x6 :: x7 :: x8 :: x9 :: some .null :: t) st M F := by
  intro l D cA ad A p e R s m args below meth c cells slots Q C fin H locs ls hP hS hl
  exact lv_aloadN C.1.1 C.1.2.1 hd (hl.2.2.2 10 _ rfl) (k l D cA ad A p e R s m args below meth c cells slots Q C fin H locs ls hP hS hl)
theorem ng_astoreN_10 {x0 x1 x2 x3 x4 x5 x6 x7 x8 x9 x10 : Option Value} {t : ng_L} (hd : decode y.2.1 pc = .ok (.astore 10, 2)) (hp : ng_nl x9 = true) (k : ng_Go X y d (pc + 2) (x0 :: x1 :: x2 :: x3 :: x4 :: x5 :: x6 :: x7 :: x8 :: x9 :: some .null :: t) st M F) : ng_Go X y d pc (x0 :: x1 :: x2 :: x3 :: x4 :: x5 :: x6 :: x7 :: x8 :: x9 :: x10 :: t) (.null :: st) M F := by
  intro l D cA ad A p e R s m args below meth c cells slots Q C fin H locs ls hP hS hl
  refine lv_astoreN C.1.1 C.1.2.1 hd hl.has (by rw [← hl.1]; simp only [List.length_cons]; omega) rfl (fun ls' h' => ?_)
  exact k l D cA ad A p e R s m args below meth c cells slots Q C fin H locs ls' hP hS (ng_lh.store (v := .null) hl (fun j u hj hu => by
    have e : j = 9 := by omega
    subst e
    simp at hu
    subst hu
    simpa [ng_nl] using hp) h')
theorem ng_aloadN_11 {x0 x1 x2 x3 x4 x5 x6 x7 x8 x9 x10 : Option Value} {t : ng_L} (hd : decode y.2.1 pc = .ok (.aload 11, 2)) (k : ng_Go X y d (pc + 2) (x0 :: x1 :: x2 :: x3 :: x4 :: x5 :: x6 :: x7 :: x8 :: x9 :: x10 :: some .null :: t) (.null :: st) M F) : ng_Go X y d pc (x0 :: x1 :: x2 :: x3 :: x4 :: x5 :: x6 :: x7 :: x8 :: x9 :: x10 :: some .null :: t) st M F := by
  intro l D cA ad A p e R s m args below meth c cells slots Q C fin H locs ls hP hS hl
  exact lv_aloadN C.1.1 C.1.2.1 hd (hl.2.2.2 11 _ rfl) (k l D cA ad A p e R s m args below meth c cells slots Q C fin H locs ls hP hS hl)
theorem ng_astoreN_11 {x0 x1 x2 x3 x4 x5 x6 x7 x8 x9 x10 x11 : Option Value} {t : ng_L} (hd : decode y.2.1 pc = .ok (.astore 11, 2)) (hp : ng_nl x10 = true) (k : ng_Go X y d (pc + 2) (x0 :: x1 :: x2 :: x3 :: x4 :: x5 :: x6 :: x7 :: x8 :: x9 :: x10 :: some .null :: t) st M F) : ng_Go X y d pc (x0 :: x1 :: x2 :: x3 :: x4 :: x5 :: x6 :: x7 :: x8 :: x9 :: x10 :: x11 :: t) (.null :: st) M F := by
  intro l D cA ad A p e R s m args below meth c cells slots Q C fin H locs ls hP hS hl
  refine lv_astoreN C.1.1 C.1.2.1 hd hl.has (by rw [← hl.1]; simp only [List.length_cons]; omega) rfl (fun ls' h' => ?_)
  exact k l D cA ad A p e R s m args below meth c cells slots Q C fin H locs ls' hP hS (ng_lh.store (v := .null) hl (fun j u hj hu => by
    have e : j = 10 := by omega
    subst e
    simp at hu
    subst hu
    simpa [ng_nl] using hp) h')
theorem ng_aloadN_12 {x0 x1 x2 x3 x4 x5 x6 x7 x8 x9 x10 x11 : Option Value} {t : ng_L} (hd : decode y.2.1 pc = .ok (.aload 12, 2)) (k : ng_Go X y d (pc + 2) (x0 :: x1 :: x2 :: x3 :: x4 :: x5 :: x6 :: x7 :: x8 :: x9 :: x10 :: x11 :: some .null :: t) (.null :: st) M F) : ng_Go X y d pc (x0 :: x1 :: x2 :: x3 :: x4 :: x5 :: x6 :: x7 :: x8 :: x9 :: x10 :: x11 :: some .null :: t) st M F := by
  intro l D cA ad A p e R s m args below meth c cells slots Q C fin H locs ls hP hS hl
  exact lv_aloadN C.1.1 C.1.2.1 hd (hl.2.2.2 12 _ rfl) (k l D cA ad A p e R s m args below meth c cells slots Q C fin H locs ls hP hS hl)
theorem ng_astoreN_12 {x0 x1 x2 x3 x4 x5 x6 x7 x8 x9 x10 x11 x12 : Option Value} {t : ng_L} (hd : decode y.2.1 pc = .ok (.astore 12, 2)) (hp : ng_nl x11 = true) (k : ng_Go X y d (pc + 2) (x0 :: x1 :: x2 :: x3 :: x4 :: x5 :: x6 :: x7 :: x8 :: x9 :: x10 :: x11 :: some .null :: t) st M F) : ng_Go X y d pc (x0 :: x1 :: x2 :: x3 :: x4 :: x5 :: x6 :: x7 :: x8 :: x9 :: x10 :: x11 :: x12 :: t) (.null :: st) M F := by
  intro l D cA ad A p e R s m args below meth c cells slots Q C fin H locs ls hP hS hl
  refine lv_astoreN C.1.1 C.1.2.1 hd hl.has (by rw [← hl.1]; simp only [List.length_cons]; omega) rfl (fun ls' h' => ?_)
  exact k l D cA ad A p e R s m args below meth c cells slots Q C fin H locs ls' hP hS (ng_lh.store (v := .null) hl (fun j u hj hu => by
    have e : j = 11 := by omega
    subst e
    simp at hu
    subst hu
    simpa [ng_nl] using hp) h')
end NgRules
