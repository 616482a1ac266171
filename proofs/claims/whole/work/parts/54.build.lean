/-! ===== objects are made: a logic over lists of cells ===== -/
def ng_nst (U : State) : Prop := ∀ q ∈ ng_nm, va_Nw (.methodLinkNest q.1 q.2.1 q.2.2.1 q.2.2.2) U
def ng_AOs (U : State) : Prop := va_AO "NinePots$Stand" U ∧ va_AO "NinePots$Sheet" U ∧ va_AO "java/lang/String" U
def ng_Bx (Z : (Nat → Prop) → State → Prop) (D : va_G) (cA : Nat → ClassId) (A : Nat → Prop) (y : ng_Y) (d : Nat) (p : Program) (R : Room) (s : State) (m : MethodId) (args : Array Value) (meth : Method) (c : Code) (cells slots ck sk : Nat) : Prop :=
  CallFix p m c y.2.1 y.2.2.1 s args ng_G y.1.cls ∧ va_K D vwCl (ng_tys cA) s ∧ ng_nst s ∧ ng_AOs s ∧ (∀ q, s.heap.size ≤ q → A q) ∧ meth.name = "<init>" ∧ d ≤ R.frames ∧ 40 * d ≤ R.locals ∧ cells + ck ≤ R.cells ∧ slots + sk ≤ R.slots ∧ Z A s
/-- from pc on a constructor comes to its end, with a world that F has; ck cells of sk slots may still be made -/
def ng_B (Z : (Nat → Prop) → State → Prop) (D : va_G) (cA : Nat → ClassId) (y : ng_Y) (d pc : Nat) (lv : ng_L) (st : List Value) (ww : va_W) (ck sk : Nat) (F : va_W → Prop) : Prop :=
  ∀ (l : Launch) (A : Nat → Prop) (p : Program) (e : Env) (R : Room) (s : State) (m : MethodId) (args : Array Value) (below : List Frame) (meth : Method) (c : Code) (cells slots : Nat) (Q : State → Prop),
    ng_Bx Z D cA A y d p R s m args meth c cells slots ck sk →
    (∀ (w' : va_W) (H' : Heap) (locs' : List Loc) (ls' : Array Slot) (pc' : Nat), F w' → va_P D vwCl w' H' → va_D A w' → va_S A s.heap H' locs' → decode y.2.1 pc' = .ok (.return_, 1) → W p l e R s m args below meth c H' locs' (cells + ck) (slots + sk) Q (F0 m pc' ls' [])) →
    ∀ (H : Heap) (locs : List Loc) (ls : Array Slot), va_P D vwCl ww H → va_D A ww → va_S A s.heap H locs → ng_lh id ls y.2.2.1 lv → W p l e R s m args below meth c H locs cells slots Q (F0 m pc ls st)
def ng_bR (d mc ms : Nat) : Room := { frames := d, cells := mc, slots := ms, locals := 40 * d }
def ng_BW (Z : (Nat → Prop) → State → Prop) (D : va_G) (cA : Nat → ClassId) (A : Nat → Prop) (ww : va_W) (U : State) : Prop := va_P D vwCl ww U.heap ∧ va_K D vwCl (ng_tys cA) U ∧ ng_nst U ∧ ng_AOs U ∧ Z A U
/-- a constructor's contract: from a new object alone, G a is what stands behind it, a the addresses -/
def ng_N (Z : (Nat → Prop) → State → Prop) (D : va_G) (cA : Nat → ClassId) (y : ng_Y) (d mc ms : Nat) (as : List Value) (e0 : va_E) (G : (Nat → Nat) → va_W) : Prop :=
  ∀ (l : Launch) (h0 sz : Nat), Met l y.1 (ng_ws y) (ng_bR d mc ms) (va_Pc (.ref h0 :: as) (fun U => U.heap.size = sz ∧ ng_BW Z D cA (va_A [(h0, e0)] sz) [(h0, e0)] U)) (va_Qv (fun a : Nat → Nat => a 0 = h0) (fun a t => va_P D vwCl (G a) t.heap ∧ va_D (va_A [(h0, e0)] sz) (G a)) (va_A [(h0, e0)] sz)) mc ms (va_A [(h0, e0)] sz)
def ng_Z0 : (Nat → Prop) → State → Prop := fun _ _ => True
theorem ng_v_id (v : Value) : ng_v id v = v := by cases v <;> rfl
theorem ng_vs_id (l : List Value) : l.map (ng_v id) = l := by
  rw [show ng_v id = id from funext ng_v_id, List.map_id]
theorem ng_ra_int {s : State} {c1 c2 : ClassId} (h1 : va_RA s c1 .int) (h2 : va_RA s c2 .int) : c1 = c2 := Option.some.inj (Eq.trans (Eq.symm h1) h2)
theorem ng_ra_obj {s : State} {c1 c2 : ClassId} {E : String} (h1 : va_RA s c1 (.object E)) (h2 : va_RA s c2 (.object E)) : c1 = c2 := by
  obtain ⟨_, _, _, _, _, e1⟩ := h1
  obtain ⟨_, _, _, _, _, e2⟩ := h2
  exact Option.some.inj (e1.symm.trans e2)
def ng_FF (own : String) (idx ci f : Nat) (ty : FieldType) : Prop := ∃ (C : String) (T : u_T) (N : Nat) (ty0 : Nat → FieldType), vwCl[ci]? = some (C, T, N) ∧ f < N ∧ Cond.fieldLink own idx (T f).1 (T f).2.1 (T f).2.2.1 ∈ ng_G ∧ (∀ w ∈ u_ws C T N, w ∈ ng_G) ∧ (∀ k, k < N → parseFieldDescriptor (T k).2.2.1 = some (ty0 k)) ∧ (∀ a, a < N → ∀ b, b < N → a ≠ b → (T a).2.1 ≠ (T b).2.1) ∧ (T f).2.2.2 = true ∧ (T f).1 = own ∧ parseFieldDescriptor (T f).2.2.1 = some ty
def ng_CL (own : String) (idx ci N : Nat) (ty : Nat → FieldType) : Prop := ∃ (C : String) (T : u_T), vwCl[ci]? = some (C, T, N) ∧ (∀ w ∈ u_ws C T N, w ∈ ng_G) ∧ (∀ k, k < N → parseFieldDescriptor (T k).2.2.1 = some (ty k)) ∧ Cond.classLink own idx C ∈ ng_G ∧ Cond.instantiable C N ∈ ng_G ∧ Cond.initialized C ∈ ng_G
section NgB
variable {Z : (Nat → Prop) → State → Prop} {D : va_G} {cA : Nat → ClassId} {y : ng_Y} {d pc : Nat} {lv : ng_L} {st : List Value} {ww : va_W} {ck sk : Nat} {F : va_W → Prop}
theorem bb_aload_0 {v : Nat} {t : ng_L} (hd : decode y.2.1 pc = .ok (.aload_n 0, 1)) (k : ng_B Z D cA y d (pc + 1) (some (.ref v) :: t) (.ref v :: st) ww ck sk F) : ng_B Z D cA y d pc (some (.ref v) :: t) st ww ck sk F := by
  intro l A p e R s m args below meth c cells slots Q C fin H locs ls hP hD hS hl
  exact lv_aload_n C.1.1 C.1.2.1 hd rfl (hl.2.2.2 0 _ rfl) (k l A p e R s m args below meth c cells slots Q C fin H locs ls hP hD hS hl)
theorem bb_aload_1 {x0 : Option Value} {v : Nat} {t : ng_L} (hd : decode y.2.1 pc = .ok (.aload_n 1, 1)) (k : ng_B Z D cA y d (pc + 1) (x0 :: some (.ref v) :: t) (.ref v :: st) ww ck sk F) : ng_B Z D cA y d pc (x0 :: some (.ref v) :: t) st ww ck sk F := by
  intro l A p e R s m args below meth c cells slots Q C fin H locs ls hP hD hS hl
  exact lv_aload_n C.1.1 C.1.2.1 hd rfl (hl.2.2.2 1 _ rfl) (k l A p e R s m args below meth c cells slots Q C fin H locs ls hP hD hS hl)
theorem bb_iload_1 {x0 : Option Value} {v : Int32} {t : ng_L} (hd : decode y.2.1 pc = .ok (.iload_n 1, 1)) (k : ng_B Z D cA y d (pc + 1) (x0 :: some (.int v) :: t) (.int v :: st) ww ck sk F) : ng_B Z D cA y d pc (x0 :: some (.int v) :: t) st ww ck sk F := by
  intro l A p e R s m args below meth c cells slots Q C fin H locs ls hP hD hS hl
  exact lv_iload_n C.1.1 C.1.2.1 hd rfl (hl.2.2.2 1 _ rfl) (k l A p e R s m args below meth c cells slots Q C fin H locs ls hP hD hS hl)
theorem bb_iload_2 {x0 x1 : Option Value} {v : Int32} {t : ng_L} (hd : decode y.2.1 pc = .ok (.iload_n 2, 1)) (k : ng_B Z D cA y d (pc + 1) (x0 :: x1 :: some (.int v) :: t) (.int v :: st) ww ck sk F) : ng_B Z D cA y d pc (x0 :: x1 :: some (.int v) :: t) st ww ck sk F := by
  intro l A p e R s m args below meth c cells slots Q C fin H locs ls hP hD hS hl
  exact lv_iload_n C.1.1 C.1.2.1 hd rfl (hl.2.2.2 2 _ rfl) (k l A p e R s m args below meth c cells slots Q C fin H locs ls hP hD hS hl)
theorem bb_istore_1 {x0 x1 : Option Value} {v : Int32} {t : ng_L} (hd : decode y.2.1 pc = .ok (.istore_n 1, 1)) (hp : ng_nl x0 = true) (k : ng_B Z D cA y d (pc + 1) (x0 :: some (.int v) :: t) st ww ck sk F) : ng_B Z D cA y d pc (x0 :: x1 :: t) (.int v :: st) ww ck sk F := by
  intro l A p e R s m args below meth c cells slots Q C fin H locs ls hP hD hS hl
  refine lv_istore_n C.1.1 C.1.2.1 hd rfl hl.has (by rw [← hl.1]; simp only [List.length_cons]; omega) rfl (fun ls' h' => ?_)
  exact k l A p e R s m args below meth c cells slots Q C fin H locs ls' hP hD hS (ng_lh.store (v := .int v) hl (fun j u hj hu => by
    have e : j = 0 := by omega
    subst e
    simp at hu
    subst hu
    simpa [ng_nl] using hp) h')
theorem bb_istore_2 {x0 x1 x2 : Option Value} {v : Int32} {t : ng_L} (hd : decode y.2.1 pc = .ok (.istore_n 2, 1)) (hp : ng_nl x1 = true) (k : ng_B Z D cA y d (pc + 1) (x0 :: x1 :: some (.int v) :: t) st ww ck sk F) : ng_B Z D cA y d pc (x0 :: x1 :: x2 :: t) (.int v :: st) ww ck sk F := by
  intro l A p e R s m args below meth c cells slots Q C fin H locs ls hP hD hS hl
  refine lv_istore_n C.1.1 C.1.2.1 hd rfl hl.has (by rw [← hl.1]; simp only [List.length_cons]; omega) rfl (fun ls' h' => ?_)
  exact k l A p e R s m args below meth c cells slots Q C fin H locs ls' hP hD hS (ng_lh.store (v := .int v) hl (fun j u hj hu => by
    have e : j = 1 := by omega
    subst e
    simp at hu
    subst hu
    simpa [ng_nl] using hp) h')
theorem bb_iinc_1 {x0 : Option Value} {v w : Int32} {n : Int} {t : ng_L} (hd : decode y.2.1 pc = .ok (.iinc 1 n, 3)) (hv : Int32.ofInt n = w) (hp : ng_nl x0 = true) (k : ng_B Z D cA y d (pc + 3) (x0 :: some (.int (v + w)) :: t) st ww ck sk F) : ng_B Z D cA y d pc (x0 :: some (.int v) :: t) st ww ck sk F := by
  intro l A p e R s m args below meth c cells slots Q C fin H locs ls hP hD hS hl
  obtain ⟨q, hq⟩ := List.getElem?_of_mem (ng_al_mem (ad := id) (lv := x0 :: some (.int v) :: t) (i := 1) (v := .int v) rfl)
  refine lv_iinc (v := v + w) C.1.1 C.1.2.1 hd hl.has (k := q) hq (by rw [hv]) (by rw [← hl.1]; simp only [List.length_cons]; omega) rfl (fun ls' h' => ?_)
  exact k l A p e R s m args below meth c cells slots Q C fin H locs ls' hP hD hS (ng_lh.store (v := .int (v + w)) hl (fun j u hj hu => by
    have e : j = 0 := by omega
    subst e
    simp at hu
    subst hu
    simpa [ng_nl] using hp) h')
theorem bb_iinc_2 {x0 x1 : Option Value} {v w : Int32} {n : Int} {t : ng_L} (hd : decode y.2.1 pc = .ok (.iinc 2 n, 3)) (hv : Int32.ofInt n = w) (hp : ng_nl x1 = true) (k : ng_B Z D cA y d (pc + 3) (x0 :: x1 :: some (.int (v + w)) :: t) st ww ck sk F) : ng_B Z D cA y d pc (x0 :: x1 :: some (.int v) :: t) st ww ck sk F := by
  intro l A p e R s m args below meth c cells slots Q C fin H locs ls hP hD hS hl
  obtain ⟨q, hq⟩ := List.getElem?_of_mem (ng_al_mem (ad := id) (lv := x0 :: x1 :: some (.int v) :: t) (i := 2) (v := .int v) rfl)
  refine lv_iinc (v := v + w) C.1.1 C.1.2.1 hd hl.has (k := q) hq (by rw [hv]) (by rw [← hl.1]; simp only [List.length_cons]; omega) rfl (fun ls' h' => ?_)
  exact k l A p e R s m args below meth c cells slots Q C fin H locs ls' hP hD hS (ng_lh.store (v := .int (v + w)) hl (fun j u hj hu => by
    have e : j = 1 := by omega
    subst e
    simp at hu
    subst hu
    simpa [ng_nl] using hp) h')
theorem bb_iconst {n : Int} {v : Int32} (hd : decode y.2.1 pc = .ok (.iconst n, 1)) (hv : Int32.ofInt n = v) (k : ng_B Z D cA y d (pc + 1) lv (.int v :: st) ww ck sk F) : ng_B Z D cA y d pc lv st ww ck sk F := by
  intro l A p e R s m args below meth c cells slots Q C fin H locs ls hP hD hS hl
  exact lv_iconst C.1.1 C.1.2.1 hd hv (k l A p e R s m args below meth c cells slots Q C fin H locs ls hP hD hS hl)
theorem bb_iconst_0 (hd : decode y.2.1 pc = .ok (.iconst 0, 1)) (k : ng_B Z D cA y d (pc + 1) lv (.int 0 :: st) ww ck sk F) : ng_B Z D cA y d pc lv st ww ck sk F := bb_iconst hd (by decide) k
theorem bb_iconst_1 (hd : decode y.2.1 pc = .ok (.iconst 1, 1)) (k : ng_B Z D cA y d (pc + 1) lv (.int 1 :: st) ww ck sk F) : ng_B Z D cA y d pc lv st ww ck sk F := bb_iconst hd (by decide) k
theorem bb_iconst_2 (hd : decode y.2.1 pc = .ok (.iconst 2, 1)) (k : ng_B Z D cA y d (pc + 1) lv (.int 2 :: st) ww ck sk F) : ng_B Z D cA y d pc lv st ww ck sk F := bb_iconst hd (by decide) k
theorem bb_iconst_3 (hd : decode y.2.1 pc = .ok (.iconst 3, 1)) (k : ng_B Z D cA y d (pc + 1) lv (.int 3 :: st) ww ck sk F) : ng_B Z D cA y d pc lv st ww ck sk F := bb_iconst hd (by decide) k
theorem bb_iconst_4 (hd : decode y.2.1 pc = .ok (.iconst 4, 1)) (k : ng_B Z D cA y d (pc + 1) lv (.int 4 :: st) ww ck sk F) : ng_B Z D cA y d pc lv st ww ck sk F := bb_iconst hd (by decide) k
theorem bb_iconst_5 (hd : decode y.2.1 pc = .ok (.iconst 5, 1)) (k : ng_B Z D cA y d (pc + 1) lv (.int 5 :: st) ww ck sk F) : ng_B Z D cA y d pc lv st ww ck sk F := bb_iconst hd (by decide) k
theorem bb_bipush {n : Int} {v : Int32} (hd : decode y.2.1 pc = .ok (.bipush n, 2)) (hv : (Int8.ofInt n).toInt32 = v) (k : ng_B Z D cA y d (pc + 2) lv (.int v :: st) ww ck sk F) : ng_B Z D cA y d pc lv st ww ck sk F := by
  intro l A p e R s m args below meth c cells slots Q C fin H locs ls hP hD hS hl
  exact lv_bipush C.1.1 C.1.2.1 hd hv (k l A p e R s m args below meth c cells slots Q C fin H locs ls hP hD hS hl)
theorem bb_sipush {n : Int} {v : Int32} (hd : decode y.2.1 pc = .ok (.sipush n, 3)) (hv : (Int16.ofInt n).toInt32 = v) (k : ng_B Z D cA y d (pc + 3) lv (.int v :: st) ww ck sk F) : ng_B Z D cA y d pc lv st ww ck sk F := by
  intro l A p e R s m args below meth c cells slots Q C fin H locs ls hP hD hS hl
  exact lv_sipush C.1.1 C.1.2.1 hd hv (k l A p e R s m args below meth c cells slots Q C fin H locs ls hP hD hS hl)
theorem bb_ldc {i : Nat} {v : Int32} (hd : decode y.2.1 pc = .ok (.ldc i, 2)) (hv : Jvm.Cond.constant y.1.cls i v ∈ ng_G) (k : ng_B Z D cA y d (pc + 2) lv (.int v :: st) ww ck sk F) : ng_B Z D cA y d pc lv st ww ck sk F := by
  intro l A p e R s m args below meth c cells slots Q C fin H locs ls hP hD hS hl
  exact lv_ldc C.1.1 C.1.2.1 C.1.2.2.2.1 (C.1.2.2.2.2 _ hv) hd (k l A p e R s m args below meth c cells slots Q C fin H locs ls hP hD hS hl)
theorem bb_dup {a : Value} (hd : decode y.2.1 pc = .ok (.dup, 1)) (ha : a.category = 1) (k : ng_B Z D cA y d (pc + 1) lv (a :: a :: st) ww ck sk F) : ng_B Z D cA y d pc lv (a :: st) ww ck sk F := by
  intro l A p e R s m args below meth c cells slots Q C fin H locs ls hP hD hS hl
  exact lv_dup C.1.1 C.1.2.1 hd ha (k l A p e R s m args below meth c cells slots Q C fin H locs ls hP hD hS hl)
theorem bb_iadd {a b : Int32} (hd : decode y.2.1 pc = .ok (.iadd, 1)) (k : ng_B Z D cA y d (pc + 1) lv (.int (a + b) :: st) ww ck sk F) : ng_B Z D cA y d pc lv (.int b :: .int a :: st) ww ck sk F := by
  intro l A p e R s m args below meth c cells slots Q C fin H locs ls hP hD hS hl
  exact lv_iadd C.1.1 C.1.2.1 hd (k l A p e R s m args below meth c cells slots Q C fin H locs ls hP hD hS hl)
theorem bb_imul {a b : Int32} (hd : decode y.2.1 pc = .ok (.imul, 1)) (k : ng_B Z D cA y d (pc + 1) lv (.int (a * b) :: st) ww ck sk F) : ng_B Z D cA y d pc lv (.int b :: .int a :: st) ww ck sk F := by
  intro l A p e R s m args below meth c cells slots Q C fin H locs ls hP hD hS hl
  exact lv_imul C.1.1 C.1.2.1 hd (k l A p e R s m args below meth c cells slots Q C fin H locs ls hP hD hS hl)
theorem bb_icmp_ge {a b : Int32} {off : Int} (tgt : Nat) (hd : decode y.2.1 pc = .ok (.if_icmp .ge off, 3)) (ht : (pc : Int) + off = (tgt : Int)) (kt : b ≤ a → ng_B Z D cA y d tgt lv st ww ck sk F) (kf : ¬ b ≤ a → ng_B Z D cA y d (pc + 3) lv st ww ck sk F) : ng_B Z D cA y d pc lv (.int b :: .int a :: st) ww ck sk F := by
  intro l A p e R s m args below meth c cells slots Q C fin H locs ls hP hD hS hl
  exact lv_icmp_ge C.1.1 C.1.2.1 hd ht (fun h => (kt h l A p e R s m args below meth c cells slots Q C fin H locs ls hP hD hS hl)) (fun h => (kf h l A p e R s m args below meth c cells slots Q C fin H locs ls hP hD hS hl))
theorem bb_goto {off : Int} (tgt : Nat) (hd : decode y.2.1 pc = .ok (.goto off, 3)) (ht : (pc : Int) + off = (tgt : Int)) (k : ng_B Z D cA y d tgt lv st ww ck sk F) : ng_B Z D cA y d pc lv st ww ck sk F := by
  intro l A p e R s m args below meth c cells slots Q C fin H locs ls hP hD hS hl
  exact lv_goto C.1.1 C.1.2.1 hd ht (k l A p e R s m args below meth c cells slots Q C fin H locs ls hP hD hS hl)
end NgB
theorem ng_nd_range' (n : Nat) : ∀ s, va_nd (List.range' s n) = true := by
  induction n with
  | zero => intro s; rfl
  | succ n ih =>
    intro s
    rw [List.range'_succ]
    unfold va_nd
    rw [ih (s + 1)]
    simp
theorem ng_nd_range (n : Nat) : va_nd (List.range n) = true := by rw [List.range_eq_range']; exact ng_nd_range' n 0
section NgB
variable {Z : (Nat → Prop) → State → Prop} {D : va_G} {cA : Nat → ClassId} {y : ng_Y} {d pc : Nat} {lv : ng_L} {st : List Value} {ww : va_W} {ck sk : Nat} {F : va_W → Prop}
theorem bb_mov {A : Nat → Prop} {p : Program} {R : Room} {s : State} {m : MethodId} {args : Array Value} {meth : Method} {c : Code} {cells slots x n : Nat} (C : ng_Bx Z D cA A y d p R s m args meth c cells slots (ck + x) (sk + n)) : ng_Bx Z D cA A y d p R s m args meth c (cells + x) (slots + n) ck sk := by
  obtain ⟨a1, a2, a3, a4, a5, a6, a7, a8, a9, a10, a11⟩ := C
  exact ⟨a1, a2, a3, a4, a5, a6, a7, a8, by omega, by omega, a11⟩
theorem bb_fin {l : Launch} {A : Nat → Prop} {p : Program} {e : Env} {R : Room} {s : State} {m : MethodId} {args : Array Value} {below : List Frame} {meth : Method} {c : Code} {cells slots x n : Nat} {Q : State → Prop}
    (fin : ∀ (w' : va_W) (H' : Heap) (locs' : List Loc) (ls' : Array Slot) (pc' : Nat), F w' → va_P D vwCl w' H' → va_D A w' → va_S A s.heap H' locs' → decode y.2.1 pc' = .ok (.return_, 1) → W p l e R s m args below meth c H' locs' (cells + (ck + x)) (slots + (sk + n)) Q (F0 m pc' ls' [])) :
    ∀ (w' : va_W) (H' : Heap) (locs' : List Loc) (ls' : Array Slot) (pc' : Nat), F w' → va_P D vwCl w' H' → va_D A w' → va_S A s.heap H' locs' → decode y.2.1 pc' = .ok (.return_, 1) → W p l e R s m args below meth c H' locs' (cells + x + ck) (slots + n + sk) Q (F0 m pc' ls' []) := by
  have e1 : cells + x + ck = cells + (ck + x) := by omega
  have e2 : slots + n + sk = slots + (sk + n) := by omega
  rw [e1, e2]
  exact fin
theorem bb_ret (hd : decode y.2.1 pc = .ok (.return_, 1)) (h : F ww) : ng_B Z D cA y d pc lv [] ww ck sk F := by
  intro l A p e R s m args below meth c cells slots Q C fin H locs ls hP hD hS hl
  refine W.widen (k := cells + ck) (n := slots + sk) (by omega) (by omega) ?_
  exact fin _ _ _ _ _ h hP hD hS hd
theorem bb_sub {w2 : va_W} (is : List Nat) (hn : va_nd is = true) (hs : is.map (fun i => ww[i]?) = w2.map some) (k : ng_B Z D cA y d pc lv st w2 ck sk F) : ng_B Z D cA y d pc lv st ww ck sk F := by
  intro l A p e R s m args below meth c cells slots Q C fin H locs ls hP hD hS hl
  exact k l A p e R s m args below meth c cells slots Q C fin H locs ls (fun j q hj => by
    have h1 : (is.map (fun i => ww[i]?))[j]? = some (some q) := by rw [hs, List.getElem?_map, hj]; rfl
    rw [List.getElem?_map] at h1
    cases hi : is[j]? with
    | none => rw [hi] at h1; cases h1
    | some i => rw [hi] at h1; exact hP i q (Option.some.inj h1)) (hD.sub is hn hs) hS hl
theorem bb_eq {w2 : va_W} (h : ww = w2) (k : ng_B Z D cA y d pc lv st w2 ck sk F) : ng_B Z D cA y d pc lv st ww ck sk F := by subst h; exact k
theorem oi_inst : Cond.instanceMethod objectInit ∈ ng_G := ng_inG (i := 80) (by decide +kernel) (by decide +kernel)
theorem oi_code : Cond.code objectInit ⟨#[0xb1]⟩ 1 none ∈ ng_G := ng_inG (i := 81) (by decide +kernel) (by decide +kernel)
theorem ac_int : Cond.arrayClass .int ∈ ng_G := ng_inG (i := 115) (by decide +kernel) (by decide +kernel)
theorem bb_obj {a idx : Nat} (hd : decode y.2.1 pc = .ok (.invokespecial idx, 3)) (hlink : Cond.methodLink y.1.cls idx objectInit ∈ ng_G) (hst : (st.map fun v => v.category).sum ≤ 8) (h1 : 1 ≤ d) (k : ng_B Z D cA y d (pc + 3) lv st ww ck sk F) : ng_B Z D cA y d pc lv (.ref a :: st) ww ck sk F := by
  intro l A p e R s m args below meth c cells slots Q C fin H locs ls hP hD hS hl
  have hR := C.2.2.2.2.2.2
  refine W.objInit C.1.1 C.1.2.1 C.1.2.2.2.1 (C.1.2.2.2.2 _ hlink) (C.1.2.2.2.2 _ oi_inst) (C.1.2.2.2.2 _ oi_code) rfl (hl.2.1.trans C.1.2.2.1.symm) rfl hd (by omega) (Nat.le_trans (Nat.add_le_add_right (lv_room hst) 12) (by omega)) ?_
  exact W.eq (g2 := F0 m (pc + 3) ls st) rfl (k l A p e R s m args below meth c cells slots Q C fin H locs ls hP hD hS hl)
theorem bb_new {idx ci N : Nat} {ty : Nat → FieldType} (fs : List Value) (hd : decode y.2.1 pc = .ok (.new idx, 3)) (hc : ng_CL y.1.cls idx ci N ty) (hfs : ∀ j, j < N → defaultValue (ty j) = vp_V fs j) (k : ∀ q, ng_B Z D cA y d (pc + 3) lv (.ref q :: st) (ww ++ [(q, .inr (ci, fs))]) ck sk F) : ng_B Z D cA y d pc lv st ww (ck + 1) (sk + N) F := by
  intro l A p e R s m args below meth c cells slots Q C fin H locs ls hP hD hS hl
  obtain ⟨C0, T, c1, c2, c3, c4, c5, c6⟩ := hc
  have hR := C.2.2.2.2.2.2
  refine va_new C.1.1 C.1.2.1 C.1.2.2.2.2 c2 ty c3 C.1.2.2.2.1 (C.1.2.2.2.2 _ c4) (C.1.2.2.2.2 _ c5) (C.1.2.2.2.2 _ c6) C.2.1 hP hD hS C.2.2.2.2.1 c1 hfs (by omega) (by omega) hd (fun q H1 hP1 hD1 hS1 => ?_)
  exact k q l A p e R s m args below meth c (cells + 1) (slots + N) Q (bb_mov C) (bb_fin fin) H1 locs ls hP1 hD1 hS1 hl
theorem bb_newa {n : Int32} (N : Nat) (hd : decode y.2.1 pc = .ok (.newarray .int, 2)) (hn : ¬ n < 0) (hN : n.toNatClampNeg = N) (hb : N * componentBytes .int ≤ 536870912) (k : ∀ q, ng_B Z D cA y d (pc + 2) lv (.ref q :: st) (ww ++ [(q, .inl (cA 0, N, .inl (fun _ => 0)))]) ck sk F) : ng_B Z D cA y d pc lv (.int n :: st) ww (ck + 1) (sk + N) F := by
  intro l A p e R s m args below meth c cells slots Q C fin H locs ls hP hD hS hl
  have hR := C.2.2.2.2.2.2
  refine va_newa (atype := .int) (ty := .int) (a0 := (N, .inl (fun _ => 0))) C.1.1 C.1.2.1 (C.1.2.2.2.2 _ ac_int) rfl C.2.1 hP hD hS C.2.2.2.2.1 (fun _ => rfl) hn hN hb (by omega) (by omega) hd (fun q c2 H1 hK1 hP1 hD1 hS1 => ?_)
  have e : c2 = cA 0 := ng_ra_int (hK1.2 4 (c2, .int) rfl).2 (C.2.1.2 0 (cA 0, .int) rfl).2
  subst e
  exact k q l A p e R s m args below meth c (cells + 1) (slots + N) Q (bb_mov C) (bb_fin fin) H1 locs ls hP1 hD1 hS1 hl
theorem bb_newq {n : Int32} {idx t : Nat} {E : String} (N : Nat) (hd : decode y.2.1 pc = .ok (.anewarray idx, 3)) (hcl : Cond.classLink y.1.cls idx E ∈ ng_G) (hO : ∀ s, ng_AOs s → va_AO E s) (ht : (ng_tys cA)[t]? = some (cA t, .object E)) (hn : ¬ n < 0) (hN : n.toNatClampNeg = N) (hb : N * 4 ≤ 536870912) (k : ∀ q, ng_B Z D cA y d (pc + 3) lv (.ref q :: st) (ww ++ [(q, .inl (cA t, N, .inr (.inr (.inr (.inr (fun _ => none))))))]) ck sk F) : ng_B Z D cA y d pc lv (.int n :: st) ww (ck + 1) (sk + N) F := by
  intro l A p e R s m args below meth c cells slots Q C fin H locs ls hP hD hS hl
  have hR := C.2.2.2.2.2.2
  refine va_newq C.1.1 C.1.2.1 C.1.2.2.2.1 (C.1.2.2.2.2 _ hcl) (hO s C.2.2.2.1) C.2.1 hP hD hS C.2.2.2.2.1 hn hN hb (by omega) (by omega) hd (fun q c2 H1 hK1 hP1 hD1 hS1 => ?_)
  have e : c2 = cA t := ng_ra_obj (hK1.2 4 (c2, .object E) rfl).2 (C.2.1.2 t (cA t, .object E) ht).2
  subst e
  exact k q l A p e R s m args below meth c (cells + 1) (slots + N) Q (bb_mov C) (bb_fin fin) H1 locs ls hP1 hD1 hS1 hl
theorem bb_putF {idx ci f a : Nat} {fs : List Value} {v : Value} {ty : FieldType} (k0 : Nat) (hd : decode y.2.1 pc = .ok (.putfield idx, 3)) (hf : ng_FF y.1.cls idx ci f ty) (he : ww[k0]? = some (a, .inr (ci, fs))) (hn : narrow ty v = v) (hfit : fits ty v = true) (hlen : f < fs.length) (k : ng_B Z D cA y d (pc + 3) lv st (ww.set k0 (a, .inr (ci, fs.set f v))) ck sk F) : ng_B Z D cA y d pc lv (v :: .ref a :: st) ww ck sk F := by
  intro l A p e R s m args below meth c cells slots Q C fin H locs ls hP hD hS hl
  obtain ⟨C0, T, N, ty0, h1, h2, h3, h4, h5, h6, h7, h8, h9⟩ := hf
  exact va_putF C.1.1 C.1.2.1 C.1.2.2.2.2 h4 ty0 h5 h6 C.1.2.2.2.1 C.2.1 hP hD hS k0 he h1 f h2 (C.1.2.2.2.2 _ h3) (fun _ h => h) h7 C.2.2.2.2.2.1 h8 h9 hn hfit hlen hd (fun H1 locs1 hP1 hD1 hS1 => k l A p e R s m args below meth c cells slots Q C fin H1 locs1 ls hP1 hD1 hS1 hl)
theorem bb_put {idx ci f a : Nat} {fs : List Value} {v : Value} {ty : FieldType} (k0 : Nat) (hd : decode y.2.1 pc = .ok (.putfield idx, 3)) (hf : ng_FP y.1.cls idx ci f ty) (he : ww[k0]? = some (a, .inr (ci, fs))) (hn : narrow ty v = v) (hfit : fits ty v = true) (hlen : f < fs.length) (k : ng_B Z D cA y d (pc + 3) lv st (ww.set k0 (a, .inr (ci, fs.set f v))) ck sk F) : ng_B Z D cA y d pc lv (v :: .ref a :: st) ww ck sk F := by
  intro l A p e R s m args below meth c cells slots Q C fin H locs ls hP hD hS hl
  obtain ⟨C0, T, N, ty0, h1, h2, h3, h4, h5, h6, h7, h8⟩ := hf
  exact va_put C.1.1 C.1.2.1 C.1.2.2.2.2 h4 ty0 h5 h6 C.1.2.2.2.1 C.2.1 hP hD hS k0 he h1 f h2 (C.1.2.2.2.2 _ h3) (fun _ h => h) h7 h8 hn hfit hlen hd (fun H1 locs1 hP1 hD1 hS1 => k l A p e R s m args below meth c cells slots Q C fin H1 locs1 ls hP1 hD1 hS1 hl)
theorem bb_get {idx ci f a : Nat} {fs : List Value} {v : Value} (k0 : Nat) (hd : decode y.2.1 pc = .ok (.getfield idx, 3)) (hf : ng_FL y.1.cls idx ci f) (he : ww[k0]? = some (a, .inr (ci, fs))) (hv : fs[f]? = some v) (k : ng_B Z D cA y d (pc + 3) lv (v :: st) ww ck sk F) : ng_B Z D cA y d pc lv (.ref a :: st) ww ck sk F := by
  intro l A p e R s m args below meth c cells slots Q C fin H locs ls hP hD hS hl
  obtain ⟨Cn, T, N, h1, h2, h3, h4⟩ := hf
  exact va_get C.1.1 C.1.2.1 C.1.2.2.2.2 h4 C.1.2.2.2.1 C.2.1 hP k0 he h1 f h2 (C.1.2.2.2.2 _ h3) (fun _ h => h) hv hd (k l A p e R s m args below meth c cells slots Q C fin H locs ls hP hD hS hl)
theorem bb_iast {a n j : Nat} {i x : Int32} {f : Nat → Int32} (k0 : Nat) (hd : decode y.2.1 pc = .ok (.iastore, 1)) (he : ww[k0]? = some (a, .inl (cA 0, n, .inl f))) (hin : vp_in i n) (hj : i.toNatClampNeg = j) (k : ng_B Z D cA y d (pc + 1) lv st (ww.set k0 (a, .inl (cA 0, n, .inl (upd f j x)))) ck sk F) : ng_B Z D cA y d pc lv (.int x :: .int i :: .ref a :: st) ww ck sk F := by
  intro l A p e R s m args below meth c cells slots Q C fin H locs ls hP hD hS hl
  subst hj
  exact va_iast C.1.1 C.1.2.1 C.2.1 hP hD hS k0 0 he rfl hin hd (fun H1 locs1 hP1 hD1 hS1 => k l A p e R s m args below meth c cells slots Q C fin H1 locs1 ls hP1 hD1 hS1 hl)
theorem bb_ast {a n j t ci v : Nat} {i : Int32} {f : Nat → Option Nat} {vs : List Value} {r : vw_C} (k0 qk : Nat) (hd : decode y.2.1 pc = .ok (.aastore, 1)) (he : ww[k0]? = some (a, .inl (cA t, n, .inr (.inr (.inr (.inr f)))))) (ht : (ng_tys cA)[t]? = some (cA t, .object r.1)) (hv : ww[qk]? = some (v, .inr (ci, vs))) (hc : vwCl[ci]? = some r) (hin : vp_in i n) (hj : i.toNatClampNeg = j) (k : ng_B Z D cA y d (pc + 1) lv st (ww.set k0 (a, .inl (cA t, n, .inr (.inr (.inr (.inr (va_up f j (some v)))))))) ck sk F) : ng_B Z D cA y d pc lv (.ref v :: .int i :: .ref a :: st) ww ck sk F := by
  intro l A p e R s m args below meth c cells slots Q C fin H locs ls hP hD hS hl
  subst hj
  exact va_astq C.1.1 C.1.2.1 C.2.1 hP hD hS k0 t qk ci he ht hv hc hin hd (fun H1 locs1 hP1 hD1 hS1 => k l A p e R s m args below meth c cells slots Q C fin H1 locs1 ls hP1 hD1 hS1 hl)
theorem bb_astS {a n j v : Nat} {i : Int32} {f : Nat → Option Nat} (k0 : Nat) (hd : decode y.2.1 pc = .ok (.aastore, 1)) (he : ww[k0]? = some (a, .inl (cA 3, n, .inr (.inr (.inr (.inr f)))))) (hz : ∀ A s, Z A s → va_O "java/lang/String" v A s s.heap) (hin : vp_in i n) (hj : i.toNatClampNeg = j) (k : ng_B Z D cA y d (pc + 1) lv st (ww.set k0 (a, .inl (cA 3, n, .inr (.inr (.inr (.inr (va_up f j (some v)))))))) ck sk F) : ng_B Z D cA y d pc lv (.ref v :: .int i :: .ref a :: st) ww ck sk F := by
  intro l A p e R s m args below meth c cells slots Q C fin H locs ls hP hD hS hl
  subst hj
  have hO := hz A s C.2.2.2.2.2.2.2.2.2.2
  have hr : va_Any "java/lang/String" s H v := by
    obtain ⟨cell, h1, h2, h3⟩ := va_Orecv hO hS
    obtain ⟨kC, hkC, -⟩ := Vm.findClass_spec h3
    refine ⟨cell, h1, h2, ⟨kC, hkC⟩, fun comp hc => ?_⟩
    have e : cell.cls = comp := Option.some.inj (h3.symm.trans hc)
    rw [e]
    exact va_asg s.vm comp
  exact va_astqM C.1.1 C.1.2.1 C.2.1 hP hD hS k0 3 he rfl hr hin hd (fun H1 locs1 hP1 hD1 hS1 => k l A p e R s m args below meth c cells slots Q C fin H1 locs1 ls hP1 hD1 hS1 hl)
theorem bb_ldcS {idx q : Nat} {tx : String} (hd : decode y.2.1 pc = .ok (.ldc idx, 2)) (hz : ∀ A s, Z A s → vk_R y.1.cls idx tx q s) (k : ng_B Z D cA y d (pc + 2) lv (.ref q :: st) ww ck sk F) : ng_B Z D cA y d pc lv st ww ck sk F := by
  intro l A p e R s m args below meth c cells slots Q C fin H locs ls hP hD hS hl
  exact va_ldcS C.1.1 C.1.2.1 C.1.2.2.2.1 (hz A s C.2.2.2.2.2.2.2.2.2.2) hd (k l A p e R s m args below meth c cells slots Q C fin H locs ls hP hD hS hl)
theorem bb_alen {a t : Nat} {ty : FieldType} {x : vp_A} (k0 : Nat) (hd : decode y.2.1 pc = .ok (.arraylength, 1)) (he : ww[k0]? = some (a, .inl (cA t, x))) (ht : (ng_tys cA)[t]? = some (cA t, ty)) {v : Int32} (hv : Int32.ofNat x.1 = v) (k : ng_B Z D cA y d (pc + 1) lv (.int v :: st) ww ck sk F) : ng_B Z D cA y d pc lv (.ref a :: st) ww ck sk F := by
  intro l A p e R s m args below meth c cells slots Q C fin H locs ls hP hD hS hl
  exact va_alen C.1.1 C.1.2.1 C.2.1 hP k0 t he ht hv hd (k l A p e R s m args below meth c cells slots Q C fin H locs ls hP hD hS hl)
theorem ng_nst.moved {s U : State} (hW : s.WarmedH U.vm) (h : ng_nst s) : ng_nst U := fun q hq => va_Nw.warmM hW (h q hq)
theorem ng_AOs.moved {s U : State} (hW : s.WarmedH U.vm) (h : ng_AOs s) : ng_AOs U := ⟨h.1.moved hW.alike, h.2.1.moved hW.alike, h.2.2.moved hW.alike⟩
theorem ng_N_blind {av : List Value} {sz : Nat} {A : Nat → Prop} {w2 : va_W} (hZ : ∀ A U g mk a, Z A U → Z A (U.calling g mk a)) : FrameBlind (va_Pc av (fun U => U.heap.size = sz ∧ ng_BW Z D cA A w2 U)) := by
  intro a U g mk h
  obtain ⟨h1, h2, h3, h4, h5, h6, h7⟩ := h
  exact ⟨h1, h2, h3, va_K.moved (u := U) (U := U.calling g mk a) (Vm.Alike.refl U.vm) h4, fun q hq => va_Nw.same rfl rfl (h5 q hq), ⟨va_AO.moved (u := U) (U := U.calling g mk a) (Vm.Alike.refl U.vm) h6.1, va_AO.moved (u := U) (U := U.calling g mk a) (Vm.Alike.refl U.vm) h6.2.1, va_AO.moved (u := U) (U := U.calling g mk a) (Vm.Alike.refl U.vm) h6.2.2⟩, hZ A U g mk a h7⟩
/-- the call of a constructor on the last cell of the world -/
theorem bb_after {l : Launch} {A : Nat → Prop} {p : Program} {e : Env} {R : Room} {s : State} {m : MethodId} {args : Array Value} {below : List Frame} {meth : Method} {c : Code} {cells slots : Nat} {Q : State → Prop} {H : Heap} {locs : List Loc} {ls : Array Slot} {st0 : List Value} {mc ms b : Nat} {e0 : va_E} {G : (Nat → Nat) → va_W} {as : Array Value}
    (hr : va_Run p l e R s m args below meth c H locs cells slots mc ms (F0 m pc ls st0) st (va_Qv (fun a : Nat → Nat => a 0 = b) (fun a t => va_P D vwCl (G a) t.heap ∧ va_D (va_A [(b, e0)] H.size) (G a)) (va_A [(b, e0)] H.size) as) (va_A [(b, e0)] H.size)) (C : ng_Bx Z D cA A y d p R s m args meth c cells slots (ck + mc) (sk + ms))
    (fin : ∀ (w' : va_W) (H' : Heap) (locs' : List Loc) (ls' : Array Slot) (pc' : Nat), F w' → va_P D vwCl w' H' → va_D A w' → va_S A s.heap H' locs' → decode y.2.1 pc' = .ok (.return_, 1) → W p l e R s m args below meth c H' locs' (cells + (ck + mc)) (slots + (sk + ms)) Q (F0 m pc' ls' []))
    (hP : va_P D vwCl (ww ++ [(b, e0)]) H) (hD : va_D A (ww ++ [(b, e0)])) (hS : va_S A s.heap H locs) (hl : ng_lh id ls y.2.2.1 lv) (k : ∀ a : Nat → Nat, a 0 = b → ng_B Z D cA y d (pc + 3) lv st (ww ++ G a) ck sk F) : W p l e R s m args below meth c H locs cells slots Q (F0 m pc ls st0) := by
  have hl1 : (ww ++ [(b, e0)])[ww.length]? = some (b, e0) := by simp
  have hFc : ∀ q, va_A [(b, e0)] H.size q → A q := va_free hD hS C.2.2.2.2.1 [ww.length] (by simp)
  refine va_callv hr hS (fun q _ h => hFc q h) hFc (fun a t H1 locs1 ht hvm hw hB hz1 hk1 hS1 => ?_)
  obtain ⟨hP1, hD1⟩ := hB
  rw [ht] at hP1
  obtain ⟨hP2, hD2⟩ := va_join (wc := [(b, e0)]) (wr := ww) (w1 := G a) hP hD [ww.length] (List.range ww.length) (by simp) (by
    apply List.ext_getElem?
    intro i
    rw [List.getElem?_map, List.getElem?_map]
    by_cases hi : i < ww.length
    · rw [List.getElem?_range hi]
      simp [List.getElem?_append_left hi, List.getElem?_eq_getElem hi]
    · rw [List.getElem?_eq_none (by simpa using hi), List.getElem?_eq_none (by simpa using hi)]
      rfl) (ng_nd_range ww.length) (fun i hi => by simp at hi ⊢; omega) hk1 hFc hP1 hD1
  exact k a hw l A p e R s m args below meth c (cells + mc) (slots + ms) Q (bb_mov C) (bb_fin fin) H1 locs1 ls hP2 hD2 hS1 hl
/-- what the tables say of a constructor -/
def ng_MI (y : ng_Y) (n : Nat) : Prop := ng_MY y n ∧ Cond.instanceMethod y.1 ∈ ng_G ∧ y.1.name = "<init>" ∧ y.2.2.2 = none
theorem bb_pre {A : Nat → Prop} {p : Program} {R : Room} {s : State} {m : MethodId} {args : Array Value} {meth : Method} {c : Code} {cells slots b : Nat} {H : Heap} {e0 : va_E} {As : List Value} (C : ng_Bx Z D cA A y d p R s m args meth c cells slots ck sk) (hP : va_P D vwCl (ww ++ [(b, e0)]) H) : PreS s H (va_Pc (.ref b :: As) (fun U => U.heap.size = H.size ∧ ng_BW ng_Z0 D cA (va_A [(b, e0)] H.size) [(b, e0)] U)) (.ref b :: As) :=
  ⟨ng_N_blind (fun _ _ _ _ _ h => h), fun U hU hW => ⟨rfl, by rw [hU], by rw [hU]; exact hP.sub (ws' := [(b, e0)]) [ww.length] (by simp), va_K.moved hW.alike C.2.1, C.2.2.1.moved hW, C.2.2.2.1.moved hW, trivial⟩⟩
theorem bb_call {idx b n d' mc ms : Nat} {y2 : ng_Y} {As : List Value} {e0 : va_E} {G : (Nat → Nat) → va_W} (hd : decode y.2.1 pc = .ok (.invokespecial idx, 3)) (hlink : Cond.methodLink y.1.cls idx y2.1 ∈ ng_G) (hm : ng_MI y2 n) (hn : As.length = n) (hst : (st.map fun v => v.category).sum ≤ 8) (he : ng_N ng_Z0 D cA y2 d' mc ms As e0 G) (hdd : d' ≤ d)
    (k : ∀ a : Nat → Nat, a 0 = b → ng_B Z D cA y (d + 1) (pc + 3) lv st (ww ++ G a) ck sk F) : ng_B Z D cA y (d + 1) pc lv (As.reverse ++ .ref b :: st) (ww ++ [(b, e0)]) (ck + mc) (sk + ms) F := by
  intro l A p e R s m args below meth c cells slots Q C fin H locs ls hP hD hS hl
  have hR := C.2.2.2.2.2.2
  have hmm := hm.1.2.2.2
  have hM := he l b H.size
  have cw := cwI (own := y.1.cls) (index := idx) (y := y2.1) (bytes := y2.2.1) (maxL := y2.2.2.1) (ws := ng_ws y2) (ws' := ng_G) (rm := ng_bR d' mc ms) (mc := mc) (ms := ms) (R := R) n C.1.2.2.2.2 (ng_goodIn hm.1) (by rw [ng_ws, hm.2.2.2]) rfl rfl (C.1.2.2.2.2 _ hm.1.2.1) (C.1.2.2.2.2 _ hlink) (C.1.2.2.2.2 _ hm.2.1) hm.2.2.1 hm.1.2.2.1 ⟨by show d' + 1 ≤ R.frames; omega, by show 8 + (y2.2.2.1 + 11) + 40 * d' ≤ R.locals; omega⟩
  exact bb_after (va_runI (As := As) (rest := st) C.1 hM cw (bb_pre C hP) rfl hn hl.2.1 rfl (lv_room hst) hd ⟨by omega, by omega⟩) C fin hP hD hS hl k
theorem bb_callN {idx b n d' mc ms : Nat} {host : String} {y2 : ng_Y} {As : List Value} {e0 : va_E} {G : (Nat → Nat) → va_W} (hd : decode y.2.1 pc = .ok (.invokespecial idx, 3)) (hlink : (y.1.cls, idx, y2.1, host) ∈ ng_nm) (hm : ng_MI y2 n) (hn : As.length = n) (hst : (st.map fun v => v.category).sum ≤ 8) (he : ng_N ng_Z0 D cA y2 d' mc ms As e0 G) (hdd : d' ≤ d)
    (k : ∀ a : Nat → Nat, a 0 = b → ng_B Z D cA y (d + 1) (pc + 3) lv st (ww ++ G a) ck sk F) : ng_B Z D cA y (d + 1) pc lv (As.reverse ++ .ref b :: st) (ww ++ [(b, e0)]) (ck + mc) (sk + ms) F := by
  intro l A p e R s m args below meth c cells slots Q C fin H locs ls hP hD hS hl
  have hR := C.2.2.2.2.2.2
  have hmm := hm.1.2.2.2
  have hM := he l b H.size
  have cw : va_CN R s args y.1.cls idx y2.1 host y2.2.1 y2.2.2.1 none (ng_ws y2) (ng_bR d' mc ms) mc ms n ∧ y2.1.name = "<init>" ∧ (Cond.instanceMethod y2.1).before args s = true := ⟨va_cnB (ws' := ng_G) n C.1.2.2.2.2 (ng_goodIn hm.1) (by rw [ng_ws, hm.2.2.2]) rfl rfl (C.2.2.1 _ hlink) (C.1.2.2.2.2 _ hm.1.2.1) hm.1.2.2.1 ⟨by show d' + 1 ≤ R.frames; omega, by show 8 + (y2.2.2.1 + 11) + 40 * d' ≤ R.locals; omega⟩, hm.2.2.1, C.1.2.2.2.2 _ hm.2.1⟩
  exact bb_after (va_runIN (As := As) (rest := st) C.1 hM cw (bb_pre C hP) rfl hn hl.2.1 rfl (lv_room hst) hd ⟨by omega, by omega⟩) C fin hP hD hS hl k
theorem ng_N.of {mc ms : Nat} {as : List Value} {e0 : va_E} {G : (Nat → Nat) → va_W} {lf : Nat → ng_L} (hy : plainName y.1.cls = true) (hin : y.1.name = "<init>") (hret : y.2.2.2 = none) (hlen : ∀ h0, (lg_sl (.ref h0 :: as)).length ≤ y.2.2.1) (hlv : ∀ h0, ng_ent (.ref h0 :: as) y.2.2.1 = lf h0)
    (h : ∀ h0, ng_B Z D cA y d 0 (lf h0) [] [(h0, e0)] mc ms (fun w => ∃ a : Nat → Nat, a 0 = h0 ∧ w = G a)) : ng_N Z D cA y d mc ms as e0 G := by
  intro l h0 sz
  refine Met.ofW (cc := y.2.1) (maxL := y.2.2.1) (ret := y.2.2.2) hy rfl ?_
  intro p e s m args below meth c s₁ B hml hv
  obtain ⟨rfl, rfl, hP, hK, hN, hO, hZ⟩ := hv
  have hts := atoms_spec (ws := ng_ws y) B.pre
  have hown : s.vm.findClass y.1.cls = some m.cls := findClass_of_methodNamed B.named
  have hlocks := B.notSynchronized
  have hinn : meth.name = "<init>" := (name_of_methodNamed B.named B.method).1.trans hin
  have hD : va_D (va_A [(h0, e0)] s.heap.size) [(h0, e0)] := ⟨fun i j p q hi hj _ => by
    have hi1 := (List.getElem?_eq_some_iff.mp hi).1
    have hj1 := (List.getElem?_eq_some_iff.mp hj).1
    simp at hi1 hj1
    omega, fun k q hk => va_A.in hk⟩
  have hl0 := ng_ent_lh id (.ref h0 :: as) y.2.2.1 (hlen h0)
  rw [ng_vs_id, hlv h0] at hl0
  rw [lg_entry_eq]
  refine h h0 l (va_A [(h0, e0)] s.heap.size) p e (headSpec (ng_ws y) (ng_bR d mc ms)).room s m _ below meth c 0 0 _ ⟨⟨B.exec, B.bytes, hml, hown, fun w hw => hts w (List.mem_cons_of_mem _ hw)⟩, hK, hN, hO, fun q hq => Or.inr hq, hinn, Nat.le_refl _, Nat.le_refl _, by show 0 + mc ≤ mc; omega, by show 0 + ms ≤ ms; omega, hZ⟩ ?_ s.heap [] _ hP hD va_S.rf hl0
  intro w' H' locs' ls' pc' hF' hP' hD' hS' hr'
  obtain ⟨a, ha, rfl⟩ := hF'
  rw [Nat.zero_add, Nat.zero_add]
  exact W.vret B.exec B.bytes (B.returns.trans hret) (fun t ht hW => ⟨⟨a, rfl, ha, by rw [ht]; exact hP', hD'⟩, hS'.F ht⟩) (fun q hq => hS'.2.2 q hq) hr' hlocks
end NgB
