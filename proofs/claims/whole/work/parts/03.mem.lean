section NgMem
variable {X : Nat × (Nat → Int32)} {y : ng_Y} {d pc : Nat} {lv : ng_L} {st : List Value} {M : ng_M} {F : Option Value → ng_M → Prop}
/-- the entry idx of the class own names field f of the class number ci -/
def ng_FL (own : String) (idx ci f : Nat) : Prop := ∃ (C : String) (T : u_T) (N : Nat), vwCl[ci]? = some (C, T, N) ∧ f < N ∧ Cond.fieldLink own idx (T f).1 (T f).2.1 (T f).2.2.1 ∈ ng_G ∧ ∀ w ∈ u_ws C T N, w ∈ ng_G
def ng_FP (own : String) (idx ci f : Nat) (ty : FieldType) : Prop := ∃ (C : String) (T : u_T) (N : Nat) (ty0 : Nat → FieldType), vwCl[ci]? = some (C, T, N) ∧ f < N ∧ Cond.fieldLink own idx (T f).1 (T f).2.1 (T f).2.2.1 ∈ ng_G ∧ (∀ w ∈ u_ws C T N, w ∈ ng_G) ∧ (∀ k, k < N → parseFieldDescriptor (T k).2.2.1 = some (ty0 k)) ∧ (∀ a, a < N → ∀ b, b < N → a ≠ b → (T a).2.1 ≠ (T b).2.1) ∧ (T f).2.2.2 = false ∧ parseFieldDescriptor (T f).2.2.1 = some ty
theorem ng_getI {idx ci f k : Nat} {fs : List (Option Nat)} (hd : decode y.2.1 pc = .ok (.getfield idx, 3)) (hf : ng_FL y.1.cls idx ci f) (hs : ng_HS[k]? = some (.inl (ci, fs))) (hn : fs[f]? = some none) (kk : ng_Go X y d (pc + 3) lv (.int (M k f) :: st) M F) : ng_Go X y d pc lv (.ref k :: st) M F := by
  intro l D cA ad A p e R s m args below meth c cells slots Q C fin H locs ls hP hS hl
  obtain ⟨Cn, T, N, h1, h2, h3, h4⟩ := hf
  exact va_get C.1.1 C.1.2.1 C.1.2.2.2.2 h4 C.1.2.2.2.1 C.2.1 hP k (ng_wd_get hs) h1 f h2 (C.1.2.2.2.2 _ h3) (fun _ h => h) (ng_fs_int hn) hd (kk l D cA ad A p e R s m args below meth c cells slots Q C fin H locs ls hP hS hl)
theorem ng_getR {idx ci f k r : Nat} {fs : List (Option Nat)} (hd : decode y.2.1 pc = .ok (.getfield idx, 3)) (hf : ng_FL y.1.cls idx ci f) (hs : ng_HS[k]? = some (.inl (ci, fs))) (hn : fs[f]? = some (some r)) (kk : ng_Go X y d (pc + 3) lv (.ref r :: st) M F) : ng_Go X y d pc lv (.ref k :: st) M F := by
  intro l D cA ad A p e R s m args below meth c cells slots Q C fin H locs ls hP hS hl
  obtain ⟨Cn, T, N, h1, h2, h3, h4⟩ := hf
  exact va_get C.1.1 C.1.2.1 C.1.2.2.2.2 h4 C.1.2.2.2.1 C.2.1 hP k (ng_wd_get hs) h1 f h2 (C.1.2.2.2.2 _ h3) (fun _ h => h) (ng_fs_ref hn) hd (kk l D cA ad A p e R s m args below meth c cells slots Q C fin H locs ls hP hS hl)
theorem ng_put {idx ci f k : Nat} {fs : List (Option Nat)} {v : Int32} {ty : FieldType} (hd : decode y.2.1 pc = .ok (.putfield idx, 3)) (hf : ng_FP y.1.cls idx ci f ty) (hs : ng_HS[k]? = some (.inl (ci, fs))) (hn : fs[f]? = some none) (hv : narrow ty (.int v) = .int v) (hft : fits ty (.int v) = true) (kk : ng_Go X y d (pc + 3) lv st (ng_row M k (upd (M k) f v)) F) : ng_Go X y d pc lv (.int v :: .ref k :: st) M F := by
  intro l D cA ad A p e R s m args below meth c cells slots Q C fin H locs ls hP hS hl
  obtain ⟨Cn, T, N, ty0, h1, h2, h3, h4, h5, h6, h7, h8⟩ := hf
  refine va_put C.1.1 C.1.2.1 C.1.2.2.2.2 h4 ty0 h5 h6 C.1.2.2.2.1 C.2.1 hP (C.2.2.2.1 M) hS k (ng_wd_get hs) h1 f h2 (C.1.2.2.2.2 _ h3) (fun _ h => h) h7 h8 hv hft (List.getElem?_eq_some_iff.mp (ng_fs_int hn)).1 hd (fun H1 locs1 hP1 _ hS1 => ?_)
  have hP1 : va_P D vwCl ((ng_wd cA ad M).set k (ad k, .inr (ci, (ng_fs ad (M k) fs).set f (.int v)))) H1 := hP1
  rw [ng_wd_set (cA := cA) (ad := ad) (M := M) (g := upd (M k) f v) (e := .inr (ci, (ng_fs ad (M k) fs).set f (.int v))) hs (by rw [ng_fs_set hn]; rfl)] at hP1
  exact kk l D cA ad A p e R s m args below meth c cells slots Q C fin H1 locs1 ls hP1 hS1 hl
theorem ng_iald {k n : Nat} {i : Int32} (hd : decode y.2.1 pc = .ok (.iaload, 1)) (hs : ng_HS[k]? = some (.inr (.inl n))) (hin : vp_in i n) (kk : ng_Go X y d (pc + 1) lv (.int (M k i.toNatClampNeg) :: st) M F) : ng_Go X y d pc lv (.int i :: .ref k :: st) M F := by
  intro l D cA ad A p e R s m args below meth c cells slots Q C fin H locs ls hP hS hl
  exact va_iald C.1.1 C.1.2.1 C.2.1 hP k 0 (ng_wd_get hs) rfl hin hd (kk l D cA ad A p e R s m args below meth c cells slots Q C fin H locs ls hP hS hl)
theorem ng_iast {k n : Nat} {i v : Int32} (hd : decode y.2.1 pc = .ok (.iastore, 1)) (hs : ng_HS[k]? = some (.inr (.inl n))) (hin : vp_in i n) (kk : ng_Go X y d (pc + 1) lv st (ng_row M k (upd (M k) i.toNatClampNeg v)) F) : ng_Go X y d pc lv (.int v :: .int i :: .ref k :: st) M F := by
  intro l D cA ad A p e R s m args below meth c cells slots Q C fin H locs ls hP hS hl
  refine va_iast C.1.1 C.1.2.1 C.2.1 hP (C.2.2.2.1 M) hS k 0 (ng_wd_get hs) rfl hin hd (fun H1 locs1 hP1 _ hS1 => ?_)
  rw [ng_wd_set (cA := cA) (ad := ad) (M := M) (g := upd (M k) i.toNatClampNeg v) (e := .inl (cA 0, n, .inl (upd (M k) i.toNatClampNeg v))) hs rfl] at hP1
  exact kk l D cA ad A p e R s m args below meth c cells slots Q C fin H1 locs1 ls hP1 hS1 hl
theorem ng_alen {k n : Nat} (hd : decode y.2.1 pc = .ok (.arraylength, 1)) (hs : ng_HS[k]? = some (.inr (.inl n))) (kk : ng_Go X y d (pc + 1) lv (.int (Int32.ofNat n) :: st) M F) : ng_Go X y d pc lv (.ref k :: st) M F := by
  intro l D cA ad A p e R s m args below meth c cells slots Q C fin H locs ls hP hS hl
  exact va_alen C.1.1 C.1.2.1 C.2.1 hP k 0 (ng_wd_get hs) rfl rfl hd (kk l D cA ad A p e R s m args below meth c cells slots Q C fin H locs ls hP hS hl)
theorem ng_alenR {k n t : Nat} {f : Nat → Option Nat} (hd : decode y.2.1 pc = .ok (.arraylength, 1)) (hs : ng_HS[k]? = some (.inr (.inr (n, t, f)))) (ht : t = 1 ∨ t = 2 ∨ t = 3) (kk : ng_Go X y d (pc + 1) lv (.int (Int32.ofNat n) :: st) M F) : ng_Go X y d pc lv (.ref k :: st) M F := by
  intro l D cA ad A p e R s m args below meth c cells slots Q C fin H locs ls hP hS hl
  rcases ht with rfl | rfl | rfl
  · exact va_alen C.1.1 C.1.2.1 C.2.1 hP k 1 (ng_wd_get hs) rfl rfl hd (kk l D cA ad A p e R s m args below meth c cells slots Q C fin H locs ls hP hS hl)
  · exact va_alen C.1.1 C.1.2.1 C.2.1 hP k 2 (ng_wd_get hs) rfl rfl hd (kk l D cA ad A p e R s m args below meth c cells slots Q C fin H locs ls hP hS hl)
  · exact va_alen C.1.1 C.1.2.1 C.2.1 hP k 3 (ng_wd_get hs) rfl rfl hd (kk l D cA ad A p e R s m args below meth c cells slots Q C fin H locs ls hP hS hl)
theorem ng_aald {k n t r : Nat} {i : Int32} {f : Nat → Option Nat} (hd : decode y.2.1 pc = .ok (.aaload, 1)) (hs : ng_HS[k]? = some (.inr (.inr (n, t, f)))) (ht : t = 1 ∨ t = 2 ∨ t = 3) (hin : vp_in i n) (hr : f i.toNatClampNeg = some r) (kk : ng_Go X y d (pc + 1) lv (.ref r :: st) M F) : ng_Go X y d pc lv (.int i :: .ref k :: st) M F := by
  intro l D cA ad A p e R s m args below meth c cells slots Q C fin H locs ls hP hS hl
  have k2 := kk l D cA ad A p e R s m args below meth c cells slots Q C fin H locs ls hP hS hl
  have e1 : va_rf ((f i.toNatClampNeg).map ad) = .ref (ad r) := by rw [hr]; rfl
  rcases ht with rfl | rfl | rfl
  · exact va_aldq C.1.1 C.1.2.1 C.2.1 hP k 1 (ng_wd_get hs) rfl hin hd (by dsimp only; rw [e1]; exact k2)
  · exact va_aldq C.1.1 C.1.2.1 C.2.1 hP k 2 (ng_wd_get hs) rfl hin hd (by dsimp only; rw [e1]; exact k2)
  · exact va_aldq C.1.1 C.1.2.1 C.2.1 hP k 3 (ng_wd_get hs) rfl hin hd (by dsimp only; rw [e1]; exact k2)
theorem ng_gets {idx : Nat} {C0 n0 d0 : String} {v : Value} (hd : decode y.2.1 pc = .ok (.getstatic idx, 3)) (hq : (C0, n0, d0, v) ∈ ng_stats) (hf : Cond.fieldLink y.1.cls idx C0 n0 d0 ∈ ng_G) (kk : ng_Go X y d (pc + 3) lv (v :: st) M F) : ng_Go X y d pc lv st M F := by
  intro l D cA ad A p e R s m args below meth c cells slots Q C fin H locs ls hP hS hl
  exact va_gets C.1.1 C.1.2.1 (C.2.2.1.2.2.1 _ hq) hS C.1.2.2.2.1 (C.1.2.2.2.2 _ hf) (fun _ h => h) hd (kk l D cA ad A p e R s m args below meth c cells slots Q C fin H locs ls hP hS hl)
theorem ng_getsQ {idx : Nat} (hd : decode y.2.1 pc = .ok (.getstatic idx, 3)) (hf : Cond.fieldLink y.1.cls idx "jdk/internal/util/Preconditions" "SIOOBE_FORMATTER" "Ljava/util/function/BiFunction;" ∈ ng_G) (k0 : ng_Go X y d (pc + 3) lv (.null :: st) M F) (k1 : ng_Go X y d (pc + 3) lv (.ref 1020 :: st) M F) : ng_Go X y d pc lv st M F := by
  intro l D cA ad A p e R s m args below meth c cells slots Q C fin H locs ls hP hS hl
  rcases C.2.2.1.2.2.2.2.2 with z | z
  · exact va_gets C.1.1 C.1.2.1 z hS C.1.2.2.2.1 (C.1.2.2.2.2 _ hf) (fun _ h => h) hd (k0 l D cA ad A p e R s m args below meth c cells slots Q C fin H locs ls hP hS hl)
  · exact va_gets C.1.1 C.1.2.1 z hS C.1.2.2.2.1 (C.1.2.2.2.2 _ hf) (fun _ h => h) hd (k1 l D cA ad A p e R s m args below meth c cells slots Q C fin H locs ls hP hS hl)
theorem ng_getsN {idx : Nat} {C0 n0 d0 host : String} {v : Value} (hd : decode y.2.1 pc = .ok (.getstatic idx, 3)) (hq : (C0, n0, d0, v) ∈ ng_stats) (hf : (y.1.cls, idx, C0, n0, d0, host) ∈ ng_nf) (kk : ng_Go X y d (pc + 3) lv (v :: st) M F) : ng_Go X y d pc lv st M F := by
  intro l D cA ad A p e R s m args below meth c cells slots Q C fin H locs ls hP hS hl
  exact va_getsN C.1.1 C.1.2.1 (C.2.2.1.2.2.1 _ hq) hS C.1.2.2.2.1 (va_Nw.use rfl (C.2.2.1.2.1 _ hf)) (fun _ h => h) hd (kk l D cA ad A p e R s m args below meth c cells slots Q C fin H locs ls hP hS hl)
theorem ng_kld {k n : Nat} {i : Int32} {f : Nat → Int32} (hd : decode y.2.1 pc = .ok (.iaload, 1)) (hk : (ng_kst X)[k]? = some (.int, n, f)) (hin : vp_in i n) (kk : ng_Go X y d (pc + 1) lv (.int (f i.toNatClampNeg) :: st) M F) : ng_Go X y d pc lv (.int i :: .ref (1000 + k) :: st) M F := by
  intro l D cA ad A p e R s m args below meth c cells slots Q C fin H locs ls hP hS hl
  exact va_ti C.1.1 C.1.2.1 (C.2.2.1.2.2.2.1 _ _ hk) hS hin rfl hd (kk l D cA ad A p e R s m args below meth c cells slots Q C fin H locs ls hP hS hl)
theorem ng_kldc {k n : Nat} {i : Int32} {f : Nat → Int32} (hd : decode y.2.1 pc = .ok (.caload, 1)) (hk : (ng_kst X)[k]? = some (.char, n, f)) (hin : vp_in i n) (kk : ng_Go X y d (pc + 1) lv (.int (f i.toNatClampNeg) :: st) M F) : ng_Go X y d pc lv (.int i :: .ref (1000 + k) :: st) M F := by
  intro l D cA ad A p e R s m args below meth c cells slots Q C fin H locs ls hP hS hl
  exact va_tc C.1.1 C.1.2.1 (C.2.2.1.2.2.2.1 _ _ hk) hS hin rfl hd (kk l D cA ad A p e R s m args below meth c cells slots Q C fin H locs ls hP hS hl)
theorem ng_kldb {k n : Nat} {i : Int32} {f : Nat → Int32} (hd : decode y.2.1 pc = .ok (.baload, 1)) (hk : (ng_kst X)[k]? = some (.byte, n, f)) (hin : vp_in i n) (kk : ng_Go X y d (pc + 1) lv (.int (f i.toNatClampNeg) :: st) M F) : ng_Go X y d pc lv (.int i :: .ref (1000 + k) :: st) M F := by
  intro l D cA ad A p e R s m args below meth c cells slots Q C fin H locs ls hP hS hl
  exact va_tb C.1.1 C.1.2.1 (C.2.2.1.2.2.2.1 _ _ hk) hS hin rfl hd (kk l D cA ad A p e R s m args below meth c cells slots Q C fin H locs ls hP hS hl)
theorem ng_klen {k n : Nat} {f : Nat → Int32} {ty : FieldType} (hd : decode y.2.1 pc = .ok (.arraylength, 1)) (hk : (ng_kst X)[k]? = some (ty, n, f)) (kk : ng_Go X y d (pc + 1) lv (.int (Int32.ofNat n) :: st) M F) : ng_Go X y d pc lv (.ref (1000 + k) :: st) M F := by
  intro l D cA ad A p e R s m args below meth c cells slots Q C fin H locs ls hP hS hl
  exact va_tlen C.1.1 C.1.2.1 (C.2.2.1.2.2.2.1 _ _ hk) hS rfl hd (kk l D cA ad A p e R s m args below meth c cells slots Q C fin H locs ls hP hS hl)
theorem ng_kget {idx k : Nat} {o0 n0 d0 : String} {v : Value} (hd : decode y.2.1 pc = .ok (.getfield idx, 3)) (hq : (o0, n0, d0, v, k) ∈ ng_ofs) (hf : Cond.fieldLink y.1.cls idx o0 n0 d0 ∈ ng_G) (kk : ng_Go X y d (pc + 3) lv (v :: st) M F) : ng_Go X y d pc lv (.ref k :: st) M F := by
  intro l D cA ad A p e R s m args below meth c cells slots Q C fin H locs ls hP hS hl
  exact vk_getf C.1.1 C.1.2.1 (C.2.2.1.2.2.2.2.1 _ hq).1 hS C.1.2.2.2.1 (C.1.2.2.2.2 _ hf) (fun _ h => h) hd (kk l D cA ad A p e R s m args below meth c cells slots Q C fin H locs ls hP hS hl)
theorem ng_arraycopy {idx k0 k1 n0 n1 : Nat} {sp dp n : Int32} (hd : decode y.2.1 pc = .ok (.invokestatic idx, 3)) (hlink : Cond.methodLink y.1.cls idx arraycopyName ∈ ng_G) (hnat : Cond.native arraycopyName ∈ ng_G) (hstat : Cond.static arraycopyName ∈ ng_G) (hini : Cond.initialized "java/lang/System" ∈ ng_G)
    (hs0 : ng_HS[k0]? = some (.inr (.inl n0))) (hs1 : ng_HS[k1]? = some (.inr (.inl n1))) (h1 : ¬ sp < 0) (h2 : ¬ dp < 0) (h3 : ¬ n < 0) (h4 : sp.toNatClampNeg + n.toNatClampNeg ≤ n0) (h5 : dp.toNatClampNeg + n.toNatClampNeg ≤ n1) (hst : (st.map fun v => v.category).sum ≤ 8)
    (kk : ng_Go X y (d + 1) (pc + 3) lv st (ng_row M k1 (va_cpy (M k0) (M k1) sp.toNatClampNeg dp.toNatClampNeg n.toNatClampNeg)) F) : ng_Go X y (d + 1) pc lv (.int n :: .int dp :: .ref k1 :: .int sp :: .ref k0 :: st) M F := by
  intro l D cA ad A p e R s m args below meth c cells slots Q C fin H locs ls hP hS hl
  have hc8 : ((st.map (ng_v ad)).map fun v => v.category).sum ≤ 8 := by
    rw [List.map_map, show ((fun v : Value => v.category) ∘ ng_v ad) = fun v => v.category from funext (ng_v_cat ad)]
    exact hst
  have hR := C.2.2.2.2
  have hnw : nativeFrameWords "java/lang/System" "arraycopy" 5 + 11 ≤ 32 := by decide +kernel
  refine va_copyi C.1.1 C.1.2.1 (C.1.2.2.1.trans hl.2.1.symm) C.1.2.2.2.1 (C.1.2.2.2.2 _ hlink) (C.1.2.2.2.2 _ hnat) (C.1.2.2.2.2 _ hstat) (C.1.2.2.2.2 _ hini) C.2.1 hP (C.2.2.2.1 M) hS k0 k1 0 0 (ng_wd_get hs0) (ng_wd_get hs1) rfl rfl rfl h1 h2 h3 h4 h5 (fun _ _ => rfl) (by omega) (by omega) hd (fun H1 locs1 hP1 _ hS1 => ?_)
  rw [ng_wd_set (cA := cA) (ad := ad) (M := M) (g := va_cpy (M k0) (M k1) sp.toNatClampNeg dp.toNatClampNeg n.toNatClampNeg) (e := .inl (cA 0, n1, .inl (va_cpy (M k0) (M k1) sp.toNatClampNeg dp.toNatClampNeg n.toNatClampNeg))) hs1 rfl] at hP1
  exact kk l D cA ad A p e R s m args below meth c cells slots Q C fin H1 locs1 ls hP1 hS1 hl
theorem ng_mmax {idx : Nat} {a b : Int32} (hd : decode y.2.1 pc = .ok (.invokestatic idx, 3)) (hlink : Cond.methodLink y.1.cls idx Lib.Math.max.name ∈ ng_G) (hstat : Cond.static Lib.Math.max.name ∈ ng_G) (hini : Cond.initialized "java/lang/Math" ∈ ng_G) (hcode : Cond.code Lib.Math.max.name Lib.Math.max.code 2 (some .int) ∈ ng_G) (hst : (st.map fun v => v.category).sum ≤ 8)
    (kk : ng_Go X y (d + 1) (pc + 3) lv (.int (if a < b then b else a) :: st) M F) : ng_Go X y (d + 1) pc lv (.int b :: .int a :: st) M F := by
  intro l D cA ad A p e R s m args below meth c cells slots Q C fin H locs ls hP hS hl
  have hc8 : ((st.map (ng_v ad)).map fun v => v.category).sum ≤ 8 := by
    rw [List.map_map, show ((fun v : Value => v.category) ∘ ng_v ad) = fun v => v.category from funext (ng_v_cat ad)]
    exact hst
  have hR := C.2.2.2.2
  exact va_mmax C.1.1 C.1.2.1 (C.1.2.2.1.trans hl.2.1.symm) C.1.2.2.2.1 (C.1.2.2.2.2 _ hlink) (C.1.2.2.2.2 _ hstat) (C.1.2.2.2.2 _ hini) (C.1.2.2.2.2 _ hcode) (by omega) (by omega) hR.2.2.1 hR.2.2.2 hd (kk l D cA ad A p e R s m args below meth c cells slots Q C fin H locs ls hP hS hl)
theorem ng_mmin {idx : Nat} {a b : Int32} (hd : decode y.2.1 pc = .ok (.invokestatic idx, 3)) (hlink : Cond.methodLink y.1.cls idx Lib.Math.min.name ∈ ng_G) (hstat : Cond.static Lib.Math.min.name ∈ ng_G) (hini : Cond.initialized "java/lang/Math" ∈ ng_G) (hcode : Cond.code Lib.Math.min.name Lib.Math.min.code 2 (some .int) ∈ ng_G) (hst : (st.map fun v => v.category).sum ≤ 8)
    (kk : ng_Go X y (d + 1) (pc + 3) lv (.int (if b < a then b else a) :: st) M F) : ng_Go X y (d + 1) pc lv (.int b :: .int a :: st) M F := by
  intro l D cA ad A p e R s m args below meth c cells slots Q C fin H locs ls hP hS hl
  have hc8 : ((st.map (ng_v ad)).map fun v => v.category).sum ≤ 8 := by
    rw [List.map_map, show ((fun v : Value => v.category) ∘ ng_v ad) = fun v => v.category from funext (ng_v_cat ad)]
    exact hst
  have hR := C.2.2.2.2
  exact va_mmin C.1.1 C.1.2.1 (C.1.2.2.1.trans hl.2.1.symm) C.1.2.2.2.1 (C.1.2.2.2.2 _ hlink) (C.1.2.2.2.2 _ hstat) (C.1.2.2.2.2 _ hini) (C.1.2.2.2.2 _ hcode) (by omega) (by omega) hR.2.2.1 hR.2.2.2 hd (kk l D cA ad A p e R s m args below meth c cells slots Q C fin H locs ls hP hS hl)
theorem ng_mmaxl {idx : Nat} {a b : Int64} (hd : decode y.2.1 pc = .ok (.invokestatic idx, 3)) (hlink : Cond.methodLink y.1.cls idx Lib.MathLoose.max_long.x ∈ ng_G) (hstat : Cond.static Lib.MathLoose.max_long.x ∈ ng_G) (hini : Cond.initialized "java/lang/Math" ∈ ng_G) (hcode : Cond.code Lib.MathLoose.max_long.x Lib.MathLoose.max_long.code 4 (some .long) ∈ ng_G) (hst : (st.map fun v => v.category).sum ≤ 8)
    (kk : ng_Go X y (d + 1) (pc + 3) lv (.long (if b < a then a else b) :: st) M F) : ng_Go X y (d + 1) pc lv (.long b :: .long a :: st) M F := by
  intro l D cA ad A p e R s m args below meth c cells slots Q C fin H locs ls hP hS hl
  have hc8 : ((st.map (ng_v ad)).map fun v => v.category).sum ≤ 8 := by
    rw [List.map_map, show ((fun v : Value => v.category) ∘ ng_v ad) = fun v => v.category from funext (ng_v_cat ad)]
    exact hst
  have hR := C.2.2.2.2
  exact va_mmax_long C.1.1 C.1.2.1 (C.1.2.2.1.trans hl.2.1.symm) C.1.2.2.2.1 (C.1.2.2.2.2 _ hlink) (C.1.2.2.2.2 _ hstat) (C.1.2.2.2.2 _ hini) (C.1.2.2.2.2 _ hcode) (by omega) (by omega) hR.2.2.1 hR.2.2.2 hd (kk l D cA ad A p e R s m args below meth c cells slots Q C fin H locs ls hP hS hl)
theorem ng_mminl {idx : Nat} {a b : Int64} (hd : decode y.2.1 pc = .ok (.invokestatic idx, 3)) (hlink : Cond.methodLink y.1.cls idx Lib.MathLoose.min_long.x ∈ ng_G) (hstat : Cond.static Lib.MathLoose.min_long.x ∈ ng_G) (hini : Cond.initialized "java/lang/Math" ∈ ng_G) (hcode : Cond.code Lib.MathLoose.min_long.x Lib.MathLoose.min_long.code 4 (some .long) ∈ ng_G) (hst : (st.map fun v => v.category).sum ≤ 8)
    (kk : ng_Go X y (d + 1) (pc + 3) lv (.long (if b < a then b else a) :: st) M F) : ng_Go X y (d + 1) pc lv (.long b :: .long a :: st) M F := by
  intro l D cA ad A p e R s m args below meth c cells slots Q C fin H locs ls hP hS hl
  have hc8 : ((st.map (ng_v ad)).map fun v => v.category).sum ≤ 8 := by
    rw [List.map_map, show ((fun v : Value => v.category) ∘ ng_v ad) = fun v => v.category from funext (ng_v_cat ad)]
    exact hst
  have hR := C.2.2.2.2
  exact va_mmin_long C.1.1 C.1.2.1 (C.1.2.2.1.trans hl.2.1.symm) C.1.2.2.2.1 (C.1.2.2.2.2 _ hlink) (C.1.2.2.2.2 _ hstat) (C.1.2.2.2.2 _ hini) (C.1.2.2.2.2 _ hcode) (by omega) (by omega) hR.2.2.1 hR.2.2.2 hd (kk l D cA ad A p e R s m args below meth c cells slots Q C fin H locs ls hP hS hl)
theorem ng_ireturn {v : Int32} (hd : decode y.2.1 pc = .ok (.ireturn, 1)) (h : F (some (.int v)) M) : ng_Go X y d pc lv [.int v] M F := by
  intro l D cA ad A p e R s m args below meth c cells slots Q C fin H locs ls hP hS hl
  exact fin _ _ _ _ _ _ h hP hS (Or.inl ⟨v, rfl, hd⟩)
theorem ng_return (hd : decode y.2.1 pc = .ok (.return_, 1)) (h : F none M) : ng_Go X y d pc lv [] M F := by
  intro l D cA ad A p e R s m args below meth c cells slots Q C fin H locs ls hP hS hl
  exact fin _ _ _ _ _ _ h hP hS (Or.inr (Or.inl ⟨rfl, hd⟩))
theorem ng_areturn {k : Nat} (hd : decode y.2.1 pc = .ok (.areturn, 1)) (h : F (some (.ref k)) M) : ng_Go X y d pc lv [.ref k] M F := by
  intro l D cA ad A p e R s m args below meth c cells slots Q C fin H locs ls hP hS hl
  exact fin _ _ _ _ _ _ h hP hS (Or.inr (Or.inr ⟨Or.inr ⟨k, rfl⟩, hd⟩))
theorem ng_areturnN (hd : decode y.2.1 pc = .ok (.areturn, 1)) (h : F (some .null) M) : ng_Go X y d pc lv [.null] M F := by
  intro l D cA ad A p e R s m args below meth c cells slots Q C fin H locs ls hP hS hl
  exact fin _ _ _ _ _ _ h hP hS (Or.inr (Or.inr ⟨Or.inl rfl, hd⟩))
end NgMem
