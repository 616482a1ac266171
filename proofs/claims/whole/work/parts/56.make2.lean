theorem ng_nd_of {A : Nat → Prop} {w : va_W} (h : va_D A w) : (w.map Prod.fst).Nodup := by
  rw [List.nodup_iff_pairwise_ne, List.pairwise_iff_getElem]
  intro i j hi hj hij e
  rw [List.length_map] at hi hj
  rw [List.getElem_map, List.getElem_map] at e
  have z := h.1 i j _ _ (List.getElem?_eq_getElem hi) (List.getElem?_eq_getElem hj) e
  omega
theorem ng_D_perm {A : Nat → Prop} {w w2 : va_W} (hp : w.Perm w2) (h : va_D A w) : va_D A w2 := by
  have hn : (w2.map Prod.fst).Nodup := (hp.map Prod.fst).nodup_iff.mp (ng_nd_of h)
  rw [List.nodup_iff_pairwise_ne, List.pairwise_iff_getElem] at hn
  refine ⟨fun i j p q hi hj e => ?_, fun k q hk => ?_⟩
  · obtain ⟨hi1, hi2⟩ := List.getElem?_eq_some_iff.mp hi
    obtain ⟨hj1, hj2⟩ := List.getElem?_eq_some_iff.mp hj
    have e2 : (w2[i]'hi1).1 = (w2[j]'hj1).1 := by rw [hi2, hj2]; exact e
    rcases Nat.lt_trichotomy i j with z | z | z
    · exact absurd (by rw [List.getElem_map, List.getElem_map]; exact e2) (hn i j (by rw [List.length_map]; exact hi1) (by rw [List.length_map]; exact hj1) z)
    · exact z
    · exact absurd (by rw [List.getElem_map, List.getElem_map]; exact e2.symm) (hn j i (by rw [List.length_map]; exact hj1) (by rw [List.length_map]; exact hi1) z)
  · obtain ⟨j, hj⟩ := List.getElem?_of_mem (hp.mem_iff.mpr (List.mem_of_getElem? hk))
    exact h.2 j q hj
theorem ng_P_perm {D : va_G} {H : Heap} {w w2 : va_W} (hp : w.Perm w2) (h : va_P D vwCl w H) : va_P D vwCl w2 H := fun k q hk => by
  obtain ⟨j, hj⟩ := List.getElem?_of_mem (hp.mem_iff.mpr (List.mem_of_getElem? hk))
  exact h j q hj
theorem bb_perm {Z : (Nat → Prop) → State → Prop} {D : va_G} {cA : Nat → ClassId} {y : ng_Y} {d pc : Nat} {lv : ng_L} {st : List Value} {ww w2 : va_W} {ck sk : Nat} {F : va_W → Prop} (hp : ww.Perm w2) (k : ng_B Z D cA y d pc lv st w2 ck sk F) : ng_B Z D cA y d pc lv st ww ck sk F := by
  intro l A p e R s m args below meth c cells slots Q C fin H locs ls hP hD hS hl
  exact k l A p e R s m args below meth c cells slots Q C fin H locs ls (ng_P_perm hp hP) (ng_D_perm hp hD) hS hl
theorem bb_fr {Z : (Nat → Prop) → State → Prop} {D : va_G} {cA : Nat → ClassId} {y : ng_Y} {d pc : Nat} {lv : ng_L} {st : List Value} {f R : va_W} {x : Nat × va_E} {ck sk : Nat} {F : va_W → Prop} (k : ng_B Z D cA y d pc lv st ((f ++ [x]) ++ R) ck sk F) : ng_B Z D cA y d pc lv st ((f ++ R) ++ [x]) ck sk F :=
  bb_perm (by
    rw [List.append_assoc, List.append_assoc]
    exact List.perm_append_comm.append_left f) k
theorem bb_cmb {Z : (Nat → Prop) → State → Prop} {D : va_G} {cA : Nat → ClassId} {y : ng_Y} {d pc : Nat} {lv : ng_L} {st : List Value} {f R G : va_W} {ck sk : Nat} {F : va_W → Prop} (k : ng_B Z D cA y d pc lv st (f ++ (G ++ R)) ck sk F) : ng_B Z D cA y d pc lv st ((f ++ R) ++ G) ck sk F :=
  bb_perm (by
    rw [List.append_assoc]
    exact List.perm_append_comm.append_left f) k
theorem ng_perm8 {α : Type} {h s f : α} {A B C D E S0 S1 S2 S3 : List α} : (([h, s, f] : List α) ++ (S3 ++ (S2 ++ (S1 ++ (S0 ++ (E ++ (D ++ (C ++ (B ++ (A ++ ([] : List α))))))))))).Perm (([h] : List α) ++ A ++ B ++ C ++ D ++ E ++ [s] ++ S0 ++ S1 ++ S2 ++ S3 ++ [f]) := by
  classical
  refine List.perm_iff_count.mpr (fun x => ?_)
  simp only [List.count_append, List.count_cons, List.count_nil]
  omega
theorem ng_G0c {cA : Nat → ClassId} {f g : Nat → Nat} (h : ∀ i, i < 4 → f i = g i) : ng_G0 cA f = ng_G0 cA g := by
  unfold ng_G0
  rw [h 0 (by decide), h 1 (by decide), h 2 (by decide), h 3 (by decide)]
theorem ng_G5c {cA : Nat → ClassId} {r : Nat} {f g : Nat → Nat} (h : ∀ i, i < 3 → f i = g i) : ng_G5 cA r f = ng_G5 cA r g := by
  unfold ng_G5
  rw [h 0 (by decide), h 1 (by decide), h 2 (by decide)]
theorem ng_G6c {cA : Nat → ClassId} {f g : Nat → Nat} (h : ∀ i, i < 2 → f i = g i) : ng_G6 cA f = ng_G6 cA g := by
  unfold ng_G6
  rw [h 0 (by decide), h 1 (by decide)]
theorem ng_G4c {cA : Nat → ClassId} {f g : Nat → Nat} (h : ∀ i, i < 2 → f i = g i) : ng_G4 cA f = ng_G4 cA g := by
  unfold ng_G4
  rw [h 0 (by decide), h 1 (by decide)]
theorem ng_G2c {cA : Nat → ClassId} {f g : Nat → Nat} (h : ∀ i, i < 3 → f i = g i) : ng_G2 cA f = ng_G2 cA g := by
  unfold ng_G2
  rw [h 0 (by decide), h 1 (by decide), h 2 (by decide)]
theorem ng_G3c {cA : Nat → ClassId} {f g : Nat → Nat} (h : ∀ i, i < 13 → f i = g i) : ng_G3 cA f = ng_G3 cA g := by
  unfold ng_G3
  rw [ng_G0c (f := fun i => f (5 + i)) (g := fun i => g (5 + i)) (fun i hi => h _ (by omega)), ng_G0c (f := fun i => f (9 + i)) (g := fun i => g (9 + i)) (fun i hi => h _ (by omega)), h 0 (by decide), h 1 (by decide), h 2 (by decide), h 3 (by decide), h 4 (by decide), h 5 (by decide), h 9 (by decide)]
theorem ng_G7c {cA : Nat → ClassId} {f g : Nat → Nat} (h : ∀ i, i < 19 → f i = g i) : ng_G7 cA f = ng_G7 cA g := by
  unfold ng_G7
  rw [ng_G3c (f := fun i => f (1 + i)) (g := fun i => g (1 + i)) (fun i hi => h _ (by omega)), ng_G5c (f := fun i => f (14 + i)) (g := fun i => g (14 + i)) (fun i hi => h _ (by omega)), h 0 (by decide), h 1 (by decide), h 14 (by decide), h 17 (by decide), h 18 (by decide)]
theorem ng_G1c {cA : Nat → ClassId} {r : Nat} {f g : Nat → Nat} (h : ∀ i, i < 19 → f i = g i) : ng_G1 cA r f = ng_G1 cA r g := by
  unfold ng_G1
  rw [ng_G5c (f := fun i => f (2 + i)) (g := fun i => g (2 + i)) (fun i hi => h _ (by omega)), ng_G5c (f := fun i => f (5 + i)) (g := fun i => g (5 + i)) (fun i hi => h _ (by omega)), ng_G5c (f := fun i => f (8 + i)) (g := fun i => g (8 + i)) (fun i hi => h _ (by omega)), ng_G5c (f := fun i => f (11 + i)) (g := fun i => g (11 + i)) (fun i hi => h _ (by omega)), ng_G5c (f := fun i => f (14 + i)) (g := fun i => g (14 + i)) (fun i hi => h _ (by omega)), h 0 (by decide), h 1 (by decide), h 2 (by decide), h 5 (by decide), h 8 (by decide), h 11 (by decide), h 14 (by decide), h 17 (by decide), h 18 (by decide)]
set_option maxHeartbeats 4000000 in
theorem n_X8 {D : va_G} {cA : Nat → ClassId} : ng_N ng_Z0 D cA mi_X8_init 4 72 1215 [] (.inr (8, [.null, .null, .null, .null, .null, .null, .null, .int 0])) (ng_G8 cA) := by
  refine ng_N.of (lf := fun h0 => [some (.ref h0), none]) (by decide) rfl rfl (fun _ => Nat.le_of_ble_eq_true rfl) (fun _ => rfl) (fun h0 => ?_)
  refine bb_eq (w2 := ([(h0, .inr (8, [.null, .null, .null, .null, .null, .null, .null, .int 0]))] : va_W) ++ ([] : va_W)) rfl ?_
  refine bb_aload_0 dX8_init_0 ?_
  refine bb_obj dX8_init_1 lo_X8 (Nat.le_of_ble_eq_true rfl) (by decide) ?_
  refine bb_aload_0 dX8_init_4 ?_
  refine bb_new (N := 8) (ck := 71) (sk := 1207) [.null, .null, .null, .null, .int 0, .int 0, .int 0, .int 0] dX8_init_5 cl_X8_9 (by decide) (fun q1 => ?_)
  refine bb_dup dX8_init_8 rfl ?_
  refine bb_callN (host := "NinePots") (ww := ([(h0, .inr (8, [.null, .null, .null, .null, .null, .null, .null, .int 0]))] : va_W) ++ ([] : va_W)) (ck := 53) (sk := 852) (y2 := mi_X7_init) (As := []) dX8_init_9 (by decide) mj_X7_init rfl (Nat.le_of_ble_eq_true rfl) n_X7 (by decide) (fun a1 ha => ?_)
  subst ha
  refine bb_cmb ?_
  refine bb_putF 0 dX8_init_12 ff_X8_12 rfl rfl rfl (Nat.le_of_ble_eq_true rfl) ?_
  refine bb_eq (w2 := ([(h0, .inr (8, [.ref (a1 0), .null, .null, .null, .null, .null, .null, .int 0]))] : va_W) ++ (ng_G7 cA a1 ++ ([] : va_W))) rfl ?_
  refine bb_aload_0 dX8_init_15 ?_
  refine bb_new (N := 8) (ck := 52) (sk := 844) [.null, .null, .null, .null, .int 0, .int 0, .int 0, .int 0] dX8_init_16 cl_X8_9 (by decide) (fun q2 => ?_)
  refine bb_dup dX8_init_19 rfl ?_
  refine bb_callN (host := "NinePots") (ww := ([(h0, .inr (8, [.ref (a1 0), .null, .null, .null, .null, .null, .null, .int 0]))] : va_W) ++ (ng_G7 cA a1 ++ ([] : va_W))) (ck := 34) (sk := 489) (y2 := mi_X7_init) (As := []) dX8_init_20 (by decide) mj_X7_init rfl (Nat.le_of_ble_eq_true rfl) n_X7 (by decide) (fun a2 ha => ?_)
  subst ha
  refine bb_cmb ?_
  refine bb_putF 0 dX8_init_23 ff_X8_16 rfl rfl rfl (Nat.le_of_ble_eq_true rfl) ?_
  refine bb_eq (w2 := ([(h0, .inr (8, [.ref (a1 0), .ref (a2 0), .null, .null, .null, .null, .null, .int 0]))] : va_W) ++ (ng_G7 cA a2 ++ (ng_G7 cA a1 ++ ([] : va_W)))) rfl ?_
  refine bb_aload_0 dX8_init_26 ?_
  refine bb_new (N := 6) (ck := 33) (sk := 483) [.null, .null, .null, .null, .int 0, .int 0] dX8_init_27 cl_X8_19 (by decide) (fun q3 => ?_)
  refine bb_dup dX8_init_30 rfl ?_
  refine bb_aload_0 dX8_init_31 ?_
  refine bb_get (v := .ref (a1 0)) 0 dX8_init_32 fl_X8_12 rfl rfl ?_
  refine bb_get (v := .ref (a1 1)) 20 dX8_init_35 fl_X8_21 rfl rfl ?_
  refine bb_call (ww := ([(h0, .inr (8, [.ref (a1 0), .ref (a2 0), .null, .null, .null, .null, .null, .int 0]))] : va_W) ++ (ng_G7 cA a2 ++ (ng_G7 cA a1 ++ ([] : va_W)))) (ck := 15) (sk := 333) (y2 := mi_X1_init) (As := [.ref (a1 1)]) dX8_init_38 lm_X8_25 mj_X1_init rfl (Nat.le_of_ble_eq_true rfl) n_X1 (by decide) (fun a3 ha => ?_)
  subst ha
  refine bb_cmb ?_
  refine bb_putF 0 dX8_init_41 ff_X8_28 rfl rfl rfl (Nat.le_of_ble_eq_true rfl) ?_
  refine bb_eq (w2 := ([(h0, .inr (8, [.ref (a1 0), .ref (a2 0), .ref (a3 0), .null, .null, .null, .null, .int 0]))] : va_W) ++ (ng_G1 cA (a1 1) a3 ++ (ng_G7 cA a2 ++ (ng_G7 cA a1 ++ ([] : va_W))))) rfl ?_
  refine bb_aload_0 dX8_init_44 ?_
  refine bb_new (N := 5) (ck := 14) (sk := 328) [.null, .int 0, .int 0, .int 0, .int 0] dX8_init_45 cl_X8_32 (by decide) (fun q4 => ?_)
  refine bb_dup dX8_init_48 rfl ?_
  refine bb_callN (host := "NinePots") (ww := ([(h0, .inr (8, [.ref (a1 0), .ref (a2 0), .ref (a3 0), .null, .null, .null, .null, .int 0]))] : va_W) ++ (ng_G1 cA (a1 1) a3 ++ (ng_G7 cA a2 ++ (ng_G7 cA a1 ++ ([] : va_W))))) (ck := 13) (sk := 288) (y2 := mi_X6_init) (As := []) dX8_init_49 (by decide) mj_X6_init rfl (Nat.le_of_ble_eq_true rfl) n_X6 (by decide) (fun a4 ha => ?_)
  subst ha
  refine bb_cmb ?_
  refine bb_putF 0 dX8_init_52 ff_X8_35 rfl rfl rfl (Nat.le_of_ble_eq_true rfl) ?_
  refine bb_eq (w2 := ([(h0, .inr (8, [.ref (a1 0), .ref (a2 0), .ref (a3 0), .ref (a4 0), .null, .null, .null, .int 0]))] : va_W) ++ (ng_G6 cA a4 ++ (ng_G1 cA (a1 1) a3 ++ (ng_G7 cA a2 ++ (ng_G7 cA a1 ++ ([] : va_W)))))) rfl ?_
  refine bb_aload_0 dX8_init_55 ?_
  refine bb_new (N := 6) (ck := 12) (sk := 282) [.null, .int 0, .null, .int 0, .int 0, .int 0] dX8_init_56 cl_X8_39 (by decide) (fun q5 => ?_)
  refine bb_dup dX8_init_59 rfl ?_
  refine bb_callN (host := "NinePots") (ww := ([(h0, .inr (8, [.ref (a1 0), .ref (a2 0), .ref (a3 0), .ref (a4 0), .null, .null, .null, .int 0]))] : va_W) ++ (ng_G6 cA a4 ++ (ng_G1 cA (a1 1) a3 ++ (ng_G7 cA a2 ++ (ng_G7 cA a1 ++ ([] : va_W)))))) (ck := 10) (sk := 182) (y2 := mi_X2_init) (As := []) dX8_init_60 (by decide) mj_X2_init rfl (Nat.le_of_ble_eq_true rfl) n_X2 (by decide) (fun a5 ha => ?_)
  subst ha
  refine bb_cmb ?_
  refine bb_putF 0 dX8_init_63 ff_X8_42 rfl rfl rfl (Nat.le_of_ble_eq_true rfl) ?_
  refine bb_eq (w2 := ([(h0, .inr (8, [.ref (a1 0), .ref (a2 0), .ref (a3 0), .ref (a4 0), .ref (a5 0), .null, .null, .int 0]))] : va_W) ++ (ng_G2 cA a5 ++ (ng_G6 cA a4 ++ (ng_G1 cA (a1 1) a3 ++ (ng_G7 cA a2 ++ (ng_G7 cA a1 ++ ([] : va_W))))))) rfl ?_
  refine bb_aload_0 dX8_init_66 ?_
  refine bb_iconst_4 dX8_init_67 ?_
  refine bb_newq (t := 1) (ck := 9) (sk := 178) 4 dX8_init_68 ca_X8_46 (fun s h => h.2.1) rfl (by decide) (by decide) (by decide) (fun q6 => ?_)
  refine bb_fr ?_
  refine bb_eq (w2 := ([(h0, .inr (8, [.ref (a1 0), .ref (a2 0), .ref (a3 0), .ref (a4 0), .ref (a5 0), .null, .null, .int 0])), (q6, .inl (cA 1, 4, .inr (.inr (.inr (.inr (fun _ => none))))))] : va_W) ++ (ng_G2 cA a5 ++ (ng_G6 cA a4 ++ (ng_G1 cA (a1 1) a3 ++ (ng_G7 cA a2 ++ (ng_G7 cA a1 ++ ([] : va_W))))))) rfl ?_
  refine bb_putF 0 dX8_init_71 ff_X8_48 rfl rfl rfl (Nat.le_of_ble_eq_true rfl) ?_
  refine bb_eq (w2 := ([(h0, .inr (8, [.ref (a1 0), .ref (a2 0), .ref (a3 0), .ref (a4 0), .ref (a5 0), .ref q6, .null, .int 0])), (q6, .inl (cA 1, 4, .inr (.inr (.inr (.inr (fun _ => none))))))] : va_W) ++ (ng_G2 cA a5 ++ (ng_G6 cA a4 ++ (ng_G1 cA (a1 1) a3 ++ (ng_G7 cA a2 ++ (ng_G7 cA a1 ++ ([] : va_W))))))) rfl ?_
  refine bb_aload_0 dX8_init_74 ?_
  refine bb_bipush (v := 6) dX8_init_75 (by decide) ?_
  refine bb_newa (ck := 8) (sk := 172) 6 dX8_init_77 (by decide) (by decide) (by decide) (fun q7 => ?_)
  refine bb_fr ?_
  refine bb_eq (w2 := ([(h0, .inr (8, [.ref (a1 0), .ref (a2 0), .ref (a3 0), .ref (a4 0), .ref (a5 0), .ref q6, .null, .int 0])), (q6, .inl (cA 1, 4, .inr (.inr (.inr (.inr (fun _ => none)))))), (q7, .inl (cA 0, 6, .inl (fun _ => 0)))] : va_W) ++ (ng_G2 cA a5 ++ (ng_G6 cA a4 ++ (ng_G1 cA (a1 1) a3 ++ (ng_G7 cA a2 ++ (ng_G7 cA a1 ++ ([] : va_W))))))) rfl ?_
  refine bb_putF 0 dX8_init_79 ff_X8_52 rfl rfl rfl (Nat.le_of_ble_eq_true rfl) ?_
  refine bb_eq (w2 := ([(h0, .inr (8, [.ref (a1 0), .ref (a2 0), .ref (a3 0), .ref (a4 0), .ref (a5 0), .ref q6, .ref q7, .int 0])), (q6, .inl (cA 1, 4, .inr (.inr (.inr (.inr (fun _ => none)))))), (q7, .inl (cA 0, 6, .inl (fun _ => 0)))] : va_W) ++ (ng_G2 cA a5 ++ (ng_G6 cA a4 ++ (ng_G1 cA (a1 1) a3 ++ (ng_G7 cA a2 ++ (ng_G7 cA a1 ++ ([] : va_W))))))) rfl ?_
  refine bb_iconst_0 dX8_init_82 ?_
  refine bb_istore_1 dX8_init_83 rfl ?_
  refine bb_iload_1 dX8_init_84 ?_
  refine bb_iconst_4 dX8_init_85 ?_
  refine bb_icmp_ge 108 dX8_init_86 (by decide +kernel) (fun h => absurd h (by decide)) (fun _ => ?_)
  refine bb_aload_0 dX8_init_89 ?_
  refine bb_get (v := .ref q6) 0 dX8_init_90 fl_X8_48 rfl rfl ?_
  refine bb_iload_1 dX8_init_93 ?_
  refine bb_new (N := 3) (ck := 7) (sk := 169) [.null, .int 0, .int 0] dX8_init_94 cl_X8_46 (by decide) (fun q8 => ?_)
  refine bb_dup dX8_init_97 rfl ?_
  refine bb_callN (host := "NinePots") (ww := ([(h0, .inr (8, [.ref (a1 0), .ref (a2 0), .ref (a3 0), .ref (a4 0), .ref (a5 0), .ref q6, .ref q7, .int 0])), (q6, .inl (cA 1, 4, .inr (.inr (.inr (.inr (fun _ => none)))))), (q7, .inl (cA 0, 6, .inl (fun _ => 0)))] : va_W) ++ (ng_G2 cA a5 ++ (ng_G6 cA a4 ++ (ng_G1 cA (a1 1) a3 ++ (ng_G7 cA a2 ++ (ng_G7 cA a1 ++ ([] : va_W))))))) (ck := 6) (sk := 129) (y2 := mi_X4_init) (As := []) dX8_init_98 (by decide) mj_X4_init rfl (Nat.le_of_ble_eq_true rfl) n_X4 (by decide) (fun a8 ha => ?_)
  subst ha
  refine bb_cmb ?_
  refine bb_ast (t := 1) (j := 0) (ci := 4) (r := (RX4, TX4, 3)) 1 3 dX8_init_101 rfl rfl rfl rfl (by unfold vp_in; decide) (by decide) ?_
  refine bb_eq (w2 := ([(h0, .inr (8, [.ref (a1 0), .ref (a2 0), .ref (a3 0), .ref (a4 0), .ref (a5 0), .ref q6, .ref q7, .int 0])), (q6, .inl (cA 1, 4, .inr (.inr (.inr (.inr (va_up (fun _ => none) 0 (some (a8 0)))))))), (q7, .inl (cA 0, 6, .inl (fun _ => 0)))] : va_W) ++ (ng_G4 cA a8 ++ (ng_G2 cA a5 ++ (ng_G6 cA a4 ++ (ng_G1 cA (a1 1) a3 ++ (ng_G7 cA a2 ++ (ng_G7 cA a1 ++ ([] : va_W)))))))) rfl ?_
  refine bb_iinc_1 (w := 1) dX8_init_102 (by decide) rfl ?_
  rw [show (0 : Int32) + 1 = 1 by decide]
  refine bb_goto 84 dX8_init_105 (by decide +kernel) ?_
  refine bb_iload_1 dX8_init_84 ?_
  refine bb_iconst_4 dX8_init_85 ?_
  refine bb_icmp_ge 108 dX8_init_86 (by decide +kernel) (fun h => absurd h (by decide)) (fun _ => ?_)
  refine bb_aload_0 dX8_init_89 ?_
  refine bb_get (v := .ref q6) 0 dX8_init_90 fl_X8_48 rfl rfl ?_
  refine bb_iload_1 dX8_init_93 ?_
  refine bb_new (N := 3) (ck := 5) (sk := 126) [.null, .int 0, .int 0] dX8_init_94 cl_X8_46 (by decide) (fun q9 => ?_)
  refine bb_dup dX8_init_97 rfl ?_
  refine bb_callN (host := "NinePots") (ww := ([(h0, .inr (8, [.ref (a1 0), .ref (a2 0), .ref (a3 0), .ref (a4 0), .ref (a5 0), .ref q6, .ref q7, .int 0])), (q6, .inl (cA 1, 4, .inr (.inr (.inr (.inr (va_up (fun _ => none) 0 (some (a8 0)))))))), (q7, .inl (cA 0, 6, .inl (fun _ => 0)))] : va_W) ++ (ng_G4 cA a8 ++ (ng_G2 cA a5 ++ (ng_G6 cA a4 ++ (ng_G1 cA (a1 1) a3 ++ (ng_G7 cA a2 ++ (ng_G7 cA a1 ++ ([] : va_W)))))))) (ck := 4) (sk := 86) (y2 := mi_X4_init) (As := []) dX8_init_98 (by decide) mj_X4_init rfl (Nat.le_of_ble_eq_true rfl) n_X4 (by decide) (fun a9 ha => ?_)
  subst ha
  refine bb_cmb ?_
  refine bb_ast (t := 1) (j := 1) (ci := 4) (r := (RX4, TX4, 3)) 1 3 dX8_init_101 rfl rfl rfl rfl (by unfold vp_in; decide) (by decide) ?_
  refine bb_eq (w2 := ([(h0, .inr (8, [.ref (a1 0), .ref (a2 0), .ref (a3 0), .ref (a4 0), .ref (a5 0), .ref q6, .ref q7, .int 0])), (q6, .inl (cA 1, 4, .inr (.inr (.inr (.inr (va_up (va_up (fun _ => none) 0 (some (a8 0))) 1 (some (a9 0)))))))), (q7, .inl (cA 0, 6, .inl (fun _ => 0)))] : va_W) ++ (ng_G4 cA a9 ++ (ng_G4 cA a8 ++ (ng_G2 cA a5 ++ (ng_G6 cA a4 ++ (ng_G1 cA (a1 1) a3 ++ (ng_G7 cA a2 ++ (ng_G7 cA a1 ++ ([] : va_W))))))))) rfl ?_
  refine bb_iinc_1 (w := 1) dX8_init_102 (by decide) rfl ?_
  rw [show (1 : Int32) + 1 = 2 by decide]
  refine bb_goto 84 dX8_init_105 (by decide +kernel) ?_
  refine bb_iload_1 dX8_init_84 ?_
  refine bb_iconst_4 dX8_init_85 ?_
  refine bb_icmp_ge 108 dX8_init_86 (by decide +kernel) (fun h => absurd h (by decide)) (fun _ => ?_)
  refine bb_aload_0 dX8_init_89 ?_
  refine bb_get (v := .ref q6) 0 dX8_init_90 fl_X8_48 rfl rfl ?_
  refine bb_iload_1 dX8_init_93 ?_
  refine bb_new (N := 3) (ck := 3) (sk := 83) [.null, .int 0, .int 0] dX8_init_94 cl_X8_46 (by decide) (fun q10 => ?_)
  refine bb_dup dX8_init_97 rfl ?_
  refine bb_callN (host := "NinePots") (ww := ([(h0, .inr (8, [.ref (a1 0), .ref (a2 0), .ref (a3 0), .ref (a4 0), .ref (a5 0), .ref q6, .ref q7, .int 0])), (q6, .inl (cA 1, 4, .inr (.inr (.inr (.inr (va_up (va_up (fun _ => none) 0 (some (a8 0))) 1 (some (a9 0)))))))), (q7, .inl (cA 0, 6, .inl (fun _ => 0)))] : va_W) ++ (ng_G4 cA a9 ++ (ng_G4 cA a8 ++ (ng_G2 cA a5 ++ (ng_G6 cA a4 ++ (ng_G1 cA (a1 1) a3 ++ (ng_G7 cA a2 ++ (ng_G7 cA a1 ++ ([] : va_W))))))))) (ck := 2) (sk := 43) (y2 := mi_X4_init) (As := []) dX8_init_98 (by decide) mj_X4_init rfl (Nat.le_of_ble_eq_true rfl) n_X4 (by decide) (fun a10 ha => ?_)
  subst ha
  refine bb_cmb ?_
  refine bb_ast (t := 1) (j := 2) (ci := 4) (r := (RX4, TX4, 3)) 1 3 dX8_init_101 rfl rfl rfl rfl (by unfold vp_in; decide) (by decide) ?_
  refine bb_eq (w2 := ([(h0, .inr (8, [.ref (a1 0), .ref (a2 0), .ref (a3 0), .ref (a4 0), .ref (a5 0), .ref q6, .ref q7, .int 0])), (q6, .inl (cA 1, 4, .inr (.inr (.inr (.inr (va_up (va_up (va_up (fun _ => none) 0 (some (a8 0))) 1 (some (a9 0))) 2 (some (a10 0)))))))), (q7, .inl (cA 0, 6, .inl (fun _ => 0)))] : va_W) ++ (ng_G4 cA a10 ++ (ng_G4 cA a9 ++ (ng_G4 cA a8 ++ (ng_G2 cA a5 ++ (ng_G6 cA a4 ++ (ng_G1 cA (a1 1) a3 ++ (ng_G7 cA a2 ++ (ng_G7 cA a1 ++ ([] : va_W)))))))))) rfl ?_
  refine bb_iinc_1 (w := 1) dX8_init_102 (by decide) rfl ?_
  rw [show (2 : Int32) + 1 = 3 by decide]
  refine bb_goto 84 dX8_init_105 (by decide +kernel) ?_
  refine bb_iload_1 dX8_init_84 ?_
  refine bb_iconst_4 dX8_init_85 ?_
  refine bb_icmp_ge 108 dX8_init_86 (by decide +kernel) (fun h => absurd h (by decide)) (fun _ => ?_)
  refine bb_aload_0 dX8_init_89 ?_
  refine bb_get (v := .ref q6) 0 dX8_init_90 fl_X8_48 rfl rfl ?_
  refine bb_iload_1 dX8_init_93 ?_
  refine bb_new (N := 3) (ck := 1) (sk := 40) [.null, .int 0, .int 0] dX8_init_94 cl_X8_46 (by decide) (fun q11 => ?_)
  refine bb_dup dX8_init_97 rfl ?_
  refine bb_callN (host := "NinePots") (ww := ([(h0, .inr (8, [.ref (a1 0), .ref (a2 0), .ref (a3 0), .ref (a4 0), .ref (a5 0), .ref q6, .ref q7, .int 0])), (q6, .inl (cA 1, 4, .inr (.inr (.inr (.inr (va_up (va_up (va_up (fun _ => none) 0 (some (a8 0))) 1 (some (a9 0))) 2 (some (a10 0)))))))), (q7, .inl (cA 0, 6, .inl (fun _ => 0)))] : va_W) ++ (ng_G4 cA a10 ++ (ng_G4 cA a9 ++ (ng_G4 cA a8 ++ (ng_G2 cA a5 ++ (ng_G6 cA a4 ++ (ng_G1 cA (a1 1) a3 ++ (ng_G7 cA a2 ++ (ng_G7 cA a1 ++ ([] : va_W)))))))))) (ck := 0) (sk := 0) (y2 := mi_X4_init) (As := []) dX8_init_98 (by decide) mj_X4_init rfl (Nat.le_of_ble_eq_true rfl) n_X4 (by decide) (fun a11 ha => ?_)
  subst ha
  refine bb_cmb ?_
  refine bb_ast (t := 1) (j := 3) (ci := 4) (r := (RX4, TX4, 3)) 1 3 dX8_init_101 rfl rfl rfl rfl (by unfold vp_in; decide) (by decide) ?_
  refine bb_eq (w2 := ([(h0, .inr (8, [.ref (a1 0), .ref (a2 0), .ref (a3 0), .ref (a4 0), .ref (a5 0), .ref q6, .ref q7, .int 0])), (q6, .inl (cA 1, 4, .inr (.inr (.inr (.inr (va_up (va_up (va_up (va_up (fun _ => none) 0 (some (a8 0))) 1 (some (a9 0))) 2 (some (a10 0))) 3 (some (a11 0)))))))), (q7, .inl (cA 0, 6, .inl (fun _ => 0)))] : va_W) ++ (ng_G4 cA a11 ++ (ng_G4 cA a10 ++ (ng_G4 cA a9 ++ (ng_G4 cA a8 ++ (ng_G2 cA a5 ++ (ng_G6 cA a4 ++ (ng_G1 cA (a1 1) a3 ++ (ng_G7 cA a2 ++ (ng_G7 cA a1 ++ ([] : va_W))))))))))) rfl ?_
  refine bb_iinc_1 (w := 1) dX8_init_102 (by decide) rfl ?_
  rw [show (3 : Int32) + 1 = 4 by decide]
  refine bb_goto 84 dX8_init_105 (by decide +kernel) ?_
  refine bb_iload_1 dX8_init_84 ?_
  refine bb_iconst_4 dX8_init_85 ?_
  refine bb_icmp_ge 108 dX8_init_86 (by decide +kernel) (fun _ => ?_) (fun h => absurd (by decide) h)
  refine bb_perm (ng_perm8 (h := (h0, .inr (8, [.ref (a1 0), .ref (a2 0), .ref (a3 0), .ref (a4 0), .ref (a5 0), .ref q6, .ref q7, .int 0]))) (s := (q6, .inl (cA 1, 4, .inr (.inr (.inr (.inr (va_up (va_up (va_up (va_up (fun _ => none) 0 (some (a8 0))) 1 (some (a9 0))) 2 (some (a10 0))) 3 (some (a11 0))))))))) (f := (q7, .inl (cA 0, 6, .inl (fun _ => 0)))) (A := ng_G7 cA a1) (B := ng_G7 cA a2) (C := ng_G1 cA (a1 1) a3) (D := ng_G6 cA a4) (E := ng_G2 cA a5) (S0 := ng_G4 cA a8) (S1 := ng_G4 cA a9) (S2 := ng_G4 cA a10) (S3 := ng_G4 cA a11)) ?_
  refine bb_ret dX8_init_108 ⟨fun i => if i = 0 then h0 else if i < 20 then a1 (i - 1) else if i < 39 then a2 (i - 20) else if i < 58 then a3 (i - 39) else if i < 60 then a4 (i - 58) else if i < 63 then a5 (i - 60) else if i < 64 then q6 else if i < 66 then a8 (i - 64) else if i < 68 then a9 (i - 66) else if i < 70 then a10 (i - 68) else if i < 72 then a11 (i - 70) else q7, rfl, ?_⟩
  have e1 : ng_G7 cA (fun i => (fun i => if i = 0 then h0 else if i < 20 then a1 (i - 1) else if i < 39 then a2 (i - 20) else if i < 58 then a3 (i - 39) else if i < 60 then a4 (i - 58) else if i < 63 then a5 (i - 60) else if i < 64 then q6 else if i < 66 then a8 (i - 64) else if i < 68 then a9 (i - 66) else if i < 70 then a10 (i - 68) else if i < 72 then a11 (i - 70) else q7) (1 + i)) = ng_G7 cA a1 := ng_G7c (fun i hi => by
    show (if 1 + i = 0 then _ else _) = _
    rw [if_neg (by omega)]
    repeat (first | rw [if_pos (by omega)] | rw [if_neg (by omega)])
    rw [show 1 + i - 1 = i by omega])
  have e20 : ng_G7 cA (fun i => (fun i => if i = 0 then h0 else if i < 20 then a1 (i - 1) else if i < 39 then a2 (i - 20) else if i < 58 then a3 (i - 39) else if i < 60 then a4 (i - 58) else if i < 63 then a5 (i - 60) else if i < 64 then q6 else if i < 66 then a8 (i - 64) else if i < 68 then a9 (i - 66) else if i < 70 then a10 (i - 68) else if i < 72 then a11 (i - 70) else q7) (20 + i)) = ng_G7 cA a2 := ng_G7c (fun i hi => by
    show (if 20 + i = 0 then _ else _) = _
    rw [if_neg (by omega)]
    repeat (first | rw [if_pos (by omega)] | rw [if_neg (by omega)])
    rw [show 20 + i - 20 = i by omega])
  have e39 : ng_G1 cA (a1 1) (fun i => (fun i => if i = 0 then h0 else if i < 20 then a1 (i - 1) else if i < 39 then a2 (i - 20) else if i < 58 then a3 (i - 39) else if i < 60 then a4 (i - 58) else if i < 63 then a5 (i - 60) else if i < 64 then q6 else if i < 66 then a8 (i - 64) else if i < 68 then a9 (i - 66) else if i < 70 then a10 (i - 68) else if i < 72 then a11 (i - 70) else q7) (39 + i)) = ng_G1 cA (a1 1) a3 := ng_G1c (fun i hi => by
    show (if 39 + i = 0 then _ else _) = _
    rw [if_neg (by omega)]
    repeat (first | rw [if_pos (by omega)] | rw [if_neg (by omega)])
    rw [show 39 + i - 39 = i by omega])
  have e58 : ng_G6 cA (fun i => (fun i => if i = 0 then h0 else if i < 20 then a1 (i - 1) else if i < 39 then a2 (i - 20) else if i < 58 then a3 (i - 39) else if i < 60 then a4 (i - 58) else if i < 63 then a5 (i - 60) else if i < 64 then q6 else if i < 66 then a8 (i - 64) else if i < 68 then a9 (i - 66) else if i < 70 then a10 (i - 68) else if i < 72 then a11 (i - 70) else q7) (58 + i)) = ng_G6 cA a4 := ng_G6c (fun i hi => by
    show (if 58 + i = 0 then _ else _) = _
    rw [if_neg (by omega)]
    repeat (first | rw [if_pos (by omega)] | rw [if_neg (by omega)])
    rw [show 58 + i - 58 = i by omega])
  have e60 : ng_G2 cA (fun i => (fun i => if i = 0 then h0 else if i < 20 then a1 (i - 1) else if i < 39 then a2 (i - 20) else if i < 58 then a3 (i - 39) else if i < 60 then a4 (i - 58) else if i < 63 then a5 (i - 60) else if i < 64 then q6 else if i < 66 then a8 (i - 64) else if i < 68 then a9 (i - 66) else if i < 70 then a10 (i - 68) else if i < 72 then a11 (i - 70) else q7) (60 + i)) = ng_G2 cA a5 := ng_G2c (fun i hi => by
    show (if 60 + i = 0 then _ else _) = _
    rw [if_neg (by omega)]
    repeat (first | rw [if_pos (by omega)] | rw [if_neg (by omega)])
    rw [show 60 + i - 60 = i by omega])
  have e64 : ng_G4 cA (fun i => (fun i => if i = 0 then h0 else if i < 20 then a1 (i - 1) else if i < 39 then a2 (i - 20) else if i < 58 then a3 (i - 39) else if i < 60 then a4 (i - 58) else if i < 63 then a5 (i - 60) else if i < 64 then q6 else if i < 66 then a8 (i - 64) else if i < 68 then a9 (i - 66) else if i < 70 then a10 (i - 68) else if i < 72 then a11 (i - 70) else q7) (64 + i)) = ng_G4 cA a8 := ng_G4c (fun i hi => by
    show (if 64 + i = 0 then _ else _) = _
    rw [if_neg (by omega)]
    repeat (first | rw [if_pos (by omega)] | rw [if_neg (by omega)])
    rw [show 64 + i - 64 = i by omega])
  have e66 : ng_G4 cA (fun i => (fun i => if i = 0 then h0 else if i < 20 then a1 (i - 1) else if i < 39 then a2 (i - 20) else if i < 58 then a3 (i - 39) else if i < 60 then a4 (i - 58) else if i < 63 then a5 (i - 60) else if i < 64 then q6 else if i < 66 then a8 (i - 64) else if i < 68 then a9 (i - 66) else if i < 70 then a10 (i - 68) else if i < 72 then a11 (i - 70) else q7) (66 + i)) = ng_G4 cA a9 := ng_G4c (fun i hi => by
    show (if 66 + i = 0 then _ else _) = _
    rw [if_neg (by omega)]
    repeat (first | rw [if_pos (by omega)] | rw [if_neg (by omega)])
    rw [show 66 + i - 66 = i by omega])
  have e68 : ng_G4 cA (fun i => (fun i => if i = 0 then h0 else if i < 20 then a1 (i - 1) else if i < 39 then a2 (i - 20) else if i < 58 then a3 (i - 39) else if i < 60 then a4 (i - 58) else if i < 63 then a5 (i - 60) else if i < 64 then q6 else if i < 66 then a8 (i - 64) else if i < 68 then a9 (i - 66) else if i < 70 then a10 (i - 68) else if i < 72 then a11 (i - 70) else q7) (68 + i)) = ng_G4 cA a10 := ng_G4c (fun i hi => by
    show (if 68 + i = 0 then _ else _) = _
    rw [if_neg (by omega)]
    repeat (first | rw [if_pos (by omega)] | rw [if_neg (by omega)])
    rw [show 68 + i - 68 = i by omega])
  have e70 : ng_G4 cA (fun i => (fun i => if i = 0 then h0 else if i < 20 then a1 (i - 1) else if i < 39 then a2 (i - 20) else if i < 58 then a3 (i - 39) else if i < 60 then a4 (i - 58) else if i < 63 then a5 (i - 60) else if i < 64 then q6 else if i < 66 then a8 (i - 64) else if i < 68 then a9 (i - 66) else if i < 70 then a10 (i - 68) else if i < 72 then a11 (i - 70) else q7) (70 + i)) = ng_G4 cA a11 := ng_G4c (fun i hi => by
    show (if 70 + i = 0 then _ else _) = _
    rw [if_neg (by omega)]
    repeat (first | rw [if_pos (by omega)] | rw [if_neg (by omega)])
    rw [show 70 + i - 70 = i by omega])
  show _ = ([(h0, .inr (8, [.ref ((fun i => if i = 0 then h0 else if i < 20 then a1 (i - 1) else if i < 39 then a2 (i - 20) else if i < 58 then a3 (i - 39) else if i < 60 then a4 (i - 58) else if i < 63 then a5 (i - 60) else if i < 64 then q6 else if i < 66 then a8 (i - 64) else if i < 68 then a9 (i - 66) else if i < 70 then a10 (i - 68) else if i < 72 then a11 (i - 70) else q7) 1), .ref ((fun i => if i = 0 then h0 else if i < 20 then a1 (i - 1) else if i < 39 then a2 (i - 20) else if i < 58 then a3 (i - 39) else if i < 60 then a4 (i - 58) else if i < 63 then a5 (i - 60) else if i < 64 then q6 else if i < 66 then a8 (i - 64) else if i < 68 then a9 (i - 66) else if i < 70 then a10 (i - 68) else if i < 72 then a11 (i - 70) else q7) 20), .ref ((fun i => if i = 0 then h0 else if i < 20 then a1 (i - 1) else if i < 39 then a2 (i - 20) else if i < 58 then a3 (i - 39) else if i < 60 then a4 (i - 58) else if i < 63 then a5 (i - 60) else if i < 64 then q6 else if i < 66 then a8 (i - 64) else if i < 68 then a9 (i - 66) else if i < 70 then a10 (i - 68) else if i < 72 then a11 (i - 70) else q7) 39), .ref ((fun i => if i = 0 then h0 else if i < 20 then a1 (i - 1) else if i < 39 then a2 (i - 20) else if i < 58 then a3 (i - 39) else if i < 60 then a4 (i - 58) else if i < 63 then a5 (i - 60) else if i < 64 then q6 else if i < 66 then a8 (i - 64) else if i < 68 then a9 (i - 66) else if i < 70 then a10 (i - 68) else if i < 72 then a11 (i - 70) else q7) 58), .ref ((fun i => if i = 0 then h0 else if i < 20 then a1 (i - 1) else if i < 39 then a2 (i - 20) else if i < 58 then a3 (i - 39) else if i < 60 then a4 (i - 58) else if i < 63 then a5 (i - 60) else if i < 64 then q6 else if i < 66 then a8 (i - 64) else if i < 68 then a9 (i - 66) else if i < 70 then a10 (i - 68) else if i < 72 then a11 (i - 70) else q7) 60), .ref ((fun i => if i = 0 then h0 else if i < 20 then a1 (i - 1) else if i < 39 then a2 (i - 20) else if i < 58 then a3 (i - 39) else if i < 60 then a4 (i - 58) else if i < 63 then a5 (i - 60) else if i < 64 then q6 else if i < 66 then a8 (i - 64) else if i < 68 then a9 (i - 66) else if i < 70 then a10 (i - 68) else if i < 72 then a11 (i - 70) else q7) 63), .ref ((fun i => if i = 0 then h0 else if i < 20 then a1 (i - 1) else if i < 39 then a2 (i - 20) else if i < 58 then a3 (i - 39) else if i < 60 then a4 (i - 58) else if i < 63 then a5 (i - 60) else if i < 64 then q6 else if i < 66 then a8 (i - 64) else if i < 68 then a9 (i - 66) else if i < 70 then a10 (i - 68) else if i < 72 then a11 (i - 70) else q7) 72), .int 0]))] : va_W) ++ ng_G7 cA (fun i => (fun i => if i = 0 then h0 else if i < 20 then a1 (i - 1) else if i < 39 then a2 (i - 20) else if i < 58 then a3 (i - 39) else if i < 60 then a4 (i - 58) else if i < 63 then a5 (i - 60) else if i < 64 then q6 else if i < 66 then a8 (i - 64) else if i < 68 then a9 (i - 66) else if i < 70 then a10 (i - 68) else if i < 72 then a11 (i - 70) else q7) (1 + i)) ++ ng_G7 cA (fun i => (fun i => if i = 0 then h0 else if i < 20 then a1 (i - 1) else if i < 39 then a2 (i - 20) else if i < 58 then a3 (i - 39) else if i < 60 then a4 (i - 58) else if i < 63 then a5 (i - 60) else if i < 64 then q6 else if i < 66 then a8 (i - 64) else if i < 68 then a9 (i - 66) else if i < 70 then a10 (i - 68) else if i < 72 then a11 (i - 70) else q7) (20 + i)) ++ ng_G1 cA ((fun i => if i = 0 then h0 else if i < 20 then a1 (i - 1) else if i < 39 then a2 (i - 20) else if i < 58 then a3 (i - 39) else if i < 60 then a4 (i - 58) else if i < 63 then a5 (i - 60) else if i < 64 then q6 else if i < 66 then a8 (i - 64) else if i < 68 then a9 (i - 66) else if i < 70 then a10 (i - 68) else if i < 72 then a11 (i - 70) else q7) 2) (fun i => (fun i => if i = 0 then h0 else if i < 20 then a1 (i - 1) else if i < 39 then a2 (i - 20) else if i < 58 then a3 (i - 39) else if i < 60 then a4 (i - 58) else if i < 63 then a5 (i - 60) else if i < 64 then q6 else if i < 66 then a8 (i - 64) else if i < 68 then a9 (i - 66) else if i < 70 then a10 (i - 68) else if i < 72 then a11 (i - 70) else q7) (39 + i)) ++ ng_G6 cA (fun i => (fun i => if i = 0 then h0 else if i < 20 then a1 (i - 1) else if i < 39 then a2 (i - 20) else if i < 58 then a3 (i - 39) else if i < 60 then a4 (i - 58) else if i < 63 then a5 (i - 60) else if i < 64 then q6 else if i < 66 then a8 (i - 64) else if i < 68 then a9 (i - 66) else if i < 70 then a10 (i - 68) else if i < 72 then a11 (i - 70) else q7) (58 + i)) ++ ng_G2 cA (fun i => (fun i => if i = 0 then h0 else if i < 20 then a1 (i - 1) else if i < 39 then a2 (i - 20) else if i < 58 then a3 (i - 39) else if i < 60 then a4 (i - 58) else if i < 63 then a5 (i - 60) else if i < 64 then q6 else if i < 66 then a8 (i - 64) else if i < 68 then a9 (i - 66) else if i < 70 then a10 (i - 68) else if i < 72 then a11 (i - 70) else q7) (60 + i)) ++ [((fun i => if i = 0 then h0 else if i < 20 then a1 (i - 1) else if i < 39 then a2 (i - 20) else if i < 58 then a3 (i - 39) else if i < 60 then a4 (i - 58) else if i < 63 then a5 (i - 60) else if i < 64 then q6 else if i < 66 then a8 (i - 64) else if i < 68 then a9 (i - 66) else if i < 70 then a10 (i - 68) else if i < 72 then a11 (i - 70) else q7) 63, .inl (cA 1, 4, .inr (.inr (.inr (.inr (va_up (va_up (va_up (va_up (fun _ => none) 0 (some ((fun i => if i = 0 then h0 else if i < 20 then a1 (i - 1) else if i < 39 then a2 (i - 20) else if i < 58 then a3 (i - 39) else if i < 60 then a4 (i - 58) else if i < 63 then a5 (i - 60) else if i < 64 then q6 else if i < 66 then a8 (i - 64) else if i < 68 then a9 (i - 66) else if i < 70 then a10 (i - 68) else if i < 72 then a11 (i - 70) else q7) 64))) 1 (some ((fun i => if i = 0 then h0 else if i < 20 then a1 (i - 1) else if i < 39 then a2 (i - 20) else if i < 58 then a3 (i - 39) else if i < 60 then a4 (i - 58) else if i < 63 then a5 (i - 60) else if i < 64 then q6 else if i < 66 then a8 (i - 64) else if i < 68 then a9 (i - 66) else if i < 70 then a10 (i - 68) else if i < 72 then a11 (i - 70) else q7) 66))) 2 (some ((fun i => if i = 0 then h0 else if i < 20 then a1 (i - 1) else if i < 39 then a2 (i - 20) else if i < 58 then a3 (i - 39) else if i < 60 then a4 (i - 58) else if i < 63 then a5 (i - 60) else if i < 64 then q6 else if i < 66 then a8 (i - 64) else if i < 68 then a9 (i - 66) else if i < 70 then a10 (i - 68) else if i < 72 then a11 (i - 70) else q7) 68))) 3 (some ((fun i => if i = 0 then h0 else if i < 20 then a1 (i - 1) else if i < 39 then a2 (i - 20) else if i < 58 then a3 (i - 39) else if i < 60 then a4 (i - 58) else if i < 63 then a5 (i - 60) else if i < 64 then q6 else if i < 66 then a8 (i - 64) else if i < 68 then a9 (i - 66) else if i < 70 then a10 (i - 68) else if i < 72 then a11 (i - 70) else q7) 70))))))))] ++ ng_G4 cA (fun i => (fun i => if i = 0 then h0 else if i < 20 then a1 (i - 1) else if i < 39 then a2 (i - 20) else if i < 58 then a3 (i - 39) else if i < 60 then a4 (i - 58) else if i < 63 then a5 (i - 60) else if i < 64 then q6 else if i < 66 then a8 (i - 64) else if i < 68 then a9 (i - 66) else if i < 70 then a10 (i - 68) else if i < 72 then a11 (i - 70) else q7) (64 + i)) ++ ng_G4 cA (fun i => (fun i => if i = 0 then h0 else if i < 20 then a1 (i - 1) else if i < 39 then a2 (i - 20) else if i < 58 then a3 (i - 39) else if i < 60 then a4 (i - 58) else if i < 63 then a5 (i - 60) else if i < 64 then q6 else if i < 66 then a8 (i - 64) else if i < 68 then a9 (i - 66) else if i < 70 then a10 (i - 68) else if i < 72 then a11 (i - 70) else q7) (66 + i)) ++ ng_G4 cA (fun i => (fun i => if i = 0 then h0 else if i < 20 then a1 (i - 1) else if i < 39 then a2 (i - 20) else if i < 58 then a3 (i - 39) else if i < 60 then a4 (i - 58) else if i < 63 then a5 (i - 60) else if i < 64 then q6 else if i < 66 then a8 (i - 64) else if i < 68 then a9 (i - 66) else if i < 70 then a10 (i - 68) else if i < 72 then a11 (i - 70) else q7) (68 + i)) ++ ng_G4 cA (fun i => (fun i => if i = 0 then h0 else if i < 20 then a1 (i - 1) else if i < 39 then a2 (i - 20) else if i < 58 then a3 (i - 39) else if i < 60 then a4 (i - 58) else if i < 63 then a5 (i - 60) else if i < 64 then q6 else if i < 66 then a8 (i - 64) else if i < 68 then a9 (i - 66) else if i < 70 then a10 (i - 68) else if i < 72 then a11 (i - 70) else q7) (70 + i)) ++ [((fun i => if i = 0 then h0 else if i < 20 then a1 (i - 1) else if i < 39 then a2 (i - 20) else if i < 58 then a3 (i - 39) else if i < 60 then a4 (i - 58) else if i < 63 then a5 (i - 60) else if i < 64 then q6 else if i < 66 then a8 (i - 64) else if i < 68 then a9 (i - 66) else if i < 70 then a10 (i - 68) else if i < 72 then a11 (i - 70) else q7) 72, .inl (cA 0, 6, .inl (fun _ => 0)))]
  rw [e1, e20, show ((fun i => if i = 0 then h0 else if i < 20 then a1 (i - 1) else if i < 39 then a2 (i - 20) else if i < 58 then a3 (i - 39) else if i < 60 then a4 (i - 58) else if i < 63 then a5 (i - 60) else if i < 64 then q6 else if i < 66 then a8 (i - 64) else if i < 68 then a9 (i - 66) else if i < 70 then a10 (i - 68) else if i < 72 then a11 (i - 70) else q7) 2) = a1 1 from rfl, e39, e58, e60, e64, e66, e68, e70]
  rfl
theorem n_X9 {D : va_G} {cA : Nat → ClassId} {s0 s1 : Nat} : ng_N (ng_Zs s0 s1) D cA mi_X9_init 1 16 1078 [] (.inr (9, [.null, .null, .null, .int 0, .null, .null, .null, .int 0, .int 0, .int 0, .int 0, .null, .int 0, .null, .null, .null, .null, .int 0, .null, .int 0, .int 0, .null, .null, .null, .null])) (ng_G9 cA s0 s1) := by
  refine ng_N.of (lf := fun h0 => [some (.ref h0), none]) (by decide) rfl rfl (fun _ => Nat.le_of_ble_eq_true rfl) (fun _ => rfl) (fun h0 => ?_)
  refine bb_aload_0 dX9_init_0 ?_
  refine bb_obj dX9_init_1 lo_X9 (Nat.le_of_ble_eq_true rfl) (by decide) ?_
  refine bb_aload_0 dX9_init_4 ?_
  refine bb_sipush (v := 227) dX9_init_5 (by decide) ?_
  refine bb_newa (ck := 15) (sk := 851) 227 dX9_init_8 (by decide) (by decide) (by decide) (fun q1 => ?_)
  refine bb_eq (w2 := ([(h0, .inr (9, [.null, .null, .null, .int 0, .null, .null, .null, .int 0, .int 0, .int 0, .int 0, .null, .int 0, .null, .null, .null, .null, .int 0, .null, .int 0, .int 0, .null, .null, .null, .null])), (q1, .inl (cA 0, 227, .inl (fun _ => 0)))] : va_W)) rfl ?_
  refine bb_putF 0 dX9_init_10 ff_X9_9 rfl rfl rfl (Nat.le_of_ble_eq_true rfl) ?_
  refine bb_eq (w2 := ([(h0, .inr (9, [.ref q1, .null, .null, .int 0, .null, .null, .null, .int 0, .int 0, .int 0, .int 0, .null, .int 0, .null, .null, .null, .null, .int 0, .null, .int 0, .int 0, .null, .null, .null, .null])), (q1, .inl (cA 0, 227, .inl (fun _ => 0)))] : va_W)) rfl ?_
  refine bb_aload_0 dX9_init_13 ?_
  refine bb_sipush (v := 227) dX9_init_14 (by decide) ?_
  refine bb_newa (ck := 14) (sk := 624) 227 dX9_init_17 (by decide) (by decide) (by decide) (fun q2 => ?_)
  refine bb_eq (w2 := ([(h0, .inr (9, [.ref q1, .null, .null, .int 0, .null, .null, .null, .int 0, .int 0, .int 0, .int 0, .null, .int 0, .null, .null, .null, .null, .int 0, .null, .int 0, .int 0, .null, .null, .null, .null])), (q1, .inl (cA 0, 227, .inl (fun _ => 0))), (q2, .inl (cA 0, 227, .inl (fun _ => 0)))] : va_W)) rfl ?_
  refine bb_putF 0 dX9_init_19 ff_X9_13 rfl rfl rfl (Nat.le_of_ble_eq_true rfl) ?_
  refine bb_eq (w2 := ([(h0, .inr (9, [.ref q1, .ref q2, .null, .int 0, .null, .null, .null, .int 0, .int 0, .int 0, .int 0, .null, .int 0, .null, .null, .null, .null, .int 0, .null, .int 0, .int 0, .null, .null, .null, .null])), (q1, .inl (cA 0, 227, .inl (fun _ => 0))), (q2, .inl (cA 0, 227, .inl (fun _ => 0)))] : va_W)) rfl ?_
  refine bb_aload_0 dX9_init_22 ?_
  refine bb_sipush (v := 227) dX9_init_23 (by decide) ?_
  refine bb_newa (ck := 13) (sk := 397) 227 dX9_init_26 (by decide) (by decide) (by decide) (fun q3 => ?_)
  refine bb_eq (w2 := ([(h0, .inr (9, [.ref q1, .ref q2, .null, .int 0, .null, .null, .null, .int 0, .int 0, .int 0, .int 0, .null, .int 0, .null, .null, .null, .null, .int 0, .null, .int 0, .int 0, .null, .null, .null, .null])), (q1, .inl (cA 0, 227, .inl (fun _ => 0))), (q2, .inl (cA 0, 227, .inl (fun _ => 0))), (q3, .inl (cA 0, 227, .inl (fun _ => 0)))] : va_W)) rfl ?_
  refine bb_putF 0 dX9_init_28 ff_X9_16 rfl rfl rfl (Nat.le_of_ble_eq_true rfl) ?_
  refine bb_eq (w2 := ([(h0, .inr (9, [.ref q1, .ref q2, .ref q3, .int 0, .null, .null, .null, .int 0, .int 0, .int 0, .int 0, .null, .int 0, .null, .null, .null, .null, .int 0, .null, .int 0, .int 0, .null, .null, .null, .null])), (q1, .inl (cA 0, 227, .inl (fun _ => 0))), (q2, .inl (cA 0, 227, .inl (fun _ => 0))), (q3, .inl (cA 0, 227, .inl (fun _ => 0)))] : va_W)) rfl ?_
  refine bb_aload_0 dX9_init_31 ?_
  refine bb_bipush (v := 6) dX9_init_32 (by decide) ?_
  refine bb_newa (ck := 12) (sk := 391) 6 dX9_init_34 (by decide) (by decide) (by decide) (fun q4 => ?_)
  refine bb_eq (w2 := ([(h0, .inr (9, [.ref q1, .ref q2, .ref q3, .int 0, .null, .null, .null, .int 0, .int 0, .int 0, .int 0, .null, .int 0, .null, .null, .null, .null, .int 0, .null, .int 0, .int 0, .null, .null, .null, .null])), (q1, .inl (cA 0, 227, .inl (fun _ => 0))), (q2, .inl (cA 0, 227, .inl (fun _ => 0))), (q3, .inl (cA 0, 227, .inl (fun _ => 0))), (q4, .inl (cA 0, 6, .inl (fun _ => 0)))] : va_W)) rfl ?_
  refine bb_putF 0 dX9_init_36 ff_X9_19 rfl rfl rfl (Nat.le_of_ble_eq_true rfl) ?_
  refine bb_eq (w2 := ([(h0, .inr (9, [.ref q1, .ref q2, .ref q3, .int 0, .ref q4, .null, .null, .int 0, .int 0, .int 0, .int 0, .null, .int 0, .null, .null, .null, .null, .int 0, .null, .int 0, .int 0, .null, .null, .null, .null])), (q1, .inl (cA 0, 227, .inl (fun _ => 0))), (q2, .inl (cA 0, 227, .inl (fun _ => 0))), (q3, .inl (cA 0, 227, .inl (fun _ => 0))), (q4, .inl (cA 0, 6, .inl (fun _ => 0)))] : va_W)) rfl ?_
  refine bb_aload_0 dX9_init_39 ?_
  refine bb_bipush (v := 6) dX9_init_40 (by decide) ?_
  refine bb_newa (ck := 11) (sk := 385) 6 dX9_init_42 (by decide) (by decide) (by decide) (fun q5 => ?_)
  refine bb_eq (w2 := ([(h0, .inr (9, [.ref q1, .ref q2, .ref q3, .int 0, .ref q4, .null, .null, .int 0, .int 0, .int 0, .int 0, .null, .int 0, .null, .null, .null, .null, .int 0, .null, .int 0, .int 0, .null, .null, .null, .null])), (q1, .inl (cA 0, 227, .inl (fun _ => 0))), (q2, .inl (cA 0, 227, .inl (fun _ => 0))), (q3, .inl (cA 0, 227, .inl (fun _ => 0))), (q4, .inl (cA 0, 6, .inl (fun _ => 0))), (q5, .inl (cA 0, 6, .inl (fun _ => 0)))] : va_W)) rfl ?_
  refine bb_dup dX9_init_44 rfl ?_
  refine bb_iconst_0 dX9_init_45 ?_
  refine bb_bipush (v := 9) dX9_init_46 (by decide) ?_
  refine bb_iast (j := 0) 5 dX9_init_48 rfl (by unfold vp_in; decide) (by decide) ?_
  refine bb_eq (w2 := ([(h0, .inr (9, [.ref q1, .ref q2, .ref q3, .int 0, .ref q4, .null, .null, .int 0, .int 0, .int 0, .int 0, .null, .int 0, .null, .null, .null, .null, .int 0, .null, .int 0, .int 0, .null, .null, .null, .null])), (q1, .inl (cA 0, 227, .inl (fun _ => 0))), (q2, .inl (cA 0, 227, .inl (fun _ => 0))), (q3, .inl (cA 0, 227, .inl (fun _ => 0))), (q4, .inl (cA 0, 6, .inl (fun _ => 0))), (q5, .inl (cA 0, 6, .inl (upd (fun _ => 0) 0 9)))] : va_W)) rfl ?_
  refine bb_dup dX9_init_49 rfl ?_
  refine bb_iconst_1 dX9_init_50 ?_
  refine bb_bipush (v := 12) dX9_init_51 (by decide) ?_
  refine bb_iast (j := 1) 5 dX9_init_53 rfl (by unfold vp_in; decide) (by decide) ?_
  refine bb_eq (w2 := ([(h0, .inr (9, [.ref q1, .ref q2, .ref q3, .int 0, .ref q4, .null, .null, .int 0, .int 0, .int 0, .int 0, .null, .int 0, .null, .null, .null, .null, .int 0, .null, .int 0, .int 0, .null, .null, .null, .null])), (q1, .inl (cA 0, 227, .inl (fun _ => 0))), (q2, .inl (cA 0, 227, .inl (fun _ => 0))), (q3, .inl (cA 0, 227, .inl (fun _ => 0))), (q4, .inl (cA 0, 6, .inl (fun _ => 0))), (q5, .inl (cA 0, 6, .inl (upd (upd (fun _ => 0) 0 9) 1 12)))] : va_W)) rfl ?_
  refine bb_dup dX9_init_54 rfl ?_
  refine bb_iconst_2 dX9_init_55 ?_
  refine bb_bipush (v := 20) dX9_init_56 (by decide) ?_
  refine bb_iast (j := 2) 5 dX9_init_58 rfl (by unfold vp_in; decide) (by decide) ?_
  refine bb_eq (w2 := ([(h0, .inr (9, [.ref q1, .ref q2, .ref q3, .int 0, .ref q4, .null, .null, .int 0, .int 0, .int 0, .int 0, .null, .int 0, .null, .null, .null, .null, .int 0, .null, .int 0, .int 0, .null, .null, .null, .null])), (q1, .inl (cA 0, 227, .inl (fun _ => 0))), (q2, .inl (cA 0, 227, .inl (fun _ => 0))), (q3, .inl (cA 0, 227, .inl (fun _ => 0))), (q4, .inl (cA 0, 6, .inl (fun _ => 0))), (q5, .inl (cA 0, 6, .inl (upd (upd (upd (fun _ => 0) 0 9) 1 12) 2 20)))] : va_W)) rfl ?_
  refine bb_dup dX9_init_59 rfl ?_
  refine bb_iconst_3 dX9_init_60 ?_
  refine bb_bipush (v := 60) dX9_init_61 (by decide) ?_
  refine bb_iast (j := 3) 5 dX9_init_63 rfl (by unfold vp_in; decide) (by decide) ?_
  refine bb_eq (w2 := ([(h0, .inr (9, [.ref q1, .ref q2, .ref q3, .int 0, .ref q4, .null, .null, .int 0, .int 0, .int 0, .int 0, .null, .int 0, .null, .null, .null, .null, .int 0, .null, .int 0, .int 0, .null, .null, .null, .null])), (q1, .inl (cA 0, 227, .inl (fun _ => 0))), (q2, .inl (cA 0, 227, .inl (fun _ => 0))), (q3, .inl (cA 0, 227, .inl (fun _ => 0))), (q4, .inl (cA 0, 6, .inl (fun _ => 0))), (q5, .inl (cA 0, 6, .inl (upd (upd (upd (upd (fun _ => 0) 0 9) 1 12) 2 20) 3 60)))] : va_W)) rfl ?_
  refine bb_dup dX9_init_64 rfl ?_
  refine bb_iconst_4 dX9_init_65 ?_
  refine bb_ldc dX9_init_66 kc_X9_22 ?_
  refine bb_iast (j := 4) 5 dX9_init_68 rfl (by unfold vp_in; decide) (by decide) ?_
  refine bb_eq (w2 := ([(h0, .inr (9, [.ref q1, .ref q2, .ref q3, .int 0, .ref q4, .null, .null, .int 0, .int 0, .int 0, .int 0, .null, .int 0, .null, .null, .null, .null, .int 0, .null, .int 0, .int 0, .null, .null, .null, .null])), (q1, .inl (cA 0, 227, .inl (fun _ => 0))), (q2, .inl (cA 0, 227, .inl (fun _ => 0))), (q3, .inl (cA 0, 227, .inl (fun _ => 0))), (q4, .inl (cA 0, 6, .inl (fun _ => 0))), (q5, .inl (cA 0, 6, .inl (upd (upd (upd (upd (upd (fun _ => 0) 0 9) 1 12) 2 20) 3 60) 4 99999999)))] : va_W)) rfl ?_
  refine bb_dup dX9_init_69 rfl ?_
  refine bb_iconst_5 dX9_init_70 ?_
  refine bb_sipush (v := 999) dX9_init_71 (by decide) ?_
  refine bb_iast (j := 5) 5 dX9_init_74 rfl (by unfold vp_in; decide) (by decide) ?_
  refine bb_eq (w2 := ([(h0, .inr (9, [.ref q1, .ref q2, .ref q3, .int 0, .ref q4, .null, .null, .int 0, .int 0, .int 0, .int 0, .null, .int 0, .null, .null, .null, .null, .int 0, .null, .int 0, .int 0, .null, .null, .null, .null])), (q1, .inl (cA 0, 227, .inl (fun _ => 0))), (q2, .inl (cA 0, 227, .inl (fun _ => 0))), (q3, .inl (cA 0, 227, .inl (fun _ => 0))), (q4, .inl (cA 0, 6, .inl (fun _ => 0))), (q5, .inl (cA 0, 6, .inl (upd (upd (upd (upd (upd (upd (fun _ => 0) 0 9) 1 12) 2 20) 3 60) 4 99999999) 5 999)))] : va_W)) rfl ?_
  refine bb_putF 0 dX9_init_75 ff_X9_23 rfl rfl rfl (Nat.le_of_ble_eq_true rfl) ?_
  refine bb_eq (w2 := ([(h0, .inr (9, [.ref q1, .ref q2, .ref q3, .int 0, .ref q4, .ref q5, .null, .int 0, .int 0, .int 0, .int 0, .null, .int 0, .null, .null, .null, .null, .int 0, .null, .int 0, .int 0, .null, .null, .null, .null])), (q1, .inl (cA 0, 227, .inl (fun _ => 0))), (q2, .inl (cA 0, 227, .inl (fun _ => 0))), (q3, .inl (cA 0, 227, .inl (fun _ => 0))), (q4, .inl (cA 0, 6, .inl (fun _ => 0))), (q5, .inl (cA 0, 6, .inl (upd (upd (upd (upd (upd (upd (fun _ => 0) 0 9) 1 12) 2 20) 3 60) 4 99999999) 5 999)))] : va_W)) rfl ?_
  refine bb_aload_0 dX9_init_78 ?_
  refine bb_iconst_2 dX9_init_79 ?_
  refine bb_newq (t := 3) (ck := 10) (sk := 383) 2 dX9_init_80 ca_X9_26 (fun s h => h.2.2) rfl (by decide) (by decide) (by decide) (fun q6 => ?_)
  refine bb_eq (w2 := ([(h0, .inr (9, [.ref q1, .ref q2, .ref q3, .int 0, .ref q4, .ref q5, .null, .int 0, .int 0, .int 0, .int 0, .null, .int 0, .null, .null, .null, .null, .int 0, .null, .int 0, .int 0, .null, .null, .null, .null])), (q1, .inl (cA 0, 227, .inl (fun _ => 0))), (q2, .inl (cA 0, 227, .inl (fun _ => 0))), (q3, .inl (cA 0, 227, .inl (fun _ => 0))), (q4, .inl (cA 0, 6, .inl (fun _ => 0))), (q5, .inl (cA 0, 6, .inl (upd (upd (upd (upd (upd (upd (fun _ => 0) 0 9) 1 12) 2 20) 3 60) 4 99999999) 5 999))), (q6, .inl (cA 3, 2, .inr (.inr (.inr (.inr (fun _ => none))))))] : va_W)) rfl ?_
  refine bb_dup dX9_init_83 rfl ?_
  refine bb_iconst_0 dX9_init_84 ?_
  refine bb_ldcS (tx := "wnlh") (q := s0) dX9_init_85 (fun A s hz => hz.2.2.1) ?_
  refine bb_astS (j := 0) 6 dX9_init_87 rfl (fun A s hz => hz.1) (by unfold vp_in; decide) (by decide) ?_
  refine bb_eq (w2 := ([(h0, .inr (9, [.ref q1, .ref q2, .ref q3, .int 0, .ref q4, .ref q5, .null, .int 0, .int 0, .int 0, .int 0, .null, .int 0, .null, .null, .null, .null, .int 0, .null, .int 0, .int 0, .null, .null, .null, .null])), (q1, .inl (cA 0, 227, .inl (fun _ => 0))), (q2, .inl (cA 0, 227, .inl (fun _ => 0))), (q3, .inl (cA 0, 227, .inl (fun _ => 0))), (q4, .inl (cA 0, 6, .inl (fun _ => 0))), (q5, .inl (cA 0, 6, .inl (upd (upd (upd (upd (upd (upd (fun _ => 0) 0 9) 1 12) 2 20) 3 60) 4 99999999) 5 999))), (q6, .inl (cA 3, 2, .inr (.inr (.inr (.inr (va_up (fun _ => none) 0 (some s0)))))))] : va_W)) rfl ?_
  refine bb_dup dX9_init_88 rfl ?_
  refine bb_iconst_1 dX9_init_89 ?_
  refine bb_ldcS (tx := "sknu") (q := s1) dX9_init_90 (fun A s hz => hz.2.2.2) ?_
  refine bb_astS (j := 1) 6 dX9_init_92 rfl (fun A s hz => hz.2.1) (by unfold vp_in; decide) (by decide) ?_
  refine bb_eq (w2 := ([(h0, .inr (9, [.ref q1, .ref q2, .ref q3, .int 0, .ref q4, .ref q5, .null, .int 0, .int 0, .int 0, .int 0, .null, .int 0, .null, .null, .null, .null, .int 0, .null, .int 0, .int 0, .null, .null, .null, .null])), (q1, .inl (cA 0, 227, .inl (fun _ => 0))), (q2, .inl (cA 0, 227, .inl (fun _ => 0))), (q3, .inl (cA 0, 227, .inl (fun _ => 0))), (q4, .inl (cA 0, 6, .inl (fun _ => 0))), (q5, .inl (cA 0, 6, .inl (upd (upd (upd (upd (upd (upd (fun _ => 0) 0 9) 1 12) 2 20) 3 60) 4 99999999) 5 999))), (q6, .inl (cA 3, 2, .inr (.inr (.inr (.inr (va_up (va_up (fun _ => none) 0 (some s0)) 1 (some s1)))))))] : va_W)) rfl ?_
  refine bb_putF 0 dX9_init_93 ff_X9_32 rfl rfl rfl (Nat.le_of_ble_eq_true rfl) ?_
  refine bb_eq (w2 := ([(h0, .inr (9, [.ref q1, .ref q2, .ref q3, .int 0, .ref q4, .ref q5, .ref q6, .int 0, .int 0, .int 0, .int 0, .null, .int 0, .null, .null, .null, .null, .int 0, .null, .int 0, .int 0, .null, .null, .null, .null])), (q1, .inl (cA 0, 227, .inl (fun _ => 0))), (q2, .inl (cA 0, 227, .inl (fun _ => 0))), (q3, .inl (cA 0, 227, .inl (fun _ => 0))), (q4, .inl (cA 0, 6, .inl (fun _ => 0))), (q5, .inl (cA 0, 6, .inl (upd (upd (upd (upd (upd (upd (fun _ => 0) 0 9) 1 12) 2 20) 3 60) 4 99999999) 5 999))), (q6, .inl (cA 3, 2, .inr (.inr (.inr (.inr (va_up (va_up (fun _ => none) 0 (some s0)) 1 (some s1)))))))] : va_W)) rfl ?_
  refine bb_aload_0 dX9_init_96 ?_
  refine bb_bipush (v := 60) dX9_init_97 (by decide) ?_
  refine bb_newa (ck := 9) (sk := 323) 60 dX9_init_99 (by decide) (by decide) (by decide) (fun q7 => ?_)
  refine bb_eq (w2 := ([(h0, .inr (9, [.ref q1, .ref q2, .ref q3, .int 0, .ref q4, .ref q5, .ref q6, .int 0, .int 0, .int 0, .int 0, .null, .int 0, .null, .null, .null, .null, .int 0, .null, .int 0, .int 0, .null, .null, .null, .null])), (q1, .inl (cA 0, 227, .inl (fun _ => 0))), (q2, .inl (cA 0, 227, .inl (fun _ => 0))), (q3, .inl (cA 0, 227, .inl (fun _ => 0))), (q4, .inl (cA 0, 6, .inl (fun _ => 0))), (q5, .inl (cA 0, 6, .inl (upd (upd (upd (upd (upd (upd (fun _ => 0) 0 9) 1 12) 2 20) 3 60) 4 99999999) 5 999))), (q6, .inl (cA 3, 2, .inr (.inr (.inr (.inr (va_up (va_up (fun _ => none) 0 (some s0)) 1 (some s1))))))), (q7, .inl (cA 0, 60, .inl (fun _ => 0)))] : va_W)) rfl ?_
  refine bb_putF 0 dX9_init_101 ff_X9_36 rfl rfl rfl (Nat.le_of_ble_eq_true rfl) ?_
  refine bb_eq (w2 := ([(h0, .inr (9, [.ref q1, .ref q2, .ref q3, .int 0, .ref q4, .ref q5, .ref q6, .int 0, .int 0, .int 0, .int 0, .ref q7, .int 0, .null, .null, .null, .null, .int 0, .null, .int 0, .int 0, .null, .null, .null, .null])), (q1, .inl (cA 0, 227, .inl (fun _ => 0))), (q2, .inl (cA 0, 227, .inl (fun _ => 0))), (q3, .inl (cA 0, 227, .inl (fun _ => 0))), (q4, .inl (cA 0, 6, .inl (fun _ => 0))), (q5, .inl (cA 0, 6, .inl (upd (upd (upd (upd (upd (upd (fun _ => 0) 0 9) 1 12) 2 20) 3 60) 4 99999999) 5 999))), (q6, .inl (cA 3, 2, .inr (.inr (.inr (.inr (va_up (va_up (fun _ => none) 0 (some s0)) 1 (some s1))))))), (q7, .inl (cA 0, 60, .inl (fun _ => 0)))] : va_W)) rfl ?_
  refine bb_aload_0 dX9_init_104 ?_
  refine bb_iconst_4 dX9_init_105 ?_
  refine bb_newa (ck := 8) (sk := 319) 4 dX9_init_106 (by decide) (by decide) (by decide) (fun q8 => ?_)
  refine bb_eq (w2 := ([(h0, .inr (9, [.ref q1, .ref q2, .ref q3, .int 0, .ref q4, .ref q5, .ref q6, .int 0, .int 0, .int 0, .int 0, .ref q7, .int 0, .null, .null, .null, .null, .int 0, .null, .int 0, .int 0, .null, .null, .null, .null])), (q1, .inl (cA 0, 227, .inl (fun _ => 0))), (q2, .inl (cA 0, 227, .inl (fun _ => 0))), (q3, .inl (cA 0, 227, .inl (fun _ => 0))), (q4, .inl (cA 0, 6, .inl (fun _ => 0))), (q5, .inl (cA 0, 6, .inl (upd (upd (upd (upd (upd (upd (fun _ => 0) 0 9) 1 12) 2 20) 3 60) 4 99999999) 5 999))), (q6, .inl (cA 3, 2, .inr (.inr (.inr (.inr (va_up (va_up (fun _ => none) 0 (some s0)) 1 (some s1))))))), (q7, .inl (cA 0, 60, .inl (fun _ => 0))), (q8, .inl (cA 0, 4, .inl (fun _ => 0)))] : va_W)) rfl ?_
  refine bb_putF 0 dX9_init_108 ff_X9_39 rfl rfl rfl (Nat.le_of_ble_eq_true rfl) ?_
  refine bb_eq (w2 := ([(h0, .inr (9, [.ref q1, .ref q2, .ref q3, .int 0, .ref q4, .ref q5, .ref q6, .int 0, .int 0, .int 0, .int 0, .ref q7, .int 0, .ref q8, .null, .null, .null, .int 0, .null, .int 0, .int 0, .null, .null, .null, .null])), (q1, .inl (cA 0, 227, .inl (fun _ => 0))), (q2, .inl (cA 0, 227, .inl (fun _ => 0))), (q3, .inl (cA 0, 227, .inl (fun _ => 0))), (q4, .inl (cA 0, 6, .inl (fun _ => 0))), (q5, .inl (cA 0, 6, .inl (upd (upd (upd (upd (upd (upd (fun _ => 0) 0 9) 1 12) 2 20) 3 60) 4 99999999) 5 999))), (q6, .inl (cA 3, 2, .inr (.inr (.inr (.inr (va_up (va_up (fun _ => none) 0 (some s0)) 1 (some s1))))))), (q7, .inl (cA 0, 60, .inl (fun _ => 0))), (q8, .inl (cA 0, 4, .inl (fun _ => 0)))] : va_W)) rfl ?_
  refine bb_aload_0 dX9_init_111 ?_
  refine bb_bipush (v := 60) dX9_init_112 (by decide) ?_
  refine bb_newa (ck := 7) (sk := 259) 60 dX9_init_114 (by decide) (by decide) (by decide) (fun q9 => ?_)
  refine bb_eq (w2 := ([(h0, .inr (9, [.ref q1, .ref q2, .ref q3, .int 0, .ref q4, .ref q5, .ref q6, .int 0, .int 0, .int 0, .int 0, .ref q7, .int 0, .ref q8, .null, .null, .null, .int 0, .null, .int 0, .int 0, .null, .null, .null, .null])), (q1, .inl (cA 0, 227, .inl (fun _ => 0))), (q2, .inl (cA 0, 227, .inl (fun _ => 0))), (q3, .inl (cA 0, 227, .inl (fun _ => 0))), (q4, .inl (cA 0, 6, .inl (fun _ => 0))), (q5, .inl (cA 0, 6, .inl (upd (upd (upd (upd (upd (upd (fun _ => 0) 0 9) 1 12) 2 20) 3 60) 4 99999999) 5 999))), (q6, .inl (cA 3, 2, .inr (.inr (.inr (.inr (va_up (va_up (fun _ => none) 0 (some s0)) 1 (some s1))))))), (q7, .inl (cA 0, 60, .inl (fun _ => 0))), (q8, .inl (cA 0, 4, .inl (fun _ => 0))), (q9, .inl (cA 0, 60, .inl (fun _ => 0)))] : va_W)) rfl ?_
  refine bb_putF 0 dX9_init_116 ff_X9_42 rfl rfl rfl (Nat.le_of_ble_eq_true rfl) ?_
  refine bb_eq (w2 := ([(h0, .inr (9, [.ref q1, .ref q2, .ref q3, .int 0, .ref q4, .ref q5, .ref q6, .int 0, .int 0, .int 0, .int 0, .ref q7, .int 0, .ref q8, .ref q9, .null, .null, .int 0, .null, .int 0, .int 0, .null, .null, .null, .null])), (q1, .inl (cA 0, 227, .inl (fun _ => 0))), (q2, .inl (cA 0, 227, .inl (fun _ => 0))), (q3, .inl (cA 0, 227, .inl (fun _ => 0))), (q4, .inl (cA 0, 6, .inl (fun _ => 0))), (q5, .inl (cA 0, 6, .inl (upd (upd (upd (upd (upd (upd (fun _ => 0) 0 9) 1 12) 2 20) 3 60) 4 99999999) 5 999))), (q6, .inl (cA 3, 2, .inr (.inr (.inr (.inr (va_up (va_up (fun _ => none) 0 (some s0)) 1 (some s1))))))), (q7, .inl (cA 0, 60, .inl (fun _ => 0))), (q8, .inl (cA 0, 4, .inl (fun _ => 0))), (q9, .inl (cA 0, 60, .inl (fun _ => 0)))] : va_W)) rfl ?_
  refine bb_aload_0 dX9_init_119 ?_
  refine bb_bipush (v := 8) dX9_init_120 (by decide) ?_
  refine bb_newa (ck := 6) (sk := 251) 8 dX9_init_122 (by decide) (by decide) (by decide) (fun q10 => ?_)
  refine bb_eq (w2 := ([(h0, .inr (9, [.ref q1, .ref q2, .ref q3, .int 0, .ref q4, .ref q5, .ref q6, .int 0, .int 0, .int 0, .int 0, .ref q7, .int 0, .ref q8, .ref q9, .null, .null, .int 0, .null, .int 0, .int 0, .null, .null, .null, .null])), (q1, .inl (cA 0, 227, .inl (fun _ => 0))), (q2, .inl (cA 0, 227, .inl (fun _ => 0))), (q3, .inl (cA 0, 227, .inl (fun _ => 0))), (q4, .inl (cA 0, 6, .inl (fun _ => 0))), (q5, .inl (cA 0, 6, .inl (upd (upd (upd (upd (upd (upd (fun _ => 0) 0 9) 1 12) 2 20) 3 60) 4 99999999) 5 999))), (q6, .inl (cA 3, 2, .inr (.inr (.inr (.inr (va_up (va_up (fun _ => none) 0 (some s0)) 1 (some s1))))))), (q7, .inl (cA 0, 60, .inl (fun _ => 0))), (q8, .inl (cA 0, 4, .inl (fun _ => 0))), (q9, .inl (cA 0, 60, .inl (fun _ => 0))), (q10, .inl (cA 0, 8, .inl (fun _ => 0)))] : va_W)) rfl ?_
  refine bb_putF 0 dX9_init_124 ff_X9_45 rfl rfl rfl (Nat.le_of_ble_eq_true rfl) ?_
  refine bb_eq (w2 := ([(h0, .inr (9, [.ref q1, .ref q2, .ref q3, .int 0, .ref q4, .ref q5, .ref q6, .int 0, .int 0, .int 0, .int 0, .ref q7, .int 0, .ref q8, .ref q9, .ref q10, .null, .int 0, .null, .int 0, .int 0, .null, .null, .null, .null])), (q1, .inl (cA 0, 227, .inl (fun _ => 0))), (q2, .inl (cA 0, 227, .inl (fun _ => 0))), (q3, .inl (cA 0, 227, .inl (fun _ => 0))), (q4, .inl (cA 0, 6, .inl (fun _ => 0))), (q5, .inl (cA 0, 6, .inl (upd (upd (upd (upd (upd (upd (fun _ => 0) 0 9) 1 12) 2 20) 3 60) 4 99999999) 5 999))), (q6, .inl (cA 3, 2, .inr (.inr (.inr (.inr (va_up (va_up (fun _ => none) 0 (some s0)) 1 (some s1))))))), (q7, .inl (cA 0, 60, .inl (fun _ => 0))), (q8, .inl (cA 0, 4, .inl (fun _ => 0))), (q9, .inl (cA 0, 60, .inl (fun _ => 0))), (q10, .inl (cA 0, 8, .inl (fun _ => 0)))] : va_W)) rfl ?_
  refine bb_aload_0 dX9_init_127 ?_
  refine bb_iconst_3 dX9_init_128 ?_
  refine bb_newa (ck := 5) (sk := 248) 3 dX9_init_129 (by decide) (by decide) (by decide) (fun q11 => ?_)
  refine bb_eq (w2 := ([(h0, .inr (9, [.ref q1, .ref q2, .ref q3, .int 0, .ref q4, .ref q5, .ref q6, .int 0, .int 0, .int 0, .int 0, .ref q7, .int 0, .ref q8, .ref q9, .ref q10, .null, .int 0, .null, .int 0, .int 0, .null, .null, .null, .null])), (q1, .inl (cA 0, 227, .inl (fun _ => 0))), (q2, .inl (cA 0, 227, .inl (fun _ => 0))), (q3, .inl (cA 0, 227, .inl (fun _ => 0))), (q4, .inl (cA 0, 6, .inl (fun _ => 0))), (q5, .inl (cA 0, 6, .inl (upd (upd (upd (upd (upd (upd (fun _ => 0) 0 9) 1 12) 2 20) 3 60) 4 99999999) 5 999))), (q6, .inl (cA 3, 2, .inr (.inr (.inr (.inr (va_up (va_up (fun _ => none) 0 (some s0)) 1 (some s1))))))), (q7, .inl (cA 0, 60, .inl (fun _ => 0))), (q8, .inl (cA 0, 4, .inl (fun _ => 0))), (q9, .inl (cA 0, 60, .inl (fun _ => 0))), (q10, .inl (cA 0, 8, .inl (fun _ => 0))), (q11, .inl (cA 0, 3, .inl (fun _ => 0)))] : va_W)) rfl ?_
  refine bb_putF 0 dX9_init_131 ff_X9_48 rfl rfl rfl (Nat.le_of_ble_eq_true rfl) ?_
  refine bb_eq (w2 := ([(h0, .inr (9, [.ref q1, .ref q2, .ref q3, .int 0, .ref q4, .ref q5, .ref q6, .int 0, .int 0, .int 0, .int 0, .ref q7, .int 0, .ref q8, .ref q9, .ref q10, .ref q11, .int 0, .null, .int 0, .int 0, .null, .null, .null, .null])), (q1, .inl (cA 0, 227, .inl (fun _ => 0))), (q2, .inl (cA 0, 227, .inl (fun _ => 0))), (q3, .inl (cA 0, 227, .inl (fun _ => 0))), (q4, .inl (cA 0, 6, .inl (fun _ => 0))), (q5, .inl (cA 0, 6, .inl (upd (upd (upd (upd (upd (upd (fun _ => 0) 0 9) 1 12) 2 20) 3 60) 4 99999999) 5 999))), (q6, .inl (cA 3, 2, .inr (.inr (.inr (.inr (va_up (va_up (fun _ => none) 0 (some s0)) 1 (some s1))))))), (q7, .inl (cA 0, 60, .inl (fun _ => 0))), (q8, .inl (cA 0, 4, .inl (fun _ => 0))), (q9, .inl (cA 0, 60, .inl (fun _ => 0))), (q10, .inl (cA 0, 8, .inl (fun _ => 0))), (q11, .inl (cA 0, 3, .inl (fun _ => 0)))] : va_W)) rfl ?_
  refine bb_aload_0 dX9_init_134 ?_
  refine bb_bipush (v := 40) dX9_init_135 (by decide) ?_
  refine bb_newa (ck := 4) (sk := 208) 40 dX9_init_137 (by decide) (by decide) (by decide) (fun q12 => ?_)
  refine bb_eq (w2 := ([(h0, .inr (9, [.ref q1, .ref q2, .ref q3, .int 0, .ref q4, .ref q5, .ref q6, .int 0, .int 0, .int 0, .int 0, .ref q7, .int 0, .ref q8, .ref q9, .ref q10, .ref q11, .int 0, .null, .int 0, .int 0, .null, .null, .null, .null])), (q1, .inl (cA 0, 227, .inl (fun _ => 0))), (q2, .inl (cA 0, 227, .inl (fun _ => 0))), (q3, .inl (cA 0, 227, .inl (fun _ => 0))), (q4, .inl (cA 0, 6, .inl (fun _ => 0))), (q5, .inl (cA 0, 6, .inl (upd (upd (upd (upd (upd (upd (fun _ => 0) 0 9) 1 12) 2 20) 3 60) 4 99999999) 5 999))), (q6, .inl (cA 3, 2, .inr (.inr (.inr (.inr (va_up (va_up (fun _ => none) 0 (some s0)) 1 (some s1))))))), (q7, .inl (cA 0, 60, .inl (fun _ => 0))), (q8, .inl (cA 0, 4, .inl (fun _ => 0))), (q9, .inl (cA 0, 60, .inl (fun _ => 0))), (q10, .inl (cA 0, 8, .inl (fun _ => 0))), (q11, .inl (cA 0, 3, .inl (fun _ => 0))), (q12, .inl (cA 0, 40, .inl (fun _ => 0)))] : va_W)) rfl ?_
  refine bb_putF 0 dX9_init_139 ff_X9_51 rfl rfl rfl (Nat.le_of_ble_eq_true rfl) ?_
  refine bb_eq (w2 := ([(h0, .inr (9, [.ref q1, .ref q2, .ref q3, .int 0, .ref q4, .ref q5, .ref q6, .int 0, .int 0, .int 0, .int 0, .ref q7, .int 0, .ref q8, .ref q9, .ref q10, .ref q11, .int 0, .ref q12, .int 0, .int 0, .null, .null, .null, .null])), (q1, .inl (cA 0, 227, .inl (fun _ => 0))), (q2, .inl (cA 0, 227, .inl (fun _ => 0))), (q3, .inl (cA 0, 227, .inl (fun _ => 0))), (q4, .inl (cA 0, 6, .inl (fun _ => 0))), (q5, .inl (cA 0, 6, .inl (upd (upd (upd (upd (upd (upd (fun _ => 0) 0 9) 1 12) 2 20) 3 60) 4 99999999) 5 999))), (q6, .inl (cA 3, 2, .inr (.inr (.inr (.inr (va_up (va_up (fun _ => none) 0 (some s0)) 1 (some s1))))))), (q7, .inl (cA 0, 60, .inl (fun _ => 0))), (q8, .inl (cA 0, 4, .inl (fun _ => 0))), (q9, .inl (cA 0, 60, .inl (fun _ => 0))), (q10, .inl (cA 0, 8, .inl (fun _ => 0))), (q11, .inl (cA 0, 3, .inl (fun _ => 0))), (q12, .inl (cA 0, 40, .inl (fun _ => 0)))] : va_W)) rfl ?_
  refine bb_aload_0 dX9_init_142 ?_
  refine bb_iconst_4 dX9_init_143 ?_
  refine bb_newa (ck := 3) (sk := 204) 4 dX9_init_144 (by decide) (by decide) (by decide) (fun q13 => ?_)
  refine bb_eq (w2 := ([(h0, .inr (9, [.ref q1, .ref q2, .ref q3, .int 0, .ref q4, .ref q5, .ref q6, .int 0, .int 0, .int 0, .int 0, .ref q7, .int 0, .ref q8, .ref q9, .ref q10, .ref q11, .int 0, .ref q12, .int 0, .int 0, .null, .null, .null, .null])), (q1, .inl (cA 0, 227, .inl (fun _ => 0))), (q2, .inl (cA 0, 227, .inl (fun _ => 0))), (q3, .inl (cA 0, 227, .inl (fun _ => 0))), (q4, .inl (cA 0, 6, .inl (fun _ => 0))), (q5, .inl (cA 0, 6, .inl (upd (upd (upd (upd (upd (upd (fun _ => 0) 0 9) 1 12) 2 20) 3 60) 4 99999999) 5 999))), (q6, .inl (cA 3, 2, .inr (.inr (.inr (.inr (va_up (va_up (fun _ => none) 0 (some s0)) 1 (some s1))))))), (q7, .inl (cA 0, 60, .inl (fun _ => 0))), (q8, .inl (cA 0, 4, .inl (fun _ => 0))), (q9, .inl (cA 0, 60, .inl (fun _ => 0))), (q10, .inl (cA 0, 8, .inl (fun _ => 0))), (q11, .inl (cA 0, 3, .inl (fun _ => 0))), (q12, .inl (cA 0, 40, .inl (fun _ => 0))), (q13, .inl (cA 0, 4, .inl (fun _ => 0)))] : va_W)) rfl ?_
  refine bb_putF 0 dX9_init_146 ff_X9_54 rfl rfl rfl (Nat.le_of_ble_eq_true rfl) ?_
  refine bb_eq (w2 := ([(h0, .inr (9, [.ref q1, .ref q2, .ref q3, .int 0, .ref q4, .ref q5, .ref q6, .int 0, .int 0, .int 0, .int 0, .ref q7, .int 0, .ref q8, .ref q9, .ref q10, .ref q11, .int 0, .ref q12, .int 0, .int 0, .ref q13, .null, .null, .null])), (q1, .inl (cA 0, 227, .inl (fun _ => 0))), (q2, .inl (cA 0, 227, .inl (fun _ => 0))), (q3, .inl (cA 0, 227, .inl (fun _ => 0))), (q4, .inl (cA 0, 6, .inl (fun _ => 0))), (q5, .inl (cA 0, 6, .inl (upd (upd (upd (upd (upd (upd (fun _ => 0) 0 9) 1 12) 2 20) 3 60) 4 99999999) 5 999))), (q6, .inl (cA 3, 2, .inr (.inr (.inr (.inr (va_up (va_up (fun _ => none) 0 (some s0)) 1 (some s1))))))), (q7, .inl (cA 0, 60, .inl (fun _ => 0))), (q8, .inl (cA 0, 4, .inl (fun _ => 0))), (q9, .inl (cA 0, 60, .inl (fun _ => 0))), (q10, .inl (cA 0, 8, .inl (fun _ => 0))), (q11, .inl (cA 0, 3, .inl (fun _ => 0))), (q12, .inl (cA 0, 40, .inl (fun _ => 0))), (q13, .inl (cA 0, 4, .inl (fun _ => 0)))] : va_W)) rfl ?_
  refine bb_aload_0 dX9_init_149 ?_
  refine bb_iconst_4 dX9_init_150 ?_
  refine bb_newa (ck := 2) (sk := 200) 4 dX9_init_151 (by decide) (by decide) (by decide) (fun q14 => ?_)
  refine bb_eq (w2 := ([(h0, .inr (9, [.ref q1, .ref q2, .ref q3, .int 0, .ref q4, .ref q5, .ref q6, .int 0, .int 0, .int 0, .int 0, .ref q7, .int 0, .ref q8, .ref q9, .ref q10, .ref q11, .int 0, .ref q12, .int 0, .int 0, .ref q13, .null, .null, .null])), (q1, .inl (cA 0, 227, .inl (fun _ => 0))), (q2, .inl (cA 0, 227, .inl (fun _ => 0))), (q3, .inl (cA 0, 227, .inl (fun _ => 0))), (q4, .inl (cA 0, 6, .inl (fun _ => 0))), (q5, .inl (cA 0, 6, .inl (upd (upd (upd (upd (upd (upd (fun _ => 0) 0 9) 1 12) 2 20) 3 60) 4 99999999) 5 999))), (q6, .inl (cA 3, 2, .inr (.inr (.inr (.inr (va_up (va_up (fun _ => none) 0 (some s0)) 1 (some s1))))))), (q7, .inl (cA 0, 60, .inl (fun _ => 0))), (q8, .inl (cA 0, 4, .inl (fun _ => 0))), (q9, .inl (cA 0, 60, .inl (fun _ => 0))), (q10, .inl (cA 0, 8, .inl (fun _ => 0))), (q11, .inl (cA 0, 3, .inl (fun _ => 0))), (q12, .inl (cA 0, 40, .inl (fun _ => 0))), (q13, .inl (cA 0, 4, .inl (fun _ => 0))), (q14, .inl (cA 0, 4, .inl (fun _ => 0)))] : va_W)) rfl ?_
  refine bb_putF 0 dX9_init_153 ff_X9_57 rfl rfl rfl (Nat.le_of_ble_eq_true rfl) ?_
  refine bb_eq (w2 := ([(h0, .inr (9, [.ref q1, .ref q2, .ref q3, .int 0, .ref q4, .ref q5, .ref q6, .int 0, .int 0, .int 0, .int 0, .ref q7, .int 0, .ref q8, .ref q9, .ref q10, .ref q11, .int 0, .ref q12, .int 0, .int 0, .ref q13, .ref q14, .null, .null])), (q1, .inl (cA 0, 227, .inl (fun _ => 0))), (q2, .inl (cA 0, 227, .inl (fun _ => 0))), (q3, .inl (cA 0, 227, .inl (fun _ => 0))), (q4, .inl (cA 0, 6, .inl (fun _ => 0))), (q5, .inl (cA 0, 6, .inl (upd (upd (upd (upd (upd (upd (fun _ => 0) 0 9) 1 12) 2 20) 3 60) 4 99999999) 5 999))), (q6, .inl (cA 3, 2, .inr (.inr (.inr (.inr (va_up (va_up (fun _ => none) 0 (some s0)) 1 (some s1))))))), (q7, .inl (cA 0, 60, .inl (fun _ => 0))), (q8, .inl (cA 0, 4, .inl (fun _ => 0))), (q9, .inl (cA 0, 60, .inl (fun _ => 0))), (q10, .inl (cA 0, 8, .inl (fun _ => 0))), (q11, .inl (cA 0, 3, .inl (fun _ => 0))), (q12, .inl (cA 0, 40, .inl (fun _ => 0))), (q13, .inl (cA 0, 4, .inl (fun _ => 0))), (q14, .inl (cA 0, 4, .inl (fun _ => 0)))] : va_W)) rfl ?_
  refine bb_aload_0 dX9_init_156 ?_
  refine bb_sipush (v := 160) dX9_init_157 (by decide) ?_
  refine bb_newa (ck := 1) (sk := 40) 160 dX9_init_160 (by decide) (by decide) (by decide) (fun q15 => ?_)
  refine bb_eq (w2 := ([(h0, .inr (9, [.ref q1, .ref q2, .ref q3, .int 0, .ref q4, .ref q5, .ref q6, .int 0, .int 0, .int 0, .int 0, .ref q7, .int 0, .ref q8, .ref q9, .ref q10, .ref q11, .int 0, .ref q12, .int 0, .int 0, .ref q13, .ref q14, .null, .null])), (q1, .inl (cA 0, 227, .inl (fun _ => 0))), (q2, .inl (cA 0, 227, .inl (fun _ => 0))), (q3, .inl (cA 0, 227, .inl (fun _ => 0))), (q4, .inl (cA 0, 6, .inl (fun _ => 0))), (q5, .inl (cA 0, 6, .inl (upd (upd (upd (upd (upd (upd (fun _ => 0) 0 9) 1 12) 2 20) 3 60) 4 99999999) 5 999))), (q6, .inl (cA 3, 2, .inr (.inr (.inr (.inr (va_up (va_up (fun _ => none) 0 (some s0)) 1 (some s1))))))), (q7, .inl (cA 0, 60, .inl (fun _ => 0))), (q8, .inl (cA 0, 4, .inl (fun _ => 0))), (q9, .inl (cA 0, 60, .inl (fun _ => 0))), (q10, .inl (cA 0, 8, .inl (fun _ => 0))), (q11, .inl (cA 0, 3, .inl (fun _ => 0))), (q12, .inl (cA 0, 40, .inl (fun _ => 0))), (q13, .inl (cA 0, 4, .inl (fun _ => 0))), (q14, .inl (cA 0, 4, .inl (fun _ => 0))), (q15, .inl (cA 0, 160, .inl (fun _ => 0)))] : va_W)) rfl ?_
  refine bb_putF 0 dX9_init_162 ff_X9_60 rfl rfl rfl (Nat.le_of_ble_eq_true rfl) ?_
  refine bb_eq (w2 := ([(h0, .inr (9, [.ref q1, .ref q2, .ref q3, .int 0, .ref q4, .ref q5, .ref q6, .int 0, .int 0, .int 0, .int 0, .ref q7, .int 0, .ref q8, .ref q9, .ref q10, .ref q11, .int 0, .ref q12, .int 0, .int 0, .ref q13, .ref q14, .ref q15, .null])), (q1, .inl (cA 0, 227, .inl (fun _ => 0))), (q2, .inl (cA 0, 227, .inl (fun _ => 0))), (q3, .inl (cA 0, 227, .inl (fun _ => 0))), (q4, .inl (cA 0, 6, .inl (fun _ => 0))), (q5, .inl (cA 0, 6, .inl (upd (upd (upd (upd (upd (upd (fun _ => 0) 0 9) 1 12) 2 20) 3 60) 4 99999999) 5 999))), (q6, .inl (cA 3, 2, .inr (.inr (.inr (.inr (va_up (va_up (fun _ => none) 0 (some s0)) 1 (some s1))))))), (q7, .inl (cA 0, 60, .inl (fun _ => 0))), (q8, .inl (cA 0, 4, .inl (fun _ => 0))), (q9, .inl (cA 0, 60, .inl (fun _ => 0))), (q10, .inl (cA 0, 8, .inl (fun _ => 0))), (q11, .inl (cA 0, 3, .inl (fun _ => 0))), (q12, .inl (cA 0, 40, .inl (fun _ => 0))), (q13, .inl (cA 0, 4, .inl (fun _ => 0))), (q14, .inl (cA 0, 4, .inl (fun _ => 0))), (q15, .inl (cA 0, 160, .inl (fun _ => 0)))] : va_W)) rfl ?_
  refine bb_aload_0 dX9_init_165 ?_
  refine bb_bipush (v := 40) dX9_init_166 (by decide) ?_
  refine bb_newa (ck := 0) (sk := 0) 40 dX9_init_168 (by decide) (by decide) (by decide) (fun q16 => ?_)
  refine bb_eq (w2 := ([(h0, .inr (9, [.ref q1, .ref q2, .ref q3, .int 0, .ref q4, .ref q5, .ref q6, .int 0, .int 0, .int 0, .int 0, .ref q7, .int 0, .ref q8, .ref q9, .ref q10, .ref q11, .int 0, .ref q12, .int 0, .int 0, .ref q13, .ref q14, .ref q15, .null])), (q1, .inl (cA 0, 227, .inl (fun _ => 0))), (q2, .inl (cA 0, 227, .inl (fun _ => 0))), (q3, .inl (cA 0, 227, .inl (fun _ => 0))), (q4, .inl (cA 0, 6, .inl (fun _ => 0))), (q5, .inl (cA 0, 6, .inl (upd (upd (upd (upd (upd (upd (fun _ => 0) 0 9) 1 12) 2 20) 3 60) 4 99999999) 5 999))), (q6, .inl (cA 3, 2, .inr (.inr (.inr (.inr (va_up (va_up (fun _ => none) 0 (some s0)) 1 (some s1))))))), (q7, .inl (cA 0, 60, .inl (fun _ => 0))), (q8, .inl (cA 0, 4, .inl (fun _ => 0))), (q9, .inl (cA 0, 60, .inl (fun _ => 0))), (q10, .inl (cA 0, 8, .inl (fun _ => 0))), (q11, .inl (cA 0, 3, .inl (fun _ => 0))), (q12, .inl (cA 0, 40, .inl (fun _ => 0))), (q13, .inl (cA 0, 4, .inl (fun _ => 0))), (q14, .inl (cA 0, 4, .inl (fun _ => 0))), (q15, .inl (cA 0, 160, .inl (fun _ => 0))), (q16, .inl (cA 0, 40, .inl (fun _ => 0)))] : va_W)) rfl ?_
  refine bb_putF 0 dX9_init_170 ff_X9_63 rfl rfl rfl (Nat.le_of_ble_eq_true rfl) ?_
  refine bb_eq (w2 := ([(h0, .inr (9, [.ref q1, .ref q2, .ref q3, .int 0, .ref q4, .ref q5, .ref q6, .int 0, .int 0, .int 0, .int 0, .ref q7, .int 0, .ref q8, .ref q9, .ref q10, .ref q11, .int 0, .ref q12, .int 0, .int 0, .ref q13, .ref q14, .ref q15, .ref q16])), (q1, .inl (cA 0, 227, .inl (fun _ => 0))), (q2, .inl (cA 0, 227, .inl (fun _ => 0))), (q3, .inl (cA 0, 227, .inl (fun _ => 0))), (q4, .inl (cA 0, 6, .inl (fun _ => 0))), (q5, .inl (cA 0, 6, .inl (upd (upd (upd (upd (upd (upd (fun _ => 0) 0 9) 1 12) 2 20) 3 60) 4 99999999) 5 999))), (q6, .inl (cA 3, 2, .inr (.inr (.inr (.inr (va_up (va_up (fun _ => none) 0 (some s0)) 1 (some s1))))))), (q7, .inl (cA 0, 60, .inl (fun _ => 0))), (q8, .inl (cA 0, 4, .inl (fun _ => 0))), (q9, .inl (cA 0, 60, .inl (fun _ => 0))), (q10, .inl (cA 0, 8, .inl (fun _ => 0))), (q11, .inl (cA 0, 3, .inl (fun _ => 0))), (q12, .inl (cA 0, 40, .inl (fun _ => 0))), (q13, .inl (cA 0, 4, .inl (fun _ => 0))), (q14, .inl (cA 0, 4, .inl (fun _ => 0))), (q15, .inl (cA 0, 160, .inl (fun _ => 0))), (q16, .inl (cA 0, 40, .inl (fun _ => 0)))] : va_W)) rfl ?_
  refine bb_aload_0 dX9_init_173 ?_
  refine bb_get (v := .ref q1) 0 dX9_init_174 fl_X9_9 rfl rfl ?_
  refine bb_iconst_3 dX9_init_177 ?_
  refine bb_bipush (v := 6) dX9_init_178 (by decide) ?_
  refine bb_iast (j := 3) 1 dX9_init_180 rfl (by unfold vp_in; decide) (by decide) ?_
  refine bb_eq (w2 := ([(h0, .inr (9, [.ref q1, .ref q2, .ref q3, .int 0, .ref q4, .ref q5, .ref q6, .int 0, .int 0, .int 0, .int 0, .ref q7, .int 0, .ref q8, .ref q9, .ref q10, .ref q11, .int 0, .ref q12, .int 0, .int 0, .ref q13, .ref q14, .ref q15, .ref q16])), (q1, .inl (cA 0, 227, .inl (upd (fun _ => 0) 3 6))), (q2, .inl (cA 0, 227, .inl (fun _ => 0))), (q3, .inl (cA 0, 227, .inl (fun _ => 0))), (q4, .inl (cA 0, 6, .inl (fun _ => 0))), (q5, .inl (cA 0, 6, .inl (upd (upd (upd (upd (upd (upd (fun _ => 0) 0 9) 1 12) 2 20) 3 60) 4 99999999) 5 999))), (q6, .inl (cA 3, 2, .inr (.inr (.inr (.inr (va_up (va_up (fun _ => none) 0 (some s0)) 1 (some s1))))))), (q7, .inl (cA 0, 60, .inl (fun _ => 0))), (q8, .inl (cA 0, 4, .inl (fun _ => 0))), (q9, .inl (cA 0, 60, .inl (fun _ => 0))), (q10, .inl (cA 0, 8, .inl (fun _ => 0))), (q11, .inl (cA 0, 3, .inl (fun _ => 0))), (q12, .inl (cA 0, 40, .inl (fun _ => 0))), (q13, .inl (cA 0, 4, .inl (fun _ => 0))), (q14, .inl (cA 0, 4, .inl (fun _ => 0))), (q15, .inl (cA 0, 160, .inl (fun _ => 0))), (q16, .inl (cA 0, 40, .inl (fun _ => 0)))] : va_W)) rfl ?_
  refine bb_aload_0 dX9_init_181 ?_
  refine bb_get (v := .ref q1) 0 dX9_init_182 fl_X9_9 rfl rfl ?_
  refine bb_iconst_4 dX9_init_185 ?_
  refine bb_bipush (v := 9) dX9_init_186 (by decide) ?_
  refine bb_iast (j := 4) 1 dX9_init_188 rfl (by unfold vp_in; decide) (by decide) ?_
  refine bb_eq (w2 := ([(h0, .inr (9, [.ref q1, .ref q2, .ref q3, .int 0, .ref q4, .ref q5, .ref q6, .int 0, .int 0, .int 0, .int 0, .ref q7, .int 0, .ref q8, .ref q9, .ref q10, .ref q11, .int 0, .ref q12, .int 0, .int 0, .ref q13, .ref q14, .ref q15, .ref q16])), (q1, .inl (cA 0, 227, .inl (upd (upd (fun _ => 0) 3 6) 4 9))), (q2, .inl (cA 0, 227, .inl (fun _ => 0))), (q3, .inl (cA 0, 227, .inl (fun _ => 0))), (q4, .inl (cA 0, 6, .inl (fun _ => 0))), (q5, .inl (cA 0, 6, .inl (upd (upd (upd (upd (upd (upd (fun _ => 0) 0 9) 1 12) 2 20) 3 60) 4 99999999) 5 999))), (q6, .inl (cA 3, 2, .inr (.inr (.inr (.inr (va_up (va_up (fun _ => none) 0 (some s0)) 1 (some s1))))))), (q7, .inl (cA 0, 60, .inl (fun _ => 0))), (q8, .inl (cA 0, 4, .inl (fun _ => 0))), (q9, .inl (cA 0, 60, .inl (fun _ => 0))), (q10, .inl (cA 0, 8, .inl (fun _ => 0))), (q11, .inl (cA 0, 3, .inl (fun _ => 0))), (q12, .inl (cA 0, 40, .inl (fun _ => 0))), (q13, .inl (cA 0, 4, .inl (fun _ => 0))), (q14, .inl (cA 0, 4, .inl (fun _ => 0))), (q15, .inl (cA 0, 160, .inl (fun _ => 0))), (q16, .inl (cA 0, 40, .inl (fun _ => 0)))] : va_W)) rfl ?_
  refine bb_aload_0 dX9_init_189 ?_
  refine bb_get (v := .ref q1) 0 dX9_init_190 fl_X9_9 rfl rfl ?_
  refine bb_bipush (v := 10) dX9_init_193 (by decide) ?_
  refine bb_iconst_1 dX9_init_195 ?_
  refine bb_iast (j := 10) 1 dX9_init_196 rfl (by unfold vp_in; decide) (by decide) ?_
  refine bb_eq (w2 := ([(h0, .inr (9, [.ref q1, .ref q2, .ref q3, .int 0, .ref q4, .ref q5, .ref q6, .int 0, .int 0, .int 0, .int 0, .ref q7, .int 0, .ref q8, .ref q9, .ref q10, .ref q11, .int 0, .ref q12, .int 0, .int 0, .ref q13, .ref q14, .ref q15, .ref q16])), (q1, .inl (cA 0, 227, .inl (upd (upd (upd (fun _ => 0) 3 6) 4 9) 10 1))), (q2, .inl (cA 0, 227, .inl (fun _ => 0))), (q3, .inl (cA 0, 227, .inl (fun _ => 0))), (q4, .inl (cA 0, 6, .inl (fun _ => 0))), (q5, .inl (cA 0, 6, .inl (upd (upd (upd (upd (upd (upd (fun _ => 0) 0 9) 1 12) 2 20) 3 60) 4 99999999) 5 999))), (q6, .inl (cA 3, 2, .inr (.inr (.inr (.inr (va_up (va_up (fun _ => none) 0 (some s0)) 1 (some s1))))))), (q7, .inl (cA 0, 60, .inl (fun _ => 0))), (q8, .inl (cA 0, 4, .inl (fun _ => 0))), (q9, .inl (cA 0, 60, .inl (fun _ => 0))), (q10, .inl (cA 0, 8, .inl (fun _ => 0))), (q11, .inl (cA 0, 3, .inl (fun _ => 0))), (q12, .inl (cA 0, 40, .inl (fun _ => 0))), (q13, .inl (cA 0, 4, .inl (fun _ => 0))), (q14, .inl (cA 0, 4, .inl (fun _ => 0))), (q15, .inl (cA 0, 160, .inl (fun _ => 0))), (q16, .inl (cA 0, 40, .inl (fun _ => 0)))] : va_W)) rfl ?_
  refine bb_iconst_0 dX9_init_197 ?_
  refine bb_istore_1 dX9_init_198 rfl ?_
  refine bb_iload_1 dX9_init_199 ?_
  refine bb_bipush (v := 10) dX9_init_200 (by decide) ?_
  refine bb_icmp_ge 226 dX9_init_202 (by decide +kernel) (fun h => absurd h (by decide)) (fun _ => ?_)
  refine bb_aload_0 dX9_init_205 ?_
  refine bb_get (v := .ref q1) 0 dX9_init_206 fl_X9_9 rfl rfl ?_
  refine bb_bipush (v := 11) dX9_init_209 (by decide) ?_
  refine bb_iload_1 dX9_init_211 ?_
  refine bb_iadd dX9_init_212 ?_
  rw [show (11 : Int32) + 0 = 11 by decide]
  refine bb_bipush (v := 10) dX9_init_213 (by decide) ?_
  refine bb_iload_1 dX9_init_215 ?_
  refine bb_iconst_1 dX9_init_216 ?_
  refine bb_iadd dX9_init_217 ?_
  rw [show (0 : Int32) + 1 = 1 by decide]
  refine bb_imul dX9_init_218 ?_
  rw [show (10 : Int32) * 1 = 10 by decide]
  refine bb_iast (j := 11) 1 dX9_init_219 rfl (by unfold vp_in; decide) (by decide) ?_
  refine bb_eq (w2 := ([(h0, .inr (9, [.ref q1, .ref q2, .ref q3, .int 0, .ref q4, .ref q5, .ref q6, .int 0, .int 0, .int 0, .int 0, .ref q7, .int 0, .ref q8, .ref q9, .ref q10, .ref q11, .int 0, .ref q12, .int 0, .int 0, .ref q13, .ref q14, .ref q15, .ref q16])), (q1, .inl (cA 0, 227, .inl (upd (upd (upd (upd (fun _ => 0) 3 6) 4 9) 10 1) 11 10))), (q2, .inl (cA 0, 227, .inl (fun _ => 0))), (q3, .inl (cA 0, 227, .inl (fun _ => 0))), (q4, .inl (cA 0, 6, .inl (fun _ => 0))), (q5, .inl (cA 0, 6, .inl (upd (upd (upd (upd (upd (upd (fun _ => 0) 0 9) 1 12) 2 20) 3 60) 4 99999999) 5 999))), (q6, .inl (cA 3, 2, .inr (.inr (.inr (.inr (va_up (va_up (fun _ => none) 0 (some s0)) 1 (some s1))))))), (q7, .inl (cA 0, 60, .inl (fun _ => 0))), (q8, .inl (cA 0, 4, .inl (fun _ => 0))), (q9, .inl (cA 0, 60, .inl (fun _ => 0))), (q10, .inl (cA 0, 8, .inl (fun _ => 0))), (q11, .inl (cA 0, 3, .inl (fun _ => 0))), (q12, .inl (cA 0, 40, .inl (fun _ => 0))), (q13, .inl (cA 0, 4, .inl (fun _ => 0))), (q14, .inl (cA 0, 4, .inl (fun _ => 0))), (q15, .inl (cA 0, 160, .inl (fun _ => 0))), (q16, .inl (cA 0, 40, .inl (fun _ => 0)))] : va_W)) rfl ?_
  refine bb_iinc_1 (w := 1) dX9_init_220 (by decide) rfl ?_
  rw [show (0 : Int32) + 1 = 1 by decide]
  refine bb_goto 199 dX9_init_223 (by decide +kernel) ?_
  refine bb_iload_1 dX9_init_199 ?_
  refine bb_bipush (v := 10) dX9_init_200 (by decide) ?_
  refine bb_icmp_ge 226 dX9_init_202 (by decide +kernel) (fun h => absurd h (by decide)) (fun _ => ?_)
  refine bb_aload_0 dX9_init_205 ?_
  refine bb_get (v := .ref q1) 0 dX9_init_206 fl_X9_9 rfl rfl ?_
  refine bb_bipush (v := 11) dX9_init_209 (by decide) ?_
  refine bb_iload_1 dX9_init_211 ?_
  refine bb_iadd dX9_init_212 ?_
  rw [show (11 : Int32) + 1 = 12 by decide]
  refine bb_bipush (v := 10) dX9_init_213 (by decide) ?_
  refine bb_iload_1 dX9_init_215 ?_
  refine bb_iconst_1 dX9_init_216 ?_
  refine bb_iadd dX9_init_217 ?_
  rw [show (1 : Int32) + 1 = 2 by decide]
  refine bb_imul dX9_init_218 ?_
  rw [show (10 : Int32) * 2 = 20 by decide]
  refine bb_iast (j := 12) 1 dX9_init_219 rfl (by unfold vp_in; decide) (by decide) ?_
  refine bb_eq (w2 := ([(h0, .inr (9, [.ref q1, .ref q2, .ref q3, .int 0, .ref q4, .ref q5, .ref q6, .int 0, .int 0, .int 0, .int 0, .ref q7, .int 0, .ref q8, .ref q9, .ref q10, .ref q11, .int 0, .ref q12, .int 0, .int 0, .ref q13, .ref q14, .ref q15, .ref q16])), (q1, .inl (cA 0, 227, .inl (upd (upd (upd (upd (upd (fun _ => 0) 3 6) 4 9) 10 1) 11 10) 12 20))), (q2, .inl (cA 0, 227, .inl (fun _ => 0))), (q3, .inl (cA 0, 227, .inl (fun _ => 0))), (q4, .inl (cA 0, 6, .inl (fun _ => 0))), (q5, .inl (cA 0, 6, .inl (upd (upd (upd (upd (upd (upd (fun _ => 0) 0 9) 1 12) 2 20) 3 60) 4 99999999) 5 999))), (q6, .inl (cA 3, 2, .inr (.inr (.inr (.inr (va_up (va_up (fun _ => none) 0 (some s0)) 1 (some s1))))))), (q7, .inl (cA 0, 60, .inl (fun _ => 0))), (q8, .inl (cA 0, 4, .inl (fun _ => 0))), (q9, .inl (cA 0, 60, .inl (fun _ => 0))), (q10, .inl (cA 0, 8, .inl (fun _ => 0))), (q11, .inl (cA 0, 3, .inl (fun _ => 0))), (q12, .inl (cA 0, 40, .inl (fun _ => 0))), (q13, .inl (cA 0, 4, .inl (fun _ => 0))), (q14, .inl (cA 0, 4, .inl (fun _ => 0))), (q15, .inl (cA 0, 160, .inl (fun _ => 0))), (q16, .inl (cA 0, 40, .inl (fun _ => 0)))] : va_W)) rfl ?_
  refine bb_iinc_1 (w := 1) dX9_init_220 (by decide) rfl ?_
  rw [show (1 : Int32) + 1 = 2 by decide]
  refine bb_goto 199 dX9_init_223 (by decide +kernel) ?_
  refine bb_iload_1 dX9_init_199 ?_
  refine bb_bipush (v := 10) dX9_init_200 (by decide) ?_
  refine bb_icmp_ge 226 dX9_init_202 (by decide +kernel) (fun h => absurd h (by decide)) (fun _ => ?_)
  refine bb_aload_0 dX9_init_205 ?_
  refine bb_get (v := .ref q1) 0 dX9_init_206 fl_X9_9 rfl rfl ?_
  refine bb_bipush (v := 11) dX9_init_209 (by decide) ?_
  refine bb_iload_1 dX9_init_211 ?_
  refine bb_iadd dX9_init_212 ?_
  rw [show (11 : Int32) + 2 = 13 by decide]
  refine bb_bipush (v := 10) dX9_init_213 (by decide) ?_
  refine bb_iload_1 dX9_init_215 ?_
  refine bb_iconst_1 dX9_init_216 ?_
  refine bb_iadd dX9_init_217 ?_
  rw [show (2 : Int32) + 1 = 3 by decide]
  refine bb_imul dX9_init_218 ?_
  rw [show (10 : Int32) * 3 = 30 by decide]
  refine bb_iast (j := 13) 1 dX9_init_219 rfl (by unfold vp_in; decide) (by decide) ?_
  refine bb_eq (w2 := ([(h0, .inr (9, [.ref q1, .ref q2, .ref q3, .int 0, .ref q4, .ref q5, .ref q6, .int 0, .int 0, .int 0, .int 0, .ref q7, .int 0, .ref q8, .ref q9, .ref q10, .ref q11, .int 0, .ref q12, .int 0, .int 0, .ref q13, .ref q14, .ref q15, .ref q16])), (q1, .inl (cA 0, 227, .inl (upd (upd (upd (upd (upd (upd (fun _ => 0) 3 6) 4 9) 10 1) 11 10) 12 20) 13 30))), (q2, .inl (cA 0, 227, .inl (fun _ => 0))), (q3, .inl (cA 0, 227, .inl (fun _ => 0))), (q4, .inl (cA 0, 6, .inl (fun _ => 0))), (q5, .inl (cA 0, 6, .inl (upd (upd (upd (upd (upd (upd (fun _ => 0) 0 9) 1 12) 2 20) 3 60) 4 99999999) 5 999))), (q6, .inl (cA 3, 2, .inr (.inr (.inr (.inr (va_up (va_up (fun _ => none) 0 (some s0)) 1 (some s1))))))), (q7, .inl (cA 0, 60, .inl (fun _ => 0))), (q8, .inl (cA 0, 4, .inl (fun _ => 0))), (q9, .inl (cA 0, 60, .inl (fun _ => 0))), (q10, .inl (cA 0, 8, .inl (fun _ => 0))), (q11, .inl (cA 0, 3, .inl (fun _ => 0))), (q12, .inl (cA 0, 40, .inl (fun _ => 0))), (q13, .inl (cA 0, 4, .inl (fun _ => 0))), (q14, .inl (cA 0, 4, .inl (fun _ => 0))), (q15, .inl (cA 0, 160, .inl (fun _ => 0))), (q16, .inl (cA 0, 40, .inl (fun _ => 0)))] : va_W)) rfl ?_
  refine bb_iinc_1 (w := 1) dX9_init_220 (by decide) rfl ?_
  rw [show (2 : Int32) + 1 = 3 by decide]
  refine bb_goto 199 dX9_init_223 (by decide +kernel) ?_
  refine bb_iload_1 dX9_init_199 ?_
  refine bb_bipush (v := 10) dX9_init_200 (by decide) ?_
  refine bb_icmp_ge 226 dX9_init_202 (by decide +kernel) (fun h => absurd h (by decide)) (fun _ => ?_)
  refine bb_aload_0 dX9_init_205 ?_
  refine bb_get (v := .ref q1) 0 dX9_init_206 fl_X9_9 rfl rfl ?_
  refine bb_bipush (v := 11) dX9_init_209 (by decide) ?_
  refine bb_iload_1 dX9_init_211 ?_
  refine bb_iadd dX9_init_212 ?_
  rw [show (11 : Int32) + 3 = 14 by decide]
  refine bb_bipush (v := 10) dX9_init_213 (by decide) ?_
  refine bb_iload_1 dX9_init_215 ?_
  refine bb_iconst_1 dX9_init_216 ?_
  refine bb_iadd dX9_init_217 ?_
  rw [show (3 : Int32) + 1 = 4 by decide]
  refine bb_imul dX9_init_218 ?_
  rw [show (10 : Int32) * 4 = 40 by decide]
  refine bb_iast (j := 14) 1 dX9_init_219 rfl (by unfold vp_in; decide) (by decide) ?_
  refine bb_eq (w2 := ([(h0, .inr (9, [.ref q1, .ref q2, .ref q3, .int 0, .ref q4, .ref q5, .ref q6, .int 0, .int 0, .int 0, .int 0, .ref q7, .int 0, .ref q8, .ref q9, .ref q10, .ref q11, .int 0, .ref q12, .int 0, .int 0, .ref q13, .ref q14, .ref q15, .ref q16])), (q1, .inl (cA 0, 227, .inl (upd (upd (upd (upd (upd (upd (upd (fun _ => 0) 3 6) 4 9) 10 1) 11 10) 12 20) 13 30) 14 40))), (q2, .inl (cA 0, 227, .inl (fun _ => 0))), (q3, .inl (cA 0, 227, .inl (fun _ => 0))), (q4, .inl (cA 0, 6, .inl (fun _ => 0))), (q5, .inl (cA 0, 6, .inl (upd (upd (upd (upd (upd (upd (fun _ => 0) 0 9) 1 12) 2 20) 3 60) 4 99999999) 5 999))), (q6, .inl (cA 3, 2, .inr (.inr (.inr (.inr (va_up (va_up (fun _ => none) 0 (some s0)) 1 (some s1))))))), (q7, .inl (cA 0, 60, .inl (fun _ => 0))), (q8, .inl (cA 0, 4, .inl (fun _ => 0))), (q9, .inl (cA 0, 60, .inl (fun _ => 0))), (q10, .inl (cA 0, 8, .inl (fun _ => 0))), (q11, .inl (cA 0, 3, .inl (fun _ => 0))), (q12, .inl (cA 0, 40, .inl (fun _ => 0))), (q13, .inl (cA 0, 4, .inl (fun _ => 0))), (q14, .inl (cA 0, 4, .inl (fun _ => 0))), (q15, .inl (cA 0, 160, .inl (fun _ => 0))), (q16, .inl (cA 0, 40, .inl (fun _ => 0)))] : va_W)) rfl ?_
  refine bb_iinc_1 (w := 1) dX9_init_220 (by decide) rfl ?_
  rw [show (3 : Int32) + 1 = 4 by decide]
  refine bb_goto 199 dX9_init_223 (by decide +kernel) ?_
  refine bb_iload_1 dX9_init_199 ?_
  refine bb_bipush (v := 10) dX9_init_200 (by decide) ?_
  refine bb_icmp_ge 226 dX9_init_202 (by decide +kernel) (fun h => absurd h (by decide)) (fun _ => ?_)
  refine bb_aload_0 dX9_init_205 ?_
  refine bb_get (v := .ref q1) 0 dX9_init_206 fl_X9_9 rfl rfl ?_
  refine bb_bipush (v := 11) dX9_init_209 (by decide) ?_
  refine bb_iload_1 dX9_init_211 ?_
  refine bb_iadd dX9_init_212 ?_
  rw [show (11 : Int32) + 4 = 15 by decide]
  refine bb_bipush (v := 10) dX9_init_213 (by decide) ?_
  refine bb_iload_1 dX9_init_215 ?_
  refine bb_iconst_1 dX9_init_216 ?_
  refine bb_iadd dX9_init_217 ?_
  rw [show (4 : Int32) + 1 = 5 by decide]
  refine bb_imul dX9_init_218 ?_
  rw [show (10 : Int32) * 5 = 50 by decide]
  refine bb_iast (j := 15) 1 dX9_init_219 rfl (by unfold vp_in; decide) (by decide) ?_
  refine bb_eq (w2 := ([(h0, .inr (9, [.ref q1, .ref q2, .ref q3, .int 0, .ref q4, .ref q5, .ref q6, .int 0, .int 0, .int 0, .int 0, .ref q7, .int 0, .ref q8, .ref q9, .ref q10, .ref q11, .int 0, .ref q12, .int 0, .int 0, .ref q13, .ref q14, .ref q15, .ref q16])), (q1, .inl (cA 0, 227, .inl (upd (upd (upd (upd (upd (upd (upd (upd (fun _ => 0) 3 6) 4 9) 10 1) 11 10) 12 20) 13 30) 14 40) 15 50))), (q2, .inl (cA 0, 227, .inl (fun _ => 0))), (q3, .inl (cA 0, 227, .inl (fun _ => 0))), (q4, .inl (cA 0, 6, .inl (fun _ => 0))), (q5, .inl (cA 0, 6, .inl (upd (upd (upd (upd (upd (upd (fun _ => 0) 0 9) 1 12) 2 20) 3 60) 4 99999999) 5 999))), (q6, .inl (cA 3, 2, .inr (.inr (.inr (.inr (va_up (va_up (fun _ => none) 0 (some s0)) 1 (some s1))))))), (q7, .inl (cA 0, 60, .inl (fun _ => 0))), (q8, .inl (cA 0, 4, .inl (fun _ => 0))), (q9, .inl (cA 0, 60, .inl (fun _ => 0))), (q10, .inl (cA 0, 8, .inl (fun _ => 0))), (q11, .inl (cA 0, 3, .inl (fun _ => 0))), (q12, .inl (cA 0, 40, .inl (fun _ => 0))), (q13, .inl (cA 0, 4, .inl (fun _ => 0))), (q14, .inl (cA 0, 4, .inl (fun _ => 0))), (q15, .inl (cA 0, 160, .inl (fun _ => 0))), (q16, .inl (cA 0, 40, .inl (fun _ => 0)))] : va_W)) rfl ?_
  refine bb_iinc_1 (w := 1) dX9_init_220 (by decide) rfl ?_
  rw [show (4 : Int32) + 1 = 5 by decide]
  refine bb_goto 199 dX9_init_223 (by decide +kernel) ?_
  refine bb_iload_1 dX9_init_199 ?_
  refine bb_bipush (v := 10) dX9_init_200 (by decide) ?_
  refine bb_icmp_ge 226 dX9_init_202 (by decide +kernel) (fun h => absurd h (by decide)) (fun _ => ?_)
  refine bb_aload_0 dX9_init_205 ?_
  refine bb_get (v := .ref q1) 0 dX9_init_206 fl_X9_9 rfl rfl ?_
  refine bb_bipush (v := 11) dX9_init_209 (by decide) ?_
  refine bb_iload_1 dX9_init_211 ?_
  refine bb_iadd dX9_init_212 ?_
  rw [show (11 : Int32) + 5 = 16 by decide]
  refine bb_bipush (v := 10) dX9_init_213 (by decide) ?_
  refine bb_iload_1 dX9_init_215 ?_
  refine bb_iconst_1 dX9_init_216 ?_
  refine bb_iadd dX9_init_217 ?_
  rw [show (5 : Int32) + 1 = 6 by decide]
  refine bb_imul dX9_init_218 ?_
  rw [show (10 : Int32) * 6 = 60 by decide]
  refine bb_iast (j := 16) 1 dX9_init_219 rfl (by unfold vp_in; decide) (by decide) ?_
  refine bb_eq (w2 := ([(h0, .inr (9, [.ref q1, .ref q2, .ref q3, .int 0, .ref q4, .ref q5, .ref q6, .int 0, .int 0, .int 0, .int 0, .ref q7, .int 0, .ref q8, .ref q9, .ref q10, .ref q11, .int 0, .ref q12, .int 0, .int 0, .ref q13, .ref q14, .ref q15, .ref q16])), (q1, .inl (cA 0, 227, .inl (upd (upd (upd (upd (upd (upd (upd (upd (upd (fun _ => 0) 3 6) 4 9) 10 1) 11 10) 12 20) 13 30) 14 40) 15 50) 16 60))), (q2, .inl (cA 0, 227, .inl (fun _ => 0))), (q3, .inl (cA 0, 227, .inl (fun _ => 0))), (q4, .inl (cA 0, 6, .inl (fun _ => 0))), (q5, .inl (cA 0, 6, .inl (upd (upd (upd (upd (upd (upd (fun _ => 0) 0 9) 1 12) 2 20) 3 60) 4 99999999) 5 999))), (q6, .inl (cA 3, 2, .inr (.inr (.inr (.inr (va_up (va_up (fun _ => none) 0 (some s0)) 1 (some s1))))))), (q7, .inl (cA 0, 60, .inl (fun _ => 0))), (q8, .inl (cA 0, 4, .inl (fun _ => 0))), (q9, .inl (cA 0, 60, .inl (fun _ => 0))), (q10, .inl (cA 0, 8, .inl (fun _ => 0))), (q11, .inl (cA 0, 3, .inl (fun _ => 0))), (q12, .inl (cA 0, 40, .inl (fun _ => 0))), (q13, .inl (cA 0, 4, .inl (fun _ => 0))), (q14, .inl (cA 0, 4, .inl (fun _ => 0))), (q15, .inl (cA 0, 160, .inl (fun _ => 0))), (q16, .inl (cA 0, 40, .inl (fun _ => 0)))] : va_W)) rfl ?_
  refine bb_iinc_1 (w := 1) dX9_init_220 (by decide) rfl ?_
  rw [show (5 : Int32) + 1 = 6 by decide]
  refine bb_goto 199 dX9_init_223 (by decide +kernel) ?_
  refine bb_iload_1 dX9_init_199 ?_
  refine bb_bipush (v := 10) dX9_init_200 (by decide) ?_
  refine bb_icmp_ge 226 dX9_init_202 (by decide +kernel) (fun h => absurd h (by decide)) (fun _ => ?_)
  refine bb_aload_0 dX9_init_205 ?_
  refine bb_get (v := .ref q1) 0 dX9_init_206 fl_X9_9 rfl rfl ?_
  refine bb_bipush (v := 11) dX9_init_209 (by decide) ?_
  refine bb_iload_1 dX9_init_211 ?_
  refine bb_iadd dX9_init_212 ?_
  rw [show (11 : Int32) + 6 = 17 by decide]
  refine bb_bipush (v := 10) dX9_init_213 (by decide) ?_
  refine bb_iload_1 dX9_init_215 ?_
  refine bb_iconst_1 dX9_init_216 ?_
  refine bb_iadd dX9_init_217 ?_
  rw [show (6 : Int32) + 1 = 7 by decide]
  refine bb_imul dX9_init_218 ?_
  rw [show (10 : Int32) * 7 = 70 by decide]
  refine bb_iast (j := 17) 1 dX9_init_219 rfl (by unfold vp_in; decide) (by decide) ?_
  refine bb_eq (w2 := ([(h0, .inr (9, [.ref q1, .ref q2, .ref q3, .int 0, .ref q4, .ref q5, .ref q6, .int 0, .int 0, .int 0, .int 0, .ref q7, .int 0, .ref q8, .ref q9, .ref q10, .ref q11, .int 0, .ref q12, .int 0, .int 0, .ref q13, .ref q14, .ref q15, .ref q16])), (q1, .inl (cA 0, 227, .inl (upd (upd (upd (upd (upd (upd (upd (upd (upd (upd (fun _ => 0) 3 6) 4 9) 10 1) 11 10) 12 20) 13 30) 14 40) 15 50) 16 60) 17 70))), (q2, .inl (cA 0, 227, .inl (fun _ => 0))), (q3, .inl (cA 0, 227, .inl (fun _ => 0))), (q4, .inl (cA 0, 6, .inl (fun _ => 0))), (q5, .inl (cA 0, 6, .inl (upd (upd (upd (upd (upd (upd (fun _ => 0) 0 9) 1 12) 2 20) 3 60) 4 99999999) 5 999))), (q6, .inl (cA 3, 2, .inr (.inr (.inr (.inr (va_up (va_up (fun _ => none) 0 (some s0)) 1 (some s1))))))), (q7, .inl (cA 0, 60, .inl (fun _ => 0))), (q8, .inl (cA 0, 4, .inl (fun _ => 0))), (q9, .inl (cA 0, 60, .inl (fun _ => 0))), (q10, .inl (cA 0, 8, .inl (fun _ => 0))), (q11, .inl (cA 0, 3, .inl (fun _ => 0))), (q12, .inl (cA 0, 40, .inl (fun _ => 0))), (q13, .inl (cA 0, 4, .inl (fun _ => 0))), (q14, .inl (cA 0, 4, .inl (fun _ => 0))), (q15, .inl (cA 0, 160, .inl (fun _ => 0))), (q16, .inl (cA 0, 40, .inl (fun _ => 0)))] : va_W)) rfl ?_
  refine bb_iinc_1 (w := 1) dX9_init_220 (by decide) rfl ?_
  rw [show (6 : Int32) + 1 = 7 by decide]
  refine bb_goto 199 dX9_init_223 (by decide +kernel) ?_
  refine bb_iload_1 dX9_init_199 ?_
  refine bb_bipush (v := 10) dX9_init_200 (by decide) ?_
  refine bb_icmp_ge 226 dX9_init_202 (by decide +kernel) (fun h => absurd h (by decide)) (fun _ => ?_)
  refine bb_aload_0 dX9_init_205 ?_
  refine bb_get (v := .ref q1) 0 dX9_init_206 fl_X9_9 rfl rfl ?_
  refine bb_bipush (v := 11) dX9_init_209 (by decide) ?_
  refine bb_iload_1 dX9_init_211 ?_
  refine bb_iadd dX9_init_212 ?_
  rw [show (11 : Int32) + 7 = 18 by decide]
  refine bb_bipush (v := 10) dX9_init_213 (by decide) ?_
  refine bb_iload_1 dX9_init_215 ?_
  refine bb_iconst_1 dX9_init_216 ?_
  refine bb_iadd dX9_init_217 ?_
  rw [show (7 : Int32) + 1 = 8 by decide]
  refine bb_imul dX9_init_218 ?_
  rw [show (10 : Int32) * 8 = 80 by decide]
  refine bb_iast (j := 18) 1 dX9_init_219 rfl (by unfold vp_in; decide) (by decide) ?_
  refine bb_eq (w2 := ([(h0, .inr (9, [.ref q1, .ref q2, .ref q3, .int 0, .ref q4, .ref q5, .ref q6, .int 0, .int 0, .int 0, .int 0, .ref q7, .int 0, .ref q8, .ref q9, .ref q10, .ref q11, .int 0, .ref q12, .int 0, .int 0, .ref q13, .ref q14, .ref q15, .ref q16])), (q1, .inl (cA 0, 227, .inl (upd (upd (upd (upd (upd (upd (upd (upd (upd (upd (upd (fun _ => 0) 3 6) 4 9) 10 1) 11 10) 12 20) 13 30) 14 40) 15 50) 16 60) 17 70) 18 80))), (q2, .inl (cA 0, 227, .inl (fun _ => 0))), (q3, .inl (cA 0, 227, .inl (fun _ => 0))), (q4, .inl (cA 0, 6, .inl (fun _ => 0))), (q5, .inl (cA 0, 6, .inl (upd (upd (upd (upd (upd (upd (fun _ => 0) 0 9) 1 12) 2 20) 3 60) 4 99999999) 5 999))), (q6, .inl (cA 3, 2, .inr (.inr (.inr (.inr (va_up (va_up (fun _ => none) 0 (some s0)) 1 (some s1))))))), (q7, .inl (cA 0, 60, .inl (fun _ => 0))), (q8, .inl (cA 0, 4, .inl (fun _ => 0))), (q9, .inl (cA 0, 60, .inl (fun _ => 0))), (q10, .inl (cA 0, 8, .inl (fun _ => 0))), (q11, .inl (cA 0, 3, .inl (fun _ => 0))), (q12, .inl (cA 0, 40, .inl (fun _ => 0))), (q13, .inl (cA 0, 4, .inl (fun _ => 0))), (q14, .inl (cA 0, 4, .inl (fun _ => 0))), (q15, .inl (cA 0, 160, .inl (fun _ => 0))), (q16, .inl (cA 0, 40, .inl (fun _ => 0)))] : va_W)) rfl ?_
  refine bb_iinc_1 (w := 1) dX9_init_220 (by decide) rfl ?_
  rw [show (7 : Int32) + 1 = 8 by decide]
  refine bb_goto 199 dX9_init_223 (by decide +kernel) ?_
  refine bb_iload_1 dX9_init_199 ?_
  refine bb_bipush (v := 10) dX9_init_200 (by decide) ?_
  refine bb_icmp_ge 226 dX9_init_202 (by decide +kernel) (fun h => absurd h (by decide)) (fun _ => ?_)
  refine bb_aload_0 dX9_init_205 ?_
  refine bb_get (v := .ref q1) 0 dX9_init_206 fl_X9_9 rfl rfl ?_
  refine bb_bipush (v := 11) dX9_init_209 (by decide) ?_
  refine bb_iload_1 dX9_init_211 ?_
  refine bb_iadd dX9_init_212 ?_
  rw [show (11 : Int32) + 8 = 19 by decide]
  refine bb_bipush (v := 10) dX9_init_213 (by decide) ?_
  refine bb_iload_1 dX9_init_215 ?_
  refine bb_iconst_1 dX9_init_216 ?_
  refine bb_iadd dX9_init_217 ?_
  rw [show (8 : Int32) + 1 = 9 by decide]
  refine bb_imul dX9_init_218 ?_
  rw [show (10 : Int32) * 9 = 90 by decide]
  refine bb_iast (j := 19) 1 dX9_init_219 rfl (by unfold vp_in; decide) (by decide) ?_
  refine bb_eq (w2 := ([(h0, .inr (9, [.ref q1, .ref q2, .ref q3, .int 0, .ref q4, .ref q5, .ref q6, .int 0, .int 0, .int 0, .int 0, .ref q7, .int 0, .ref q8, .ref q9, .ref q10, .ref q11, .int 0, .ref q12, .int 0, .int 0, .ref q13, .ref q14, .ref q15, .ref q16])), (q1, .inl (cA 0, 227, .inl (upd (upd (upd (upd (upd (upd (upd (upd (upd (upd (upd (upd (fun _ => 0) 3 6) 4 9) 10 1) 11 10) 12 20) 13 30) 14 40) 15 50) 16 60) 17 70) 18 80) 19 90))), (q2, .inl (cA 0, 227, .inl (fun _ => 0))), (q3, .inl (cA 0, 227, .inl (fun _ => 0))), (q4, .inl (cA 0, 6, .inl (fun _ => 0))), (q5, .inl (cA 0, 6, .inl (upd (upd (upd (upd (upd (upd (fun _ => 0) 0 9) 1 12) 2 20) 3 60) 4 99999999) 5 999))), (q6, .inl (cA 3, 2, .inr (.inr (.inr (.inr (va_up (va_up (fun _ => none) 0 (some s0)) 1 (some s1))))))), (q7, .inl (cA 0, 60, .inl (fun _ => 0))), (q8, .inl (cA 0, 4, .inl (fun _ => 0))), (q9, .inl (cA 0, 60, .inl (fun _ => 0))), (q10, .inl (cA 0, 8, .inl (fun _ => 0))), (q11, .inl (cA 0, 3, .inl (fun _ => 0))), (q12, .inl (cA 0, 40, .inl (fun _ => 0))), (q13, .inl (cA 0, 4, .inl (fun _ => 0))), (q14, .inl (cA 0, 4, .inl (fun _ => 0))), (q15, .inl (cA 0, 160, .inl (fun _ => 0))), (q16, .inl (cA 0, 40, .inl (fun _ => 0)))] : va_W)) rfl ?_
  refine bb_iinc_1 (w := 1) dX9_init_220 (by decide) rfl ?_
  rw [show (8 : Int32) + 1 = 9 by decide]
  refine bb_goto 199 dX9_init_223 (by decide +kernel) ?_
  refine bb_iload_1 dX9_init_199 ?_
  refine bb_bipush (v := 10) dX9_init_200 (by decide) ?_
  refine bb_icmp_ge 226 dX9_init_202 (by decide +kernel) (fun h => absurd h (by decide)) (fun _ => ?_)
  refine bb_aload_0 dX9_init_205 ?_
  refine bb_get (v := .ref q1) 0 dX9_init_206 fl_X9_9 rfl rfl ?_
  refine bb_bipush (v := 11) dX9_init_209 (by decide) ?_
  refine bb_iload_1 dX9_init_211 ?_
  refine bb_iadd dX9_init_212 ?_
  rw [show (11 : Int32) + 9 = 20 by decide]
  refine bb_bipush (v := 10) dX9_init_213 (by decide) ?_
  refine bb_iload_1 dX9_init_215 ?_
  refine bb_iconst_1 dX9_init_216 ?_
  refine bb_iadd dX9_init_217 ?_
  rw [show (9 : Int32) + 1 = 10 by decide]
  refine bb_imul dX9_init_218 ?_
  rw [show (10 : Int32) * 10 = 100 by decide]
  refine bb_iast (j := 20) 1 dX9_init_219 rfl (by unfold vp_in; decide) (by decide) ?_
  refine bb_eq (w2 := ([(h0, .inr (9, [.ref q1, .ref q2, .ref q3, .int 0, .ref q4, .ref q5, .ref q6, .int 0, .int 0, .int 0, .int 0, .ref q7, .int 0, .ref q8, .ref q9, .ref q10, .ref q11, .int 0, .ref q12, .int 0, .int 0, .ref q13, .ref q14, .ref q15, .ref q16])), (q1, .inl (cA 0, 227, .inl (upd (upd (upd (upd (upd (upd (upd (upd (upd (upd (upd (upd (upd (fun _ => 0) 3 6) 4 9) 10 1) 11 10) 12 20) 13 30) 14 40) 15 50) 16 60) 17 70) 18 80) 19 90) 20 100))), (q2, .inl (cA 0, 227, .inl (fun _ => 0))), (q3, .inl (cA 0, 227, .inl (fun _ => 0))), (q4, .inl (cA 0, 6, .inl (fun _ => 0))), (q5, .inl (cA 0, 6, .inl (upd (upd (upd (upd (upd (upd (fun _ => 0) 0 9) 1 12) 2 20) 3 60) 4 99999999) 5 999))), (q6, .inl (cA 3, 2, .inr (.inr (.inr (.inr (va_up (va_up (fun _ => none) 0 (some s0)) 1 (some s1))))))), (q7, .inl (cA 0, 60, .inl (fun _ => 0))), (q8, .inl (cA 0, 4, .inl (fun _ => 0))), (q9, .inl (cA 0, 60, .inl (fun _ => 0))), (q10, .inl (cA 0, 8, .inl (fun _ => 0))), (q11, .inl (cA 0, 3, .inl (fun _ => 0))), (q12, .inl (cA 0, 40, .inl (fun _ => 0))), (q13, .inl (cA 0, 4, .inl (fun _ => 0))), (q14, .inl (cA 0, 4, .inl (fun _ => 0))), (q15, .inl (cA 0, 160, .inl (fun _ => 0))), (q16, .inl (cA 0, 40, .inl (fun _ => 0)))] : va_W)) rfl ?_
  refine bb_iinc_1 (w := 1) dX9_init_220 (by decide) rfl ?_
  rw [show (9 : Int32) + 1 = 10 by decide]
  refine bb_goto 199 dX9_init_223 (by decide +kernel) ?_
  refine bb_iload_1 dX9_init_199 ?_
  refine bb_bipush (v := 10) dX9_init_200 (by decide) ?_
  refine bb_icmp_ge 226 dX9_init_202 (by decide +kernel) (fun _ => ?_) (fun h => absurd (by decide) h)
  exact bb_ret dX9_init_226 ⟨fun i => if i < 1 then h0 else if i < 2 then q1 else if i < 3 then q2 else if i < 4 then q3 else if i < 5 then q4 else if i < 6 then q5 else if i < 7 then q6 else if i < 8 then q7 else if i < 9 then q8 else if i < 10 then q9 else if i < 11 then q10 else if i < 12 then q11 else if i < 13 then q12 else if i < 14 then q13 else if i < 15 then q14 else if i < 16 then q15 else if i < 17 then q16 else 0, rfl, rfl⟩
