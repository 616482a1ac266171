/-! ===== the start: the memory, the cells in their order ===== -/
def ng_now0 : Nat → Int32 := upd (upd (upd (upd (upd (upd (upd (upd (upd (upd (upd (upd (upd (fun _ => 0) 3 6) 4 9) 10 1) 11 10) 12 20) 13 30) 14 40) 15 50) 16 60) 17 70) 18 80) 19 90) 20 100
def ng_smo0 : Nat → Int32 := upd (upd (upd (upd (upd (upd (fun _ => 0) 0 9) 1 12) 2 20) 3 60) 4 99999999) 5 999
def ng_M0 : ng_M := fun k => if k = 3 ∨ k = 22 then ng_coin0 else if k = 1 ∨ k = 20 then upd (fun _ => 0) 7 1 else if k = 15 ∨ k = 34 ∨ k = 41 ∨ k = 44 ∨ k = 47 ∨ k = 50 ∨ k = 53 then upd (upd (fun _ => 0) 4 6) 5 9 else if k = 74 then ng_now0 else if k = 78 then ng_smo0 else fun _ => 0
def ng_ad (a8 a9 t : Nat → Nat) : Nat → Nat := fun k => if k < 73 then a8 k else if k < 90 then a9 (k - 73) else t k
section NgW
variable {cA : Nat → ClassId} {a8 a9 t : Nat → Nat}
abbrev ng_GG (cA : Nat → ClassId) (a8 a9 t : Nat → Nat) : va_W := ng_G8 cA a8 ++ ng_G9 cA (t 1010) (t 1011) a9
theorem ng_up4 {x0 x1 x2 x3 : Nat} : va_up (va_up (va_up (va_up (fun _ => none) 0 (some x0)) 1 (some x1)) 2 (some x2)) 3 (some x3) = fun i => ([x0, x1, x2, x3] : List Nat)[i]? := by
  funext i
  match i with
  | 0 => rfl
  | 1 => rfl
  | 2 => rfl
  | 3 => rfl
  | i + 4 => simp [va_up]
theorem ng_up2 {x0 x1 : Nat} : va_up (va_up (fun _ => none) 0 (some x0)) 1 (some x1) = fun i => ([x0, x1] : List Nat)[i]? := by
  funext i
  match i with
  | 0 => rfl
  | 1 => rfl
  | i + 2 => simp [va_up]
theorem ng_map4 {ad : Nat → Nat} {k0 k1 k2 k3 : Nat} : (fun i : Nat => (([k0, k1, k2, k3] : List Nat)[i]?).map ad) = fun i => ([ad k0, ad k1, ad k2, ad k3] : List Nat)[i]? := by
  funext i
  match i with
  | 0 => rfl
  | 1 => rfl
  | 2 => rfl
  | 3 => rfl
  | i + 4 => simp
theorem ng_map2 {ad : Nat → Nat} {k0 k1 : Nat} : (fun i : Nat => (([k0, k1] : List Nat)[i]?).map ad) = fun i => ([ad k0, ad k1] : List Nat)[i]? := by
  funext i
  match i with
  | 0 => rfl
  | 1 => rfl
  | i + 2 => simp
def ng_mpi (g : Nat → ng_Sh → Nat × va_E) : Nat → List ng_Sh → va_W
  | _, [] => []
  | n, a :: l => g n a :: ng_mpi g (n + 1) l
theorem ng_mpi_at (g : Nat → ng_Sh → Nat × va_E) : ∀ (l : List ng_Sh) (n i : Nat), (ng_mpi g n l)[i]? = (l[i]?).map (g (n + i))
  | [], n, i => rfl
  | a :: l, n, 0 => rfl
  | a :: l, n, i + 1 => by
    have z := ng_mpi_at g l (n + 1) i
    rw [show n + 1 + i = n + (i + 1) by omega] at z
    exact z
theorem ng_wd_mpi {cA : Nat → ClassId} {ad : Nat → Nat} {M : ng_M} : ng_wd cA ad M = ng_mpi (fun k sh => (ad k, ng_we cA ad (M k) sh)) 0 ng_HS := by
  apply List.ext_getElem?
  intro i
  rw [ng_mpi_at, ng_wd, List.getElem?_mapIdx, Nat.zero_add]
set_option maxHeartbeats 8000000 in
theorem ng_w_eq : ng_wd cA (ng_ad a8 a9 t) ng_M0 = ng_GG cA a8 a9 t := by
  rw [ng_wd_mpi]
  have c1 : va_up (va_up (va_up (va_up (fun _ => none) 0 (some (a8 44))) 1 (some (a8 47))) 2 (some (a8 50))) 3 (some (a8 53)) = fun i => (([44, 47, 50, 53] : List Nat)[i]?).map (ng_ad a8 a9 t) := ng_up4.trans (ng_map4 (ad := ng_ad a8 a9 t) (k0 := 44) (k1 := 47) (k2 := 50) (k3 := 53)).symm
  have c2 : va_up (va_up (va_up (va_up (fun _ => none) 0 (some (a8 64))) 1 (some (a8 66))) 2 (some (a8 68))) 3 (some (a8 70)) = fun i => (([64, 66, 68, 70] : List Nat)[i]?).map (ng_ad a8 a9 t) := ng_up4.trans (ng_map4 (ad := ng_ad a8 a9 t) (k0 := 64) (k1 := 66) (k2 := 68) (k3 := 70)).symm
  have c3 : va_up (va_up (fun _ => none) 0 (some (t 1010))) 1 (some (t 1011)) = fun i => (([1010, 1011] : List Nat)[i]?).map (ng_ad a8 a9 t) := ng_up2.trans (ng_map2 (ad := ng_ad a8 a9 t) (k0 := 1010) (k1 := 1011)).symm
  simp only [ng_GG, ng_G8, ng_G9, ng_G7, ng_G1, ng_G3, ng_G5, ng_G0, ng_G6, ng_G2, ng_G4, List.append_assoc, List.cons_append, List.nil_append, Nat.reduceAdd]
  rw [c1, c2, c3]
  simp only [ng_mpi, ng_HS, ng_we, ng_fs, List.mapIdx_cons, List.mapIdx_nil, Nat.reduceAdd]
  simp [ng_ad, ng_M0, ng_coin0, ng_now0, ng_smo0, upd]
theorem ng_P0 {D : va_G} {H : Heap} (hP : va_P D vwCl (ng_GG cA a8 a9 t) H) : va_P D vwCl (ng_wd cA (ng_ad a8 a9 t) ng_M0) H := by
  rw [ng_w_eq]
  exact hP
theorem ng_D0 {A : Nat → Prop} (hD : va_D A (ng_GG cA a8 a9 t)) (M : ng_M) : va_D A (ng_wd cA (ng_ad a8 a9 t) M) := by
  rw [← ng_w_eq] at hD
  have key : ∀ (k : Nat) (q : Nat × va_E), (ng_wd cA (ng_ad a8 a9 t) M)[k]? = some q → ∃ e, (ng_wd cA (ng_ad a8 a9 t) ng_M0)[k]? = some (q.1, e) := by
    intro k q hq
    cases hs : ng_HS[k]? with
    | none =>
      rw [ng_wd, List.getElem?_mapIdx, hs] at hq
      cases hq
    | some sh =>
      rw [ng_wd_get hs] at hq
      cases hq
      exact ⟨_, ng_wd_get hs⟩
  refine ⟨fun i j p q hi hj hpq => ?_, fun k q hk => ?_⟩
  · obtain ⟨e1, g1⟩ := key i p hi
    obtain ⟨e2, g2⟩ := key j q hj
    exact hD.1 i j _ _ g1 g2 hpq
  · obtain ⟨e1, g1⟩ := key k q hk
    exact hD.2 k (q.1, e1) g1
end NgW
theorem ng_no {n j : Nat} (h : n = 0) : ¬ j < n := by omega
theorem ng_inv0 : ng_inv ng_M0 := by
  refine ⟨⟨⟨by decide +kernel, ⟨by decide +kernel, fun j hj => absurd hj (ng_no (by decide +kernel))⟩, ⟨by decide +kernel, fun j hj => absurd hj (ng_no (by decide +kernel))⟩⟩, by unfold ng_bnd; decide +kernel, ⟨⟨0, by decide +kernel, by decide, Or.inl rfl⟩, ⟨0, by decide +kernel, by decide, Or.inl rfl⟩⟩, fun j hj => absurd hj (ng_no (by decide +kernel)), fun j hj => absurd hj (ng_no (by decide +kernel))⟩, ⟨by decide +kernel, fun h => absurd (by decide +kernel) h⟩, fun k _ _ => ?_, ⟨by decide +kernel, 0, by decide +kernel, by decide, fun j hj => absurd hj (by omega)⟩, fun i hi => ?_, ?_⟩
  · rfl
  · have e : i = 0 ∨ i = 1 ∨ i = 2 ∨ i = 3 := by omega
    rcases e with rfl | rfl | rfl | rfl
    all_goals exact ⟨by decide +kernel, by decide +kernel, fun j hj => rfl, Or.inl (by decide +kernel), 0, by decide +kernel, by decide⟩
  · unfold ng_I6; decide +kernel
