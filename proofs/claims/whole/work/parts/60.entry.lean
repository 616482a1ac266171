/-! ===== the law from its entry: the two objects, then the loop ===== -/
theorem cl_L_7 : ng_CL RL 7 8 8 tyX8 := ⟨RX8, TX8, rfl, lw_X8, tyX8_ok, ng_inG (i := 74) (by decide +kernel) (by decide +kernel), ng_inG (i := 75) (by decide +kernel) (by decide +kernel), li_X8⟩
theorem cl_L_10 : ng_CL RL 10 9 25 tyX9 := ⟨RX9, TX9, rfl, lw_X9, tyX9_ok, ng_inG (i := 871) (by decide +kernel) (by decide +kernel), ng_inG (i := 872) (by decide +kernel) (by decide +kernel), li_X9⟩
theorem ng_Zs_calling {s0 s1 : Nat} : ∀ (A : Nat → Prop) (U : State) (g : JFrame) (mk : MethodId) (a : Array Value), ng_Zs s0 s1 A U → ng_Zs s0 s1 A (U.calling g mk a) := by
  intro A U g mk a h
  obtain ⟨h1, h2, h3, h4⟩ := h
  have e : U.vm.Alike (U.calling g mk a).vm := Vm.Alike.refl U.vm
  exact ⟨h1.moved e, h2.moved e, vk_R.same rfl h3, vk_R.same rfl h4⟩
section NgLc
variable {p : Program} {l : Launch} {e : Env} {R : Room} {s : State} {m : MethodId} {args : Array Value} {below : List Frame} {meth : Method} {c : Code} {cells slots : Nat} {Q : State → Prop} {A : Nat → Prop} {D : va_G} {cA : Nat → ClassId}
/-- a constructor is called in the law -/
theorem ng_lcall {cc : ByteArray} {nL : Nat} {own : String} {H : Heap} {locs : List Loc} {Z : (Nat → Prop) → State → Prop} {idx b d' mc ms pc : Nat} {y2 : ng_Y} {e0 : va_E} {G : (Nat → Nat) → va_W} {ww : va_W} {st : List Value} {ls : Array Slot} (S : CallFix p m c cc nL s args ng_G own) (hK : va_K D vwCl (ng_tys cA) s) (hN : ng_nst s) (hO : ng_AOs s) (hA : ∀ q, s.heap.size ≤ q → A q) (hZb : ∀ A U g mk a, Z A U → Z A (U.calling g mk a)) (hZ : ∀ U : State, U.heap = H → s.WarmedH U.vm → Z (va_A [(b, e0)] H.size) U)
    (hd : decode cc pc = .ok (.invokespecial idx, 3)) (hlink : Cond.methodLink own idx y2.1 ∈ ng_G) (hm : ng_MI y2 0) (he : ng_N Z D cA y2 d' mc ms [] e0 G) (hfr : d' + 1 ≤ R.frames) (hlo : 8 + (y2.2.2.1 + 11) + 40 * d' ≤ R.locals) (hcl : cells + mc ≤ R.cells) (hsl : slots + ms ≤ R.slots) (hst : (st.map fun v => v.category).sum ≤ 8) (hls : ls.size = nL)
    (hP : va_P D vwCl (ww ++ [(b, e0)]) H) (hD : va_D A (ww ++ [(b, e0)])) (hS : va_S A s.heap H locs) (k : ∀ (a : Nat → Nat) (H1 : Heap) (locs1 : List Loc), a 0 = b → va_P D vwCl (ww ++ G a) H1 → va_D A (ww ++ G a) → va_S A s.heap H1 locs1 → W p l e R s m args below meth c H1 locs1 (cells + mc) (slots + ms) Q (F0 m (pc + 3) ls st)) : W p l e R s m args below meth c H locs cells slots Q (F0 m pc ls (.ref b :: st)) := by
  have hM := he l b H.size
  have cw := cwI (own := own) (index := idx) (y := y2.1) (bytes := y2.2.1) (maxL := y2.2.2.1) (ws := ng_ws y2) (ws' := ng_G) (rm := ng_bR d' mc ms) (mc := mc) (ms := ms) (R := R) 0 S.2.2.2.2 (ng_goodIn hm.1) (by rw [ng_ws, hm.2.2.2]) rfl rfl (S.2.2.2.2 _ hm.1.2.1) (S.2.2.2.2 _ hlink) (S.2.2.2.2 _ hm.2.1) hm.2.2.1 hm.1.2.2.1 ⟨hfr, hlo⟩
  have hpre : PreS s H (va_Pc (.ref b :: []) (fun U => U.heap.size = H.size ∧ ng_BW Z D cA (va_A [(b, e0)] H.size) [(b, e0)] U)) (.ref b :: []) := ⟨ng_N_blind hZb, fun U hU hW => ⟨rfl, by rw [hU], by rw [hU]; exact hP.sub (ws' := [(b, e0)]) [ww.length] (by simp), va_K.moved hW.alike hK, hN.moved hW, hO.moved hW, hZ U hU hW⟩⟩
  have hFc : ∀ q, va_A [(b, e0)] H.size q → A q := va_free hD hS hA [ww.length] (by simp)
  refine va_callv (va_runI (As := []) (rest := st) S hM cw hpre rfl rfl hls rfl (lv_room hst) hd ⟨hcl, hsl⟩) hS (fun q _ h => hFc q h) hFc (fun a t H1 locs1 ht hvm hw hB hz1 hk1 hS1 => ?_)
  obtain ⟨hP1, hD1⟩ := hB
  rw [ht] at hP1
  obtain ⟨hP2, hD2⟩ := va_join (wc := [(b, e0)]) (wr := ww) (w1 := G a) hP hD [ww.length] (List.range ww.length) (by simp) (by
    apply List.ext_getElem?
    intro i
    rw [List.getElem?_map, List.getElem?_map]
    by_cases hi : i < ww.length
    · rw [List.getElem?_range hi]
      simp [List.getElem?_append_left hi, List.getElem?_eq_getElem hi]
    · rw [List.getElem?_eq_none (by simpa using hi), List.getElem?_eq_none (by simpa using hi)]
      rfl) (ng_nd_range ww.length) (fun i hi => by simp at hi ⊢; omega) hk1 hFc hP1 hD1
  exact k a H1 locs1 hw hP2 hD2 hS1
end NgLc
theorem l_law15 {X : Nat × (Nat → Int32)} (hX : X.1 ≤ 3072) : ng_Go X mi_L_law 61 15 [some (.ref 1007), some (.ref 0), none, none] [.ref 73] ng_M0 ng_F1 := by
  refine ng_astore_2 dL_law_15 rfl ?_
  refine ng_iconst_0 dL_law_16 ?_
  refine ng_istore_3 dL_law_17 rfl ?_
  exact l_law hX (X.1 + 1) 0 ng_M0 (by omega) (by omega) ng_inv0
