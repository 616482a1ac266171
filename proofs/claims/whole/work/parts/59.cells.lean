/-! ===== the start: the memory, the cells in their order ===== -/
def ng_now0 : Nat → Int32 := upd (upd (upd (upd (upd (upd (upd (upd (upd (upd (upd (upd (upd (fun _ => 0) 3 6) 4 9) 10 1) 11 10) 12 20) 13 30) 14 40) 15 50) 16 60) 17 70) 18 80) 19 90) 20 100
def ng_smo0 : Nat → Int32 := upd (upd (upd (upd (upd (upd (fun _ => 0) 0 9) 1 12) 2 20) 3 60) 4 99999999) 5 999
def ng_M0 : ng_M := fun k => if k = 3 ∨ k = 22 then ng_coin0 else if k = 1 ∨ k = 20 then upd (fun _ => 0) 7 1 else if k = 15 ∨ k = 34 ∨ k = 41 ∨ k = 44 ∨ k = 47 ∨ k = 50 ∨ k = 53 then upd (upd (fun _ => 0) 4 6) 5 9 else if k = 74 then ng_now0 else if k = 78 then ng_smo0 else fun _ => 0
def ng_ad (a8 a9 t : Nat → Nat) : Nat → Nat := fun k => if k < 73 then a8 k else if k < 90 then a9 (k - 73) else t k
section NgW
variable {cA : Nat → ClassId} {a8 a9 t : Nat → Nat}
abbrev ng_GG (cA : Nat → ClassId) (a8 a9 t : Nat → Nat) : va_W := ng_G8 cA a8 ++ ng_G9 cA (t 1010) (t 1011) a9
theorem ng_up4 {x0 x1 x2 x3 : Nat} : va_up (va_up (va_up (va_up (fun _ => none) 0 (some x0)) 1 (some x1)) 2 (some x2)) 3 (some x3) = fun i => ([x0, x1, x2, x3] : List Nat)[i]? := by
  funext i
  match i with
  | 0 => rfl
  | 1 => rfl
  | 2 => rfl
  | 3 => rfl
  | i + 4 => simp [va_up]
theorem ng_up2 {x0 x1 : Nat} : va_up (va_up (fun _ => none) 0 (some x0)) 1 (some x1) = fun i => ([x0, x1] : List Nat)[i]? := by
  funext i
  match i with
  | 0 => rfl
  | 1 => rfl
  | i + 2 => simp [va_up]
theorem ng_map4 {ad : Nat → Nat} {k0 k1 k2 k3 : Nat} : (fun i => (([k0, k1, k2, k3] : List Nat)[i]?).map ad) = fun i => ([ad k0, ad k1, ad k2, ad k3] : List Nat)[i]? := by
  funext i
  match i with
  | 0 => rfl
  | 1 => rfl
  | 2 => rfl
  | 3 => rfl
  | i + 4 => simp
theorem ng_map2 {ad : Nat → Nat} {k0 k1 : Nat} : (fun i => (([k0, k1] : List Nat)[i]?).map ad) = fun i => ([ad k0, ad k1] : List Nat)[i]? := by
  funext i
  match i with
  | 0 => rfl
  | 1 => rfl
  | i + 2 => simp
theorem wk_0 : (ng_GG cA a8 a9 t)[0]? = some (ng_ad a8 a9 t 0, ng_we cA (ng_ad a8 a9 t) (ng_M0 0) (.inl (8, [some 1, some 20, some 39, some 58, some 60, some 63, some 72, none]))) := rfl
theorem wk_1 : (ng_GG cA a8 a9 t)[1]? = some (ng_ad a8 a9 t 1, ng_we cA (ng_ad a8 a9 t) (ng_M0 1) (.inl (7, [some 2, some 15, some 18, some 19, none, none, none, none]))) := rfl
theorem wk_2 : (ng_GG cA a8 a9 t)[2]? = some (ng_ad a8 a9 t 2, ng_we cA (ng_ad a8 a9 t) (ng_M0 2) (.inl (3, [some 3, some 4, some 5, some 6, some 7, some 11, none]))) := rfl
theorem wk_3 : (ng_GG cA a8 a9 t)[3]? = some (ng_ad a8 a9 t 3, ng_we cA (ng_ad a8 a9 t) (ng_M0 3) (.inr (.inl 10))) := rfl
theorem wk_4 : (ng_GG cA a8 a9 t)[4]? = some (ng_ad a8 a9 t 4, ng_we cA (ng_ad a8 a9 t) (ng_M0 4) (.inr (.inl 8))) := rfl
theorem wk_5 : (ng_GG cA a8 a9 t)[5]? = some (ng_ad a8 a9 t 5, ng_we cA (ng_ad a8 a9 t) (ng_M0 5) (.inr (.inl 8))) := rfl
theorem wk_6 : (ng_GG cA a8 a9 t)[6]? = some (ng_ad a8 a9 t 6, ng_we cA (ng_ad a8 a9 t) (ng_M0 6) (.inr (.inl 8))) := rfl
theorem wk_7 : (ng_GG cA a8 a9 t)[7]? = some (ng_ad a8 a9 t 7, ng_we cA (ng_ad a8 a9 t) (ng_M0 7) (.inl (0, [some 8, none, some 9, some 10]))) := rfl
theorem wk_8 : (ng_GG cA a8 a9 t)[8]? = some (ng_ad a8 a9 t 8, ng_we cA (ng_ad a8 a9 t) (ng_M0 8) (.inr (.inl 50))) := rfl
theorem wk_9 : (ng_GG cA a8 a9 t)[9]? = some (ng_ad a8 a9 t 9, ng_we cA (ng_ad a8 a9 t) (ng_M0 9) (.inr (.inl 4))) := rfl
theorem wk_10 : (ng_GG cA a8 a9 t)[10]? = some (ng_ad a8 a9 t 10, ng_we cA (ng_ad a8 a9 t) (ng_M0 10) (.inr (.inl 50))) := rfl
theorem wk_11 : (ng_GG cA a8 a9 t)[11]? = some (ng_ad a8 a9 t 11, ng_we cA (ng_ad a8 a9 t) (ng_M0 11) (.inl (0, [some 12, none, some 13, some 14]))) := rfl
theorem wk_12 : (ng_GG cA a8 a9 t)[12]? = some (ng_ad a8 a9 t 12, ng_we cA (ng_ad a8 a9 t) (ng_M0 12) (.inr (.inl 50))) := rfl
theorem wk_13 : (ng_GG cA a8 a9 t)[13]? = some (ng_ad a8 a9 t 13, ng_we cA (ng_ad a8 a9 t) (ng_M0 13) (.inr (.inl 4))) := rfl
theorem wk_14 : (ng_GG cA a8 a9 t)[14]? = some (ng_ad a8 a9 t 14, ng_we cA (ng_ad a8 a9 t) (ng_M0 14) (.inr (.inl 50))) := rfl
theorem wk_15 : (ng_GG cA a8 a9 t)[15]? = some (ng_ad a8 a9 t 15, ng_we cA (ng_ad a8 a9 t) (ng_M0 15) (.inl (5, [some 2, some 16, some 17, none, none, none, none, none, none, none, none, none]))) := rfl
theorem wk_16 : (ng_GG cA a8 a9 t)[16]? = some (ng_ad a8 a9 t 16, ng_we cA (ng_ad a8 a9 t) (ng_M0 16) (.inr (.inl 8))) := rfl
theorem wk_17 : (ng_GG cA a8 a9 t)[17]? = some (ng_ad a8 a9 t 17, ng_we cA (ng_ad a8 a9 t) (ng_M0 17) (.inr (.inl 8))) := rfl
theorem wk_18 : (ng_GG cA a8 a9 t)[18]? = some (ng_ad a8 a9 t 18, ng_we cA (ng_ad a8 a9 t) (ng_M0 18) (.inr (.inl 50))) := rfl
theorem wk_19 : (ng_GG cA a8 a9 t)[19]? = some (ng_ad a8 a9 t 19, ng_we cA (ng_ad a8 a9 t) (ng_M0 19) (.inr (.inl 20))) := rfl
theorem wk_20 : (ng_GG cA a8 a9 t)[20]? = some (ng_ad a8 a9 t 20, ng_we cA (ng_ad a8 a9 t) (ng_M0 20) (.inl (7, [some 21, some 34, some 37, some 38, none, none, none, none]))) := rfl
theorem wk_21 : (ng_GG cA a8 a9 t)[21]? = some (ng_ad a8 a9 t 21, ng_we cA (ng_ad a8 a9 t) (ng_M0 21) (.inl (3, [some 22, some 23, some 24, some 25, some 26, some 30, none]))) := rfl
theorem wk_22 : (ng_GG cA a8 a9 t)[22]? = some (ng_ad a8 a9 t 22, ng_we cA (ng_ad a8 a9 t) (ng_M0 22) (.inr (.inl 10))) := rfl
theorem wk_23 : (ng_GG cA a8 a9 t)[23]? = some (ng_ad a8 a9 t 23, ng_we cA (ng_ad a8 a9 t) (ng_M0 23) (.inr (.inl 8))) := rfl
theorem wk_24 : (ng_GG cA a8 a9 t)[24]? = some (ng_ad a8 a9 t 24, ng_we cA (ng_ad a8 a9 t) (ng_M0 24) (.inr (.inl 8))) := rfl
theorem wk_25 : (ng_GG cA a8 a9 t)[25]? = some (ng_ad a8 a9 t 25, ng_we cA (ng_ad a8 a9 t) (ng_M0 25) (.inr (.inl 8))) := rfl
theorem wk_26 : (ng_GG cA a8 a9 t)[26]? = some (ng_ad a8 a9 t 26, ng_we cA (ng_ad a8 a9 t) (ng_M0 26) (.inl (0, [some 27, none, some 28, some 29]))) := rfl
theorem wk_27 : (ng_GG cA a8 a9 t)[27]? = some (ng_ad a8 a9 t 27, ng_we cA (ng_ad a8 a9 t) (ng_M0 27) (.inr (.inl 50))) := rfl
theorem wk_28 : (ng_GG cA a8 a9 t)[28]? = some (ng_ad a8 a9 t 28, ng_we cA (ng_ad a8 a9 t) (ng_M0 28) (.inr (.inl 4))) := rfl
theorem wk_29 : (ng_GG cA a8 a9 t)[29]? = some (ng_ad a8 a9 t 29, ng_we cA (ng_ad a8 a9 t) (ng_M0 29) (.inr (.inl 50))) := rfl
theorem wk_30 : (ng_GG cA a8 a9 t)[30]? = some (ng_ad a8 a9 t 30, ng_we cA (ng_ad a8 a9 t) (ng_M0 30) (.inl (0, [some 31, none, some 32, some 33]))) := rfl
theorem wk_31 : (ng_GG cA a8 a9 t)[31]? = some (ng_ad a8 a9 t 31, ng_we cA (ng_ad a8 a9 t) (ng_M0 31) (.inr (.inl 50))) := rfl
theorem wk_32 : (ng_GG cA a8 a9 t)[32]? = some (ng_ad a8 a9 t 32, ng_we cA (ng_ad a8 a9 t) (ng_M0 32) (.inr (.inl 4))) := rfl
theorem wk_33 : (ng_GG cA a8 a9 t)[33]? = some (ng_ad a8 a9 t 33, ng_we cA (ng_ad a8 a9 t) (ng_M0 33) (.inr (.inl 50))) := rfl
theorem wk_34 : (ng_GG cA a8 a9 t)[34]? = some (ng_ad a8 a9 t 34, ng_we cA (ng_ad a8 a9 t) (ng_M0 34) (.inl (5, [some 21, some 35, some 36, none, none, none, none, none, none, none, none, none]))) := rfl
theorem wk_35 : (ng_GG cA a8 a9 t)[35]? = some (ng_ad a8 a9 t 35, ng_we cA (ng_ad a8 a9 t) (ng_M0 35) (.inr (.inl 8))) := rfl
theorem wk_36 : (ng_GG cA a8 a9 t)[36]? = some (ng_ad a8 a9 t 36, ng_we cA (ng_ad a8 a9 t) (ng_M0 36) (.inr (.inl 8))) := rfl
theorem wk_37 : (ng_GG cA a8 a9 t)[37]? = some (ng_ad a8 a9 t 37, ng_we cA (ng_ad a8 a9 t) (ng_M0 37) (.inr (.inl 50))) := rfl
theorem wk_38 : (ng_GG cA a8 a9 t)[38]? = some (ng_ad a8 a9 t 38, ng_we cA (ng_ad a8 a9 t) (ng_M0 38) (.inr (.inl 20))) := rfl
theorem wk_39 : (ng_GG cA a8 a9 t)[39]? = some (ng_ad a8 a9 t 39, ng_we cA (ng_ad a8 a9 t) (ng_M0 39) (.inl (1, [some 40, some 41, some 56, some 57, none, none]))) := rfl
theorem wk_40 : (ng_GG cA a8 a9 t)[40]? = some (ng_ad a8 a9 t 40, ng_we cA (ng_ad a8 a9 t) (ng_M0 40) (.inr (.inr (4, 2, fun i => ([44, 47, 50, 53] : List Nat)[i]?)))) := by
  show some ((a8 40, .inl (cA 2, 4, .inr (.inr (.inr (.inr (va_up (va_up (va_up (va_up (fun _ => none) 0 (some (a8 44))) 1 (some (a8 47))) 2 (some (a8 50))) 3 (some (a8 53)))))))) : Nat × va_E) = some (ng_ad a8 a9 t 40, .inl (cA 2, 4, .inr (.inr (.inr (.inr (fun i => (([44, 47, 50, 53] : List Nat)[i]?).map (ng_ad a8 a9 t)))))))
  rw [ng_up4, ng_map4]
  rfl
theorem wk_41 : (ng_GG cA a8 a9 t)[41]? = some (ng_ad a8 a9 t 41, ng_we cA (ng_ad a8 a9 t) (ng_M0 41) (.inl (5, [some 2, some 42, some 43, none, none, none, none, none, none, none, none, none]))) := rfl
theorem wk_42 : (ng_GG cA a8 a9 t)[42]? = some (ng_ad a8 a9 t 42, ng_we cA (ng_ad a8 a9 t) (ng_M0 42) (.inr (.inl 8))) := rfl
theorem wk_43 : (ng_GG cA a8 a9 t)[43]? = some (ng_ad a8 a9 t 43, ng_we cA (ng_ad a8 a9 t) (ng_M0 43) (.inr (.inl 8))) := rfl
theorem wk_44 : (ng_GG cA a8 a9 t)[44]? = some (ng_ad a8 a9 t 44, ng_we cA (ng_ad a8 a9 t) (ng_M0 44) (.inl (5, [some 2, some 45, some 46, none, none, none, none, none, none, none, none, none]))) := rfl
theorem wk_45 : (ng_GG cA a8 a9 t)[45]? = some (ng_ad a8 a9 t 45, ng_we cA (ng_ad a8 a9 t) (ng_M0 45) (.inr (.inl 8))) := rfl
theorem wk_46 : (ng_GG cA a8 a9 t)[46]? = some (ng_ad a8 a9 t 46, ng_we cA (ng_ad a8 a9 t) (ng_M0 46) (.inr (.inl 8))) := rfl
theorem wk_47 : (ng_GG cA a8 a9 t)[47]? = some (ng_ad a8 a9 t 47, ng_we cA (ng_ad a8 a9 t) (ng_M0 47) (.inl (5, [some 2, some 48, some 49, none, none, none, none, none, none, none, none, none]))) := rfl
theorem wk_48 : (ng_GG cA a8 a9 t)[48]? = some (ng_ad a8 a9 t 48, ng_we cA (ng_ad a8 a9 t) (ng_M0 48) (.inr (.inl 8))) := rfl
theorem wk_49 : (ng_GG cA a8 a9 t)[49]? = some (ng_ad a8 a9 t 49, ng_we cA (ng_ad a8 a9 t) (ng_M0 49) (.inr (.inl 8))) := rfl
theorem wk_50 : (ng_GG cA a8 a9 t)[50]? = some (ng_ad a8 a9 t 50, ng_we cA (ng_ad a8 a9 t) (ng_M0 50) (.inl (5, [some 2, some 51, some 52, none, none, none, none, none, none, none, none, none]))) := rfl
theorem wk_51 : (ng_GG cA a8 a9 t)[51]? = some (ng_ad a8 a9 t 51, ng_we cA (ng_ad a8 a9 t) (ng_M0 51) (.inr (.inl 8))) := rfl
theorem wk_52 : (ng_GG cA a8 a9 t)[52]? = some (ng_ad a8 a9 t 52, ng_we cA (ng_ad a8 a9 t) (ng_M0 52) (.inr (.inl 8))) := rfl
theorem wk_53 : (ng_GG cA a8 a9 t)[53]? = some (ng_ad a8 a9 t 53, ng_we cA (ng_ad a8 a9 t) (ng_M0 53) (.inl (5, [some 2, some 54, some 55, none, none, none, none, none, none, none, none, none]))) := rfl
theorem wk_54 : (ng_GG cA a8 a9 t)[54]? = some (ng_ad a8 a9 t 54, ng_we cA (ng_ad a8 a9 t) (ng_M0 54) (.inr (.inl 8))) := rfl
theorem wk_55 : (ng_GG cA a8 a9 t)[55]? = some (ng_ad a8 a9 t 55, ng_we cA (ng_ad a8 a9 t) (ng_M0 55) (.inr (.inl 8))) := rfl
theorem wk_56 : (ng_GG cA a8 a9 t)[56]? = some (ng_ad a8 a9 t 56, ng_we cA (ng_ad a8 a9 t) (ng_M0 56) (.inr (.inl 3))) := rfl
theorem wk_57 : (ng_GG cA a8 a9 t)[57]? = some (ng_ad a8 a9 t 57, ng_we cA (ng_ad a8 a9 t) (ng_M0 57) (.inr (.inl 3))) := rfl
theorem wk_58 : (ng_GG cA a8 a9 t)[58]? = some (ng_ad a8 a9 t 58, ng_we cA (ng_ad a8 a9 t) (ng_M0 58) (.inl (6, [some 59, none, none, none, none]))) := rfl
theorem wk_59 : (ng_GG cA a8 a9 t)[59]? = some (ng_ad a8 a9 t 59, ng_we cA (ng_ad a8 a9 t) (ng_M0 59) (.inr (.inl 40))) := rfl
theorem wk_60 : (ng_GG cA a8 a9 t)[60]? = some (ng_ad a8 a9 t 60, ng_we cA (ng_ad a8 a9 t) (ng_M0 60) (.inl (2, [some 61, none, some 62, none, none, none]))) := rfl
theorem wk_61 : (ng_GG cA a8 a9 t)[61]? = some (ng_ad a8 a9 t 61, ng_we cA (ng_ad a8 a9 t) (ng_M0 61) (.inr (.inl 50))) := rfl
theorem wk_62 : (ng_GG cA a8 a9 t)[62]? = some (ng_ad a8 a9 t 62, ng_we cA (ng_ad a8 a9 t) (ng_M0 62) (.inr (.inl 50))) := rfl
theorem wk_63 : (ng_GG cA a8 a9 t)[63]? = some (ng_ad a8 a9 t 63, ng_we cA (ng_ad a8 a9 t) (ng_M0 63) (.inr (.inr (4, 1, fun i => ([64, 66, 68, 70] : List Nat)[i]?)))) := by
  show some ((a8 63, .inl (cA 1, 4, .inr (.inr (.inr (.inr (va_up (va_up (va_up (va_up (fun _ => none) 0 (some (a8 64))) 1 (some (a8 66))) 2 (some (a8 68))) 3 (some (a8 70)))))))) : Nat × va_E) = some (ng_ad a8 a9 t 63, .inl (cA 1, 4, .inr (.inr (.inr (.inr (fun i => (([64, 66, 68, 70] : List Nat)[i]?).map (ng_ad a8 a9 t)))))))
  rw [ng_up4, ng_map4]
  rfl
theorem wk_64 : (ng_GG cA a8 a9 t)[64]? = some (ng_ad a8 a9 t 64, ng_we cA (ng_ad a8 a9 t) (ng_M0 64) (.inl (4, [some 65, none, none]))) := rfl
theorem wk_65 : (ng_GG cA a8 a9 t)[65]? = some (ng_ad a8 a9 t 65, ng_we cA (ng_ad a8 a9 t) (ng_M0 65) (.inr (.inl 40))) := rfl
theorem wk_66 : (ng_GG cA a8 a9 t)[66]? = some (ng_ad a8 a9 t 66, ng_we cA (ng_ad a8 a9 t) (ng_M0 66) (.inl (4, [some 67, none, none]))) := rfl
theorem wk_67 : (ng_GG cA a8 a9 t)[67]? = some (ng_ad a8 a9 t 67, ng_we cA (ng_ad a8 a9 t) (ng_M0 67) (.inr (.inl 40))) := rfl
theorem wk_68 : (ng_GG cA a8 a9 t)[68]? = some (ng_ad a8 a9 t 68, ng_we cA (ng_ad a8 a9 t) (ng_M0 68) (.inl (4, [some 69, none, none]))) := rfl
theorem wk_69 : (ng_GG cA a8 a9 t)[69]? = some (ng_ad a8 a9 t 69, ng_we cA (ng_ad a8 a9 t) (ng_M0 69) (.inr (.inl 40))) := rfl
theorem wk_70 : (ng_GG cA a8 a9 t)[70]? = some (ng_ad a8 a9 t 70, ng_we cA (ng_ad a8 a9 t) (ng_M0 70) (.inl (4, [some 71, none, none]))) := rfl
theorem wk_71 : (ng_GG cA a8 a9 t)[71]? = some (ng_ad a8 a9 t 71, ng_we cA (ng_ad a8 a9 t) (ng_M0 71) (.inr (.inl 40))) := rfl
theorem wk_72 : (ng_GG cA a8 a9 t)[72]? = some (ng_ad a8 a9 t 72, ng_we cA (ng_ad a8 a9 t) (ng_M0 72) (.inr (.inl 6))) := rfl
theorem wk_73 : (ng_GG cA a8 a9 t)[73]? = some (ng_ad a8 a9 t 73, ng_we cA (ng_ad a8 a9 t) (ng_M0 73) (.inl (9, [some 74, some 75, some 76, none, some 77, some 78, some 79, none, none, none, none, some 80, none, some 81, some 82, some 83, some 84, none, some 85, none, none, some 86, some 87, some 88, some 89]))) := rfl
theorem wk_74 : (ng_GG cA a8 a9 t)[74]? = some (ng_ad a8 a9 t 74, ng_we cA (ng_ad a8 a9 t) (ng_M0 74) (.inr (.inl 227))) := rfl
theorem wk_75 : (ng_GG cA a8 a9 t)[75]? = some (ng_ad a8 a9 t 75, ng_we cA (ng_ad a8 a9 t) (ng_M0 75) (.inr (.inl 227))) := rfl
theorem wk_76 : (ng_GG cA a8 a9 t)[76]? = some (ng_ad a8 a9 t 76, ng_we cA (ng_ad a8 a9 t) (ng_M0 76) (.inr (.inl 227))) := rfl
theorem wk_77 : (ng_GG cA a8 a9 t)[77]? = some (ng_ad a8 a9 t 77, ng_we cA (ng_ad a8 a9 t) (ng_M0 77) (.inr (.inl 6))) := rfl
theorem wk_78 : (ng_GG cA a8 a9 t)[78]? = some (ng_ad a8 a9 t 78, ng_we cA (ng_ad a8 a9 t) (ng_M0 78) (.inr (.inl 6))) := rfl
theorem wk_79 : (ng_GG cA a8 a9 t)[79]? = some (ng_ad a8 a9 t 79, ng_we cA (ng_ad a8 a9 t) (ng_M0 79) (.inr (.inr (2, 3, fun i => ([1010, 1011] : List Nat)[i]?)))) := by
  show some ((a9 6, .inl (cA 3, 2, .inr (.inr (.inr (.inr (va_up (va_up (fun _ => none) 0 (some (t 1010))) 1 (some (t 1011)))))))) : Nat × va_E) = some (ng_ad a8 a9 t 79, .inl (cA 3, 2, .inr (.inr (.inr (.inr (fun i => (([1010, 1011] : List Nat)[i]?).map (ng_ad a8 a9 t)))))))
  rw [ng_up2, ng_map2]
  rfl
theorem wk_80 : (ng_GG cA a8 a9 t)[80]? = some (ng_ad a8 a9 t 80, ng_we cA (ng_ad a8 a9 t) (ng_M0 80) (.inr (.inl 60))) := rfl
theorem wk_81 : (ng_GG cA a8 a9 t)[81]? = some (ng_ad a8 a9 t 81, ng_we cA (ng_ad a8 a9 t) (ng_M0 81) (.inr (.inl 4))) := rfl
theorem wk_82 : (ng_GG cA a8 a9 t)[82]? = some (ng_ad a8 a9 t 82, ng_we cA (ng_ad a8 a9 t) (ng_M0 82) (.inr (.inl 60))) := rfl
theorem wk_83 : (ng_GG cA a8 a9 t)[83]? = some (ng_ad a8 a9 t 83, ng_we cA (ng_ad a8 a9 t) (ng_M0 83) (.inr (.inl 8))) := rfl
theorem wk_84 : (ng_GG cA a8 a9 t)[84]? = some (ng_ad a8 a9 t 84, ng_we cA (ng_ad a8 a9 t) (ng_M0 84) (.inr (.inl 3))) := rfl
theorem wk_85 : (ng_GG cA a8 a9 t)[85]? = some (ng_ad a8 a9 t 85, ng_we cA (ng_ad a8 a9 t) (ng_M0 85) (.inr (.inl 40))) := rfl
theorem wk_86 : (ng_GG cA a8 a9 t)[86]? = some (ng_ad a8 a9 t 86, ng_we cA (ng_ad a8 a9 t) (ng_M0 86) (.inr (.inl 4))) := rfl
theorem wk_87 : (ng_GG cA a8 a9 t)[87]? = some (ng_ad a8 a9 t 87, ng_we cA (ng_ad a8 a9 t) (ng_M0 87) (.inr (.inl 4))) := rfl
theorem wk_88 : (ng_GG cA a8 a9 t)[88]? = some (ng_ad a8 a9 t 88, ng_we cA (ng_ad a8 a9 t) (ng_M0 88) (.inr (.inl 160))) := rfl
theorem wk_89 : (ng_GG cA a8 a9 t)[89]? = some (ng_ad a8 a9 t 89, ng_we cA (ng_ad a8 a9 t) (ng_M0 89) (.inr (.inl 40))) := rfl
theorem ng_wk : ∀ k, k < 90 → ∃ sh, ng_HS[k]? = some sh ∧ (ng_GG cA a8 a9 t)[k]? = some (ng_ad a8 a9 t k, ng_we cA (ng_ad a8 a9 t) (ng_M0 k) sh)
  | 0, _ => ⟨_, rfl, wk_0⟩
  | 1, _ => ⟨_, rfl, wk_1⟩
  | 2, _ => ⟨_, rfl, wk_2⟩
  | 3, _ => ⟨_, rfl, wk_3⟩
  | 4, _ => ⟨_, rfl, wk_4⟩
  | 5, _ => ⟨_, rfl, wk_5⟩
  | 6, _ => ⟨_, rfl, wk_6⟩
  | 7, _ => ⟨_, rfl, wk_7⟩
  | 8, _ => ⟨_, rfl, wk_8⟩
  | 9, _ => ⟨_, rfl, wk_9⟩
  | 10, _ => ⟨_, rfl, wk_10⟩
  | 11, _ => ⟨_, rfl, wk_11⟩
  | 12, _ => ⟨_, rfl, wk_12⟩
  | 13, _ => ⟨_, rfl, wk_13⟩
  | 14, _ => ⟨_, rfl, wk_14⟩
  | 15, _ => ⟨_, rfl, wk_15⟩
  | 16, _ => ⟨_, rfl, wk_16⟩
  | 17, _ => ⟨_, rfl, wk_17⟩
  | 18, _ => ⟨_, rfl, wk_18⟩
  | 19, _ => ⟨_, rfl, wk_19⟩
  | 20, _ => ⟨_, rfl, wk_20⟩
  | 21, _ => ⟨_, rfl, wk_21⟩
  | 22, _ => ⟨_, rfl, wk_22⟩
  | 23, _ => ⟨_, rfl, wk_23⟩
  | 24, _ => ⟨_, rfl, wk_24⟩
  | 25, _ => ⟨_, rfl, wk_25⟩
  | 26, _ => ⟨_, rfl, wk_26⟩
  | 27, _ => ⟨_, rfl, wk_27⟩
  | 28, _ => ⟨_, rfl, wk_28⟩
  | 29, _ => ⟨_, rfl, wk_29⟩
  | 30, _ => ⟨_, rfl, wk_30⟩
  | 31, _ => ⟨_, rfl, wk_31⟩
  | 32, _ => ⟨_, rfl, wk_32⟩
  | 33, _ => ⟨_, rfl, wk_33⟩
  | 34, _ => ⟨_, rfl, wk_34⟩
  | 35, _ => ⟨_, rfl, wk_35⟩
  | 36, _ => ⟨_, rfl, wk_36⟩
  | 37, _ => ⟨_, rfl, wk_37⟩
  | 38, _ => ⟨_, rfl, wk_38⟩
  | 39, _ => ⟨_, rfl, wk_39⟩
  | 40, _ => ⟨_, rfl, wk_40⟩
  | 41, _ => ⟨_, rfl, wk_41⟩
  | 42, _ => ⟨_, rfl, wk_42⟩
  | 43, _ => ⟨_, rfl, wk_43⟩
  | 44, _ => ⟨_, rfl, wk_44⟩
  | 45, _ => ⟨_, rfl, wk_45⟩
  | 46, _ => ⟨_, rfl, wk_46⟩
  | 47, _ => ⟨_, rfl, wk_47⟩
  | 48, _ => ⟨_, rfl, wk_48⟩
  | 49, _ => ⟨_, rfl, wk_49⟩
  | 50, _ => ⟨_, rfl, wk_50⟩
  | 51, _ => ⟨_, rfl, wk_51⟩
  | 52, _ => ⟨_, rfl, wk_52⟩
  | 53, _ => ⟨_, rfl, wk_53⟩
  | 54, _ => ⟨_, rfl, wk_54⟩
  | 55, _ => ⟨_, rfl, wk_55⟩
  | 56, _ => ⟨_, rfl, wk_56⟩
  | 57, _ => ⟨_, rfl, wk_57⟩
  | 58, _ => ⟨_, rfl, wk_58⟩
  | 59, _ => ⟨_, rfl, wk_59⟩
  | 60, _ => ⟨_, rfl, wk_60⟩
  | 61, _ => ⟨_, rfl, wk_61⟩
  | 62, _ => ⟨_, rfl, wk_62⟩
  | 63, _ => ⟨_, rfl, wk_63⟩
  | 64, _ => ⟨_, rfl, wk_64⟩
  | 65, _ => ⟨_, rfl, wk_65⟩
  | 66, _ => ⟨_, rfl, wk_66⟩
  | 67, _ => ⟨_, rfl, wk_67⟩
  | 68, _ => ⟨_, rfl, wk_68⟩
  | 69, _ => ⟨_, rfl, wk_69⟩
  | 70, _ => ⟨_, rfl, wk_70⟩
  | 71, _ => ⟨_, rfl, wk_71⟩
  | 72, _ => ⟨_, rfl, wk_72⟩
  | 73, _ => ⟨_, rfl, wk_73⟩
  | 74, _ => ⟨_, rfl, wk_74⟩
  | 75, _ => ⟨_, rfl, wk_75⟩
  | 76, _ => ⟨_, rfl, wk_76⟩
  | 77, _ => ⟨_, rfl, wk_77⟩
  | 78, _ => ⟨_, rfl, wk_78⟩
  | 79, _ => ⟨_, rfl, wk_79⟩
  | 80, _ => ⟨_, rfl, wk_80⟩
  | 81, _ => ⟨_, rfl, wk_81⟩
  | 82, _ => ⟨_, rfl, wk_82⟩
  | 83, _ => ⟨_, rfl, wk_83⟩
  | 84, _ => ⟨_, rfl, wk_84⟩
  | 85, _ => ⟨_, rfl, wk_85⟩
  | 86, _ => ⟨_, rfl, wk_86⟩
  | 87, _ => ⟨_, rfl, wk_87⟩
  | 88, _ => ⟨_, rfl, wk_88⟩
  | 89, _ => ⟨_, rfl, wk_89⟩
  | k + 90, h => absurd h (by omega)
theorem ng_HS_len : ng_HS.length = 90 := rfl
theorem ng_P0 {D : va_G} {H : Heap} (hP : va_P D vwCl (ng_GG cA a8 a9 t) H) : va_P D vwCl (ng_wd cA (ng_ad a8 a9 t) ng_M0) H := by
  intro k q hq
  have hk : k < 90 := by
    have z := (List.getElem?_eq_some_iff.mp hq).1
    rw [ng_wd, List.length_mapIdx, ng_HS_len] at z
    exact z
  obtain ⟨sh, h1, h2⟩ := ng_wk (cA := cA) (a8 := a8) (a9 := a9) (t := t) k hk
  rw [ng_wd_get h1] at hq
  exact hP k q (h2.trans hq)
theorem ng_D0 {A : Nat → Prop} (hD : va_D A (ng_GG cA a8 a9 t)) (M : ng_M) : va_D A (ng_wd cA (ng_ad a8 a9 t) M) := by
  have key : ∀ (k : Nat) (q : Nat × va_E), (ng_wd cA (ng_ad a8 a9 t) M)[k]? = some q → ∃ e, (ng_GG cA a8 a9 t)[k]? = some (q.1, e) := by
    intro k q hq
    have hk : k < 90 := by
      have z := (List.getElem?_eq_some_iff.mp hq).1
      rw [ng_wd, List.length_mapIdx, ng_HS_len] at z
      exact z
    obtain ⟨sh, h1, h2⟩ := ng_wk (cA := cA) (a8 := a8) (a9 := a9) (t := t) k hk
    rw [ng_wd_get h1] at hq
    cases hq
    exact ⟨_, h2⟩
  refine ⟨fun i j p q hi hj hpq => ?_, fun k q hk => ?_⟩
  · obtain ⟨e1, g1⟩ := key i p hi
    obtain ⟨e2, g2⟩ := key j q hj
    exact hD.1 i j _ _ g1 g2 hpq
  · obtain ⟨e1, g1⟩ := key k q hk
    exact hD.2 k _ g1
end NgW
theorem ng_inv0 : ng_inv ng_M0 := by
  refine ⟨⟨⟨by decide +kernel, ⟨by decide +kernel, fun j hj => absurd hj (by decide +kernel)⟩, ⟨by decide +kernel, fun j hj => absurd hj (by decide +kernel)⟩⟩, by unfold ng_bnd; decide +kernel, ⟨⟨0, by decide +kernel, by decide, Or.inl rfl⟩, ⟨0, by decide +kernel, by decide, Or.inl rfl⟩⟩, fun j hj => absurd hj (by decide +kernel), fun j hj => absurd hj (by decide +kernel)⟩, ⟨by decide +kernel, fun h => absurd (by decide +kernel) h⟩, fun k _ _ => ?_, ⟨by decide +kernel, 0, by decide +kernel, by decide, fun j hj => absurd hj (by omega)⟩, fun i hi => ?_, ?_⟩
  · rfl
  · have e : i = 0 ∨ i = 1 ∨ i = 2 ∨ i = 3 := by omega
    rcases e with rfl | rfl | rfl | rfl
    all_goals exact ⟨by decide +kernel, by decide +kernel, fun j hj => rfl, Or.inl (by decide +kernel), 0, by decide +kernel, by decide⟩
  · unfold ng_I6; decide +kernel
