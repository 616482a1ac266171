/-! ===== constructors: what the tables say of them ===== -/
theorem mj_X0_init : ng_MI mi_X0_init 0 := ⟨⟨ng_inG (i := 98) (by decide +kernel) (by decide +kernel), li_X0, by decide +kernel, by decide⟩, ng_inG (i := 97) (by decide +kernel) (by decide +kernel), rfl, rfl⟩
theorem lo_X0 : Cond.methodLink RX0 3 objectInit ∈ ng_G := ng_inG (i := 99) (by decide +kernel) (by decide +kernel)
theorem mj_X1_init : ng_MI mi_X1_init 1 := ⟨⟨ng_inG (i := 246) (by decide +kernel) (by decide +kernel), li_X1, by decide +kernel, by decide⟩, ng_inG (i := 245) (by decide +kernel) (by decide +kernel), rfl, rfl⟩
theorem lo_X1 : Cond.methodLink RX1 3 objectInit ∈ ng_G := ng_inG (i := 247) (by decide +kernel) (by decide +kernel)
theorem mj_X2_init : ng_MI mi_X2_init 0 := ⟨⟨ng_inG (i := 298) (by decide +kernel) (by decide +kernel), li_X2, by decide +kernel, by decide⟩, ng_inG (i := 297) (by decide +kernel) (by decide +kernel), rfl, rfl⟩
theorem lo_X2 : Cond.methodLink RX2 3 objectInit ∈ ng_G := ng_inG (i := 299) (by decide +kernel) (by decide +kernel)
theorem mj_X3_init : ng_MI mi_X3_init 0 := ⟨⟨ng_inG (i := 92) (by decide +kernel) (by decide +kernel), li_X3, by decide +kernel, by decide⟩, ng_inG (i := 91) (by decide +kernel) (by decide +kernel), rfl, rfl⟩
theorem lo_X3 : Cond.methodLink RX3 3 objectInit ∈ ng_G := ng_inG (i := 93) (by decide +kernel) (by decide +kernel)
theorem mj_X4_init : ng_MI mi_X4_init 0 := ⟨⟨ng_inG (i := 326) (by decide +kernel) (by decide +kernel), li_X4, by decide +kernel, by decide⟩, ng_inG (i := 325) (by decide +kernel) (by decide +kernel), rfl, rfl⟩
theorem lo_X4 : Cond.methodLink RX4 3 objectInit ∈ ng_G := ng_inG (i := 327) (by decide +kernel) (by decide +kernel)
theorem mj_X5_init : ng_MI mi_X5_init 1 := ⟨⟨ng_inG (i := 159) (by decide +kernel) (by decide +kernel), li_X5, by decide +kernel, by decide⟩, ng_inG (i := 158) (by decide +kernel) (by decide +kernel), rfl, rfl⟩
theorem lo_X5 : Cond.methodLink RX5 3 objectInit ∈ ng_G := ng_inG (i := 160) (by decide +kernel) (by decide +kernel)
theorem mj_X6_init : ng_MI mi_X6_init 0 := ⟨⟨ng_inG (i := 274) (by decide +kernel) (by decide +kernel), li_X6, by decide +kernel, by decide⟩, ng_inG (i := 273) (by decide +kernel) (by decide +kernel), rfl, rfl⟩
theorem lo_X6 : Cond.methodLink RX6 3 objectInit ∈ ng_G := ng_inG (i := 275) (by decide +kernel) (by decide +kernel)
theorem mj_X7_init : ng_MI mi_X7_init 0 := ⟨⟨ng_inG (i := 86) (by decide +kernel) (by decide +kernel), li_X7, by decide +kernel, by decide⟩, ng_inG (i := 85) (by decide +kernel) (by decide +kernel), rfl, rfl⟩
theorem lo_X7 : Cond.methodLink RX7 3 objectInit ∈ ng_G := ng_inG (i := 87) (by decide +kernel) (by decide +kernel)
theorem mj_X8_init : ng_MI mi_X8_init 0 := ⟨⟨ng_inG (i := 78) (by decide +kernel) (by decide +kernel), li_X8, by decide +kernel, by decide⟩, ng_inG (i := 77) (by decide +kernel) (by decide +kernel), rfl, rfl⟩
theorem lo_X8 : Cond.methodLink RX8 3 objectInit ∈ ng_G := ng_inG (i := 79) (by decide +kernel) (by decide +kernel)
theorem mj_X9_init : ng_MI mi_X9_init 0 := ⟨⟨ng_inG (i := 875) (by decide +kernel) (by decide +kernel), li_X9, by decide +kernel, by decide⟩, ng_inG (i := 874) (by decide +kernel) (by decide +kernel), rfl, rfl⟩
theorem lo_X9 : Cond.methodLink RX9 3 objectInit ∈ ng_G := ng_inG (i := 876) (by decide +kernel) (by decide +kernel)
theorem ff_X0_9 : ng_FF RX0 9 0 0 (.array .int) := ⟨RX0, TX0, 4, tyX0, rfl, by decide, ng_inG (i := 100) (by decide +kernel) (by decide +kernel), lw_X0, tyX0_ok, nmX0, rfl, rfl, by decide +kernel⟩
theorem ff_X0_15 : ng_FF RX0 15 0 2 (.array .int) := ⟨RX0, TX0, 4, tyX0, rfl, by decide, ng_inG (i := 104) (by decide +kernel) (by decide +kernel), lw_X0, tyX0_ok, nmX0, rfl, rfl, by decide +kernel⟩
theorem ff_X0_18 : ng_FF RX0 18 0 3 (.array .int) := ⟨RX0, TX0, 4, tyX0, rfl, by decide, ng_inG (i := 105) (by decide +kernel) (by decide +kernel), lw_X0, tyX0_ok, nmX0, rfl, rfl, by decide +kernel⟩
theorem ff_X5_9 : ng_FF RX5 9 5 1 (.array .int) := ⟨RX5, TX5, 12, tyX5, rfl, by decide, ng_inG (i := 163) (by decide +kernel) (by decide +kernel), lw_X5, tyX5_ok, nmX5, rfl, rfl, by decide +kernel⟩
theorem ff_X5_15 : ng_FF RX5 15 5 2 (.array .int) := ⟨RX5, TX5, 12, tyX5, rfl, by decide, ng_inG (i := 166) (by decide +kernel) (by decide +kernel), lw_X5, tyX5_ok, nmX5, rfl, rfl, by decide +kernel⟩
theorem ff_X5_25 : ng_FF RX5 25 5 0 (.object "NinePots$Rules") := ⟨RX5, TX5, 12, tyX5, rfl, by decide, ng_inG (i := 161) (by decide +kernel) (by decide +kernel), lw_X5, tyX5_ok, nmX5, rfl, rfl, by decide +kernel⟩
theorem ff_X3_9 : ng_FF RX3 9 3 0 (.array .int) := ⟨RX3, TX3, 7, tyX3, rfl, by decide, ng_inG (i := 116) (by decide +kernel) (by decide +kernel), lw_X3, tyX3_ok, nmX3, rfl, rfl, by decide +kernel⟩
theorem ff_X3_15 : ng_FF RX3 15 3 1 (.array .int) := ⟨RX3, TX3, 7, tyX3, rfl, by decide, ng_inG (i := 119) (by decide +kernel) (by decide +kernel), lw_X3, tyX3_ok, nmX3, rfl, rfl, by decide +kernel⟩
theorem ff_X3_18 : ng_FF RX3 18 3 2 (.array .int) := ⟨RX3, TX3, 7, tyX3, rfl, by decide, ng_inG (i := 124) (by decide +kernel) (by decide +kernel), lw_X3, tyX3_ok, nmX3, rfl, rfl, by decide +kernel⟩
theorem ff_X3_21 : ng_FF RX3 21 3 3 (.array .int) := ⟨RX3, TX3, 7, tyX3, rfl, by decide, ng_inG (i := 128) (by decide +kernel) (by decide +kernel), lw_X3, tyX3_ok, nmX3, rfl, rfl, by decide +kernel⟩
theorem cl_X3_24 : ng_CL RX3 24 0 4 tyX0 := ⟨RX0, TX0, rfl, lw_X0, tyX0_ok, ng_inG (i := 94) (by decide +kernel) (by decide +kernel), ng_inG (i := 95) (by decide +kernel) (by decide +kernel), li_X0⟩
theorem ff_X3_27 : ng_FF RX3 27 3 4 (.object "NinePots$Formula") := ⟨RX3, TX3, 7, tyX3, rfl, by decide, ng_inG (i := 133) (by decide +kernel) (by decide +kernel), lw_X3, tyX3_ok, nmX3, rfl, rfl, by decide +kernel⟩
theorem ff_X3_31 : ng_FF RX3 31 3 5 (.object "NinePots$Formula") := ⟨RX3, TX3, 7, tyX3, rfl, by decide, ng_inG (i := 134) (by decide +kernel) (by decide +kernel), lw_X3, tyX3_ok, nmX3, rfl, rfl, by decide +kernel⟩
theorem cl_X7_9 : ng_CL RX7 9 3 7 tyX3 := ⟨RX3, TX3, rfl, lw_X3, tyX3_ok, ng_inG (i := 88) (by decide +kernel) (by decide +kernel), ng_inG (i := 89) (by decide +kernel) (by decide +kernel), li_X3⟩
theorem lm_X7_11 : Cond.methodLink RX7 11 yX3_init ∈ ng_G := ng_inG (i := 90) (by decide +kernel) (by decide +kernel)
theorem ff_X7_12 : ng_FF RX7 12 7 0 (.object "NinePots$Rules") := ⟨RX7, TX7, 8, tyX7, rfl, by decide, ng_inG (i := 209) (by decide +kernel) (by decide +kernel), lw_X7, tyX7_ok, nmX7, rfl, rfl, by decide +kernel⟩
theorem cl_X7_18 : ng_CL RX7 18 5 12 tyX5 := ⟨RX5, TX5, rfl, lw_X5, tyX5_ok, ng_inG (i := 155) (by decide +kernel) (by decide +kernel), ng_inG (i := 156) (by decide +kernel) (by decide +kernel), li_X5⟩
theorem lm_X7_20 : Cond.methodLink RX7 20 yX5_init ∈ ng_G := ng_inG (i := 157) (by decide +kernel) (by decide +kernel)
theorem ff_X7_23 : ng_FF RX7 23 7 1 (.object "NinePots$Stand") := ⟨RX7, TX7, 8, tyX7, rfl, by decide, ng_inG (i := 211) (by decide +kernel) (by decide +kernel), lw_X7, tyX7_ok, nmX7, rfl, rfl, by decide +kernel⟩
theorem ff_X7_27 : ng_FF RX7 27 7 2 (.array .int) := ⟨RX7, TX7, 8, tyX7, rfl, by decide, ng_inG (i := 213) (by decide +kernel) (by decide +kernel), lw_X7, tyX7_ok, nmX7, rfl, rfl, by decide +kernel⟩
theorem ff_X7_31 : ng_FF RX7 31 7 3 (.array .int) := ⟨RX7, TX7, 8, tyX7, rfl, by decide, ng_inG (i := 215) (by decide +kernel) (by decide +kernel), lw_X7, tyX7_ok, nmX7, rfl, rfl, by decide +kernel⟩
theorem ca_X1_9 : Cond.classLink RX1 9 "NinePots$Stand" ∈ ng_G := ng_inG (i := 248) (by decide +kernel) (by decide +kernel)
theorem ff_X1_11 : ng_FF RX1 11 1 0 (.array (.object "NinePots$Stand")) := ⟨RX1, TX1, 6, tyX1, rfl, by decide, ng_inG (i := 251) (by decide +kernel) (by decide +kernel), lw_X1, tyX1_ok, nmX1, rfl, rfl, by decide +kernel⟩
theorem ff_X1_17 : ng_FF RX1 17 1 2 (.array .int) := ⟨RX1, TX1, 6, tyX1, rfl, by decide, ng_inG (i := 253) (by decide +kernel) (by decide +kernel), lw_X1, tyX1_ok, nmX1, rfl, rfl, by decide +kernel⟩
theorem ff_X1_21 : ng_FF RX1 21 1 3 (.array .int) := ⟨RX1, TX1, 6, tyX1, rfl, by decide, ng_inG (i := 254) (by decide +kernel) (by decide +kernel), lw_X1, tyX1_ok, nmX1, rfl, rfl, by decide +kernel⟩
theorem cl_X1_9 : ng_CL RX1 9 5 12 tyX5 := ⟨RX5, TX5, rfl, lw_X5, tyX5_ok, ng_inG (i := 248) (by decide +kernel) (by decide +kernel), ng_inG (i := 156) (by decide +kernel) (by decide +kernel), li_X5⟩
theorem lm_X1_24 : Cond.methodLink RX1 24 yX5_init ∈ ng_G := ng_inG (i := 250) (by decide +kernel) (by decide +kernel)
theorem ff_X1_27 : ng_FF RX1 27 1 1 (.object "NinePots$Stand") := ⟨RX1, TX1, 6, tyX1, rfl, by decide, ng_inG (i := 252) (by decide +kernel) (by decide +kernel), lw_X1, tyX1_ok, nmX1, rfl, rfl, by decide +kernel⟩
theorem ff_X6_9 : ng_FF RX6 9 6 0 (.array .int) := ⟨RX6, TX6, 5, tyX6, rfl, by decide, ng_inG (i := 276) (by decide +kernel) (by decide +kernel), lw_X6, tyX6_ok, nmX6, rfl, rfl, by decide +kernel⟩
theorem ff_X2_9 : ng_FF RX2 9 2 0 (.array .int) := ⟨RX2, TX2, 6, tyX2, rfl, by decide, ng_inG (i := 300) (by decide +kernel) (by decide +kernel), lw_X2, tyX2_ok, nmX2, rfl, rfl, by decide +kernel⟩
theorem ff_X2_15 : ng_FF RX2 15 2 2 (.array .int) := ⟨RX2, TX2, 6, tyX2, rfl, by decide, ng_inG (i := 304) (by decide +kernel) (by decide +kernel), lw_X2, tyX2_ok, nmX2, rfl, rfl, by decide +kernel⟩
theorem ff_X4_9 : ng_FF RX4 9 4 0 (.array .int) := ⟨RX4, TX4, 3, tyX4, rfl, by decide, ng_inG (i := 328) (by decide +kernel) (by decide +kernel), lw_X4, tyX4_ok, nmX4, rfl, rfl, by decide +kernel⟩
theorem cl_X8_9 : ng_CL RX8 9 7 8 tyX7 := ⟨RX7, TX7, rfl, lw_X7, tyX7_ok, ng_inG (i := 82) (by decide +kernel) (by decide +kernel), ng_inG (i := 83) (by decide +kernel) (by decide +kernel), li_X7⟩
theorem ff_X8_12 : ng_FF RX8 12 8 0 (.object "NinePots$Whole") := ⟨RX8, TX8, 8, tyX8, rfl, by decide, ng_inG (i := 341) (by decide +kernel) (by decide +kernel), lw_X8, tyX8_ok, nmX8, rfl, rfl, by decide +kernel⟩
theorem ff_X8_16 : ng_FF RX8 16 8 1 (.object "NinePots$Whole") := ⟨RX8, TX8, 8, tyX8, rfl, by decide, ng_inG (i := 342) (by decide +kernel) (by decide +kernel), lw_X8, tyX8_ok, nmX8, rfl, rfl, by decide +kernel⟩
theorem cl_X8_19 : ng_CL RX8 19 1 6 tyX1 := ⟨RX1, TX1, rfl, lw_X1, tyX1_ok, ng_inG (i := 242) (by decide +kernel) (by decide +kernel), ng_inG (i := 243) (by decide +kernel) (by decide +kernel), li_X1⟩
theorem lm_X8_25 : Cond.methodLink RX8 25 yX1_init ∈ ng_G := ng_inG (i := 244) (by decide +kernel) (by decide +kernel)
theorem ff_X8_28 : ng_FF RX8 28 8 2 (.object "NinePots$Outlook") := ⟨RX8, TX8, 8, tyX8, rfl, by decide, ng_inG (i := 343) (by decide +kernel) (by decide +kernel), lw_X8, tyX8_ok, nmX8, rfl, rfl, by decide +kernel⟩
theorem cl_X8_32 : ng_CL RX8 32 6 5 tyX6 := ⟨RX6, TX6, rfl, lw_X6, tyX6_ok, ng_inG (i := 270) (by decide +kernel) (by decide +kernel), ng_inG (i := 271) (by decide +kernel) (by decide +kernel), li_X6⟩
theorem ff_X8_35 : ng_FF RX8 35 8 3 (.object "NinePots$Voices") := ⟨RX8, TX8, 8, tyX8, rfl, by decide, ng_inG (i := 344) (by decide +kernel) (by decide +kernel), lw_X8, tyX8_ok, nmX8, rfl, rfl, by decide +kernel⟩
theorem cl_X8_39 : ng_CL RX8 39 2 6 tyX2 := ⟨RX2, TX2, rfl, lw_X2, tyX2_ok, ng_inG (i := 294) (by decide +kernel) (by decide +kernel), ng_inG (i := 295) (by decide +kernel) (by decide +kernel), li_X2⟩
theorem ff_X8_42 : ng_FF RX8 42 8 4 (.object "NinePots$Reader") := ⟨RX8, TX8, 8, tyX8, rfl, by decide, ng_inG (i := 345) (by decide +kernel) (by decide +kernel), lw_X8, tyX8_ok, nmX8, rfl, rfl, by decide +kernel⟩
theorem ca_X8_46 : Cond.classLink RX8 46 "NinePots$Sheet" ∈ ng_G := ng_inG (i := 321) (by decide +kernel) (by decide +kernel)
theorem ff_X8_48 : ng_FF RX8 48 8 5 (.array (.object "NinePots$Sheet")) := ⟨RX8, TX8, 8, tyX8, rfl, by decide, ng_inG (i := 346) (by decide +kernel) (by decide +kernel), lw_X8, tyX8_ok, nmX8, rfl, rfl, by decide +kernel⟩
theorem ff_X8_52 : ng_FF RX8 52 8 6 (.array .int) := ⟨RX8, TX8, 8, tyX8, rfl, by decide, ng_inG (i := 347) (by decide +kernel) (by decide +kernel), lw_X8, tyX8_ok, nmX8, rfl, rfl, by decide +kernel⟩
theorem cl_X8_46 : ng_CL RX8 46 4 3 tyX4 := ⟨RX4, TX4, rfl, lw_X4, tyX4_ok, ng_inG (i := 321) (by decide +kernel) (by decide +kernel), ng_inG (i := 323) (by decide +kernel) (by decide +kernel), li_X4⟩
theorem ff_X9_9 : ng_FF RX9 9 9 0 (.array .int) := ⟨RX9, TX9, 25, tyX9, rfl, by decide, ng_inG (i := 882) (by decide +kernel) (by decide +kernel), lw_X9, tyX9_ok, nmX9, rfl, rfl, by decide +kernel⟩
theorem ff_X9_13 : ng_FF RX9 13 9 1 (.array .int) := ⟨RX9, TX9, 25, tyX9, rfl, by decide, ng_inG (i := 883) (by decide +kernel) (by decide +kernel), lw_X9, tyX9_ok, nmX9, rfl, rfl, by decide +kernel⟩
theorem ff_X9_16 : ng_FF RX9 16 9 2 (.array .int) := ⟨RX9, TX9, 25, tyX9, rfl, by decide, ng_inG (i := 884) (by decide +kernel) (by decide +kernel), lw_X9, tyX9_ok, nmX9, rfl, rfl, by decide +kernel⟩
theorem ff_X9_19 : ng_FF RX9 19 9 4 (.array .int) := ⟨RX9, TX9, 25, tyX9, rfl, by decide, ng_inG (i := 886) (by decide +kernel) (by decide +kernel), lw_X9, tyX9_ok, nmX9, rfl, rfl, by decide +kernel⟩
theorem ff_X9_23 : ng_FF RX9 23 9 5 (.array .int) := ⟨RX9, TX9, 25, tyX9, rfl, by decide, ng_inG (i := 887) (by decide +kernel) (by decide +kernel), lw_X9, tyX9_ok, nmX9, rfl, rfl, by decide +kernel⟩
theorem ca_X9_26 : Cond.classLink RX9 26 "java/lang/String" ∈ ng_G := ng_inG (i := 878) (by decide +kernel) (by decide +kernel)
theorem ff_X9_32 : ng_FF RX9 32 9 6 (.array (.object "java/lang/String")) := ⟨RX9, TX9, 25, tyX9, rfl, by decide, ng_inG (i := 888) (by decide +kernel) (by decide +kernel), lw_X9, tyX9_ok, nmX9, rfl, rfl, by decide +kernel⟩
theorem ff_X9_36 : ng_FF RX9 36 9 11 (.array .int) := ⟨RX9, TX9, 25, tyX9, rfl, by decide, ng_inG (i := 893) (by decide +kernel) (by decide +kernel), lw_X9, tyX9_ok, nmX9, rfl, rfl, by decide +kernel⟩
theorem ff_X9_39 : ng_FF RX9 39 9 13 (.array .int) := ⟨RX9, TX9, 25, tyX9, rfl, by decide, ng_inG (i := 895) (by decide +kernel) (by decide +kernel), lw_X9, tyX9_ok, nmX9, rfl, rfl, by decide +kernel⟩
theorem ff_X9_42 : ng_FF RX9 42 9 14 (.array .int) := ⟨RX9, TX9, 25, tyX9, rfl, by decide, ng_inG (i := 896) (by decide +kernel) (by decide +kernel), lw_X9, tyX9_ok, nmX9, rfl, rfl, by decide +kernel⟩
theorem ff_X9_45 : ng_FF RX9 45 9 15 (.array .int) := ⟨RX9, TX9, 25, tyX9, rfl, by decide, ng_inG (i := 897) (by decide +kernel) (by decide +kernel), lw_X9, tyX9_ok, nmX9, rfl, rfl, by decide +kernel⟩
theorem ff_X9_48 : ng_FF RX9 48 9 16 (.array .int) := ⟨RX9, TX9, 25, tyX9, rfl, by decide, ng_inG (i := 898) (by decide +kernel) (by decide +kernel), lw_X9, tyX9_ok, nmX9, rfl, rfl, by decide +kernel⟩
theorem ff_X9_51 : ng_FF RX9 51 9 18 (.array .int) := ⟨RX9, TX9, 25, tyX9, rfl, by decide, ng_inG (i := 900) (by decide +kernel) (by decide +kernel), lw_X9, tyX9_ok, nmX9, rfl, rfl, by decide +kernel⟩
theorem ff_X9_54 : ng_FF RX9 54 9 21 (.array .int) := ⟨RX9, TX9, 25, tyX9, rfl, by decide, ng_inG (i := 903) (by decide +kernel) (by decide +kernel), lw_X9, tyX9_ok, nmX9, rfl, rfl, by decide +kernel⟩
theorem ff_X9_57 : ng_FF RX9 57 9 22 (.array .int) := ⟨RX9, TX9, 25, tyX9, rfl, by decide, ng_inG (i := 904) (by decide +kernel) (by decide +kernel), lw_X9, tyX9_ok, nmX9, rfl, rfl, by decide +kernel⟩
theorem ff_X9_60 : ng_FF RX9 60 9 23 (.array .int) := ⟨RX9, TX9, 25, tyX9, rfl, by decide, ng_inG (i := 905) (by decide +kernel) (by decide +kernel), lw_X9, tyX9_ok, nmX9, rfl, rfl, by decide +kernel⟩
theorem ff_X9_63 : ng_FF RX9 63 9 24 (.array .int) := ⟨RX9, TX9, 25, tyX9, rfl, by decide, ng_inG (i := 906) (by decide +kernel) (by decide +kernel), lw_X9, tyX9_ok, nmX9, rfl, rfl, by decide +kernel⟩
def ng_coin0 : Nat → Int32 := upd (upd (upd (upd (upd (upd (upd (upd (upd (upd (fun _ => 0) 0 10) 1 20) 2 30) 3 40) 4 50) 5 60) 6 70) 7 80) 8 90) 9 100
def ng_G0 (cA : Nat → ClassId) (a : Nat → Nat) : va_W := [(a 0, .inr (0, [.ref (a 1), .int 0, .ref (a 2), .ref (a 3)])), (a 1, .inl (cA 0, 50, .inl (fun _ => 0))), (a 2, .inl (cA 0, 4, .inl (fun _ => 0))), (a 3, .inl (cA 0, 50, .inl (fun _ => 0)))]
def ng_G5 (cA : Nat → ClassId) (r : Nat) (a : Nat → Nat) : va_W := [(a 0, .inr (5, [.ref r, .ref (a 1), .ref (a 2), .int 0, .int 6, .int 9, .int 0, .int 0, .int 0, .int 0, .int 0, .int 0])), (a 1, .inl (cA 0, 8, .inl (fun _ => 0))), (a 2, .inl (cA 0, 8, .inl (fun _ => 0)))]
def ng_G3 (cA : Nat → ClassId) (a : Nat → Nat) : va_W := [(a 0, .inr (3, [.ref (a 1), .ref (a 2), .ref (a 3), .ref (a 4), .ref (a 5), .ref (a 9), .int 0])), (a 1, .inl (cA 0, 10, .inl (upd (upd (upd (upd (upd (upd (upd (upd (upd (upd (fun _ => 0) 0 10) 1 20) 2 30) 3 40) 4 50) 5 60) 6 70) 7 80) 8 90) 9 100))), (a 2, .inl (cA 0, 8, .inl (fun _ => 0))), (a 3, .inl (cA 0, 8, .inl (fun _ => 0))), (a 4, .inl (cA 0, 8, .inl (fun _ => 0)))] ++ ng_G0 cA (fun i => a (5 + i)) ++ ng_G0 cA (fun i => a (9 + i))
def ng_G7 (cA : Nat → ClassId) (a : Nat → Nat) : va_W := [(a 0, .inr (7, [.ref (a 1), .ref (a 14), .ref (a 17), .ref (a 18), .int 0, .int 0, .int 0, .int 1]))] ++ ng_G3 cA (fun i => a (1 + i)) ++ ng_G5 cA (a 1) (fun i => a (14 + i)) ++ [(a 17, .inl (cA 0, 50, .inl (fun _ => 0))), (a 18, .inl (cA 0, 20, .inl (fun _ => 0)))]
def ng_G1 (cA : Nat → ClassId) (r : Nat) (a : Nat → Nat) : va_W := [(a 0, .inr (1, [.ref (a 1), .ref (a 2), .ref (a 17), .ref (a 18), .int 0, .int 0])), (a 1, .inl (cA 2, 4, .inr (.inr (.inr (.inr (va_up (va_up (va_up (va_up (fun _ => none) 0 (some (a 5))) 1 (some (a 8))) 2 (some (a 11))) 3 (some (a 14))))))))] ++ ng_G5 cA r (fun i => a (2 + i)) ++ ng_G5 cA r (fun i => a (5 + i)) ++ ng_G5 cA r (fun i => a (8 + i)) ++ ng_G5 cA r (fun i => a (11 + i)) ++ ng_G5 cA r (fun i => a (14 + i)) ++ [(a 17, .inl (cA 0, 3, .inl (fun _ => 0))), (a 18, .inl (cA 0, 3, .inl (fun _ => 0)))]
def ng_G6 (cA : Nat → ClassId) (a : Nat → Nat) : va_W := [(a 0, .inr (6, [.ref (a 1), .int 0, .int 0, .int 0, .int 0])), (a 1, .inl (cA 0, 40, .inl (fun _ => 0)))]
def ng_G2 (cA : Nat → ClassId) (a : Nat → Nat) : va_W := [(a 0, .inr (2, [.ref (a 1), .int 0, .ref (a 2), .int 0, .int 0, .int 0])), (a 1, .inl (cA 0, 50, .inl (fun _ => 0))), (a 2, .inl (cA 0, 50, .inl (fun _ => 0)))]
def ng_G4 (cA : Nat → ClassId) (a : Nat → Nat) : va_W := [(a 0, .inr (4, [.ref (a 1), .int 0, .int 0])), (a 1, .inl (cA 0, 40, .inl (fun _ => 0)))]
def ng_G8 (cA : Nat → ClassId) (a : Nat → Nat) : va_W := [(a 0, .inr (8, [.ref (a 1), .ref (a 20), .ref (a 39), .ref (a 58), .ref (a 60), .ref (a 63), .ref (a 72), .int 0]))] ++ ng_G7 cA (fun i => a (1 + i)) ++ ng_G7 cA (fun i => a (20 + i)) ++ ng_G1 cA (a 2) (fun i => a (39 + i)) ++ ng_G6 cA (fun i => a (58 + i)) ++ ng_G2 cA (fun i => a (60 + i)) ++ [(a 63, .inl (cA 1, 4, .inr (.inr (.inr (.inr (va_up (va_up (va_up (va_up (fun _ => none) 0 (some (a 64))) 1 (some (a 66))) 2 (some (a 68))) 3 (some (a 70))))))))] ++ ng_G4 cA (fun i => a (64 + i)) ++ ng_G4 cA (fun i => a (66 + i)) ++ ng_G4 cA (fun i => a (68 + i)) ++ ng_G4 cA (fun i => a (70 + i)) ++ [(a 72, .inl (cA 0, 6, .inl (fun _ => 0)))]
def ng_G9 (cA : Nat → ClassId) (s0 s1 : Nat) (a : Nat → Nat) : va_W := [(a 0, .inr (9, [.ref (a 1), .ref (a 2), .ref (a 3), .int 0, .ref (a 4), .ref (a 5), .ref (a 6), .int 0, .int 0, .int 0, .int 0, .ref (a 7), .int 0, .ref (a 8), .ref (a 9), .ref (a 10), .ref (a 11), .int 0, .ref (a 12), .int 0, .int 0, .ref (a 13), .ref (a 14), .ref (a 15), .ref (a 16)])), (a 1, .inl (cA 0, 227, .inl (upd (upd (upd (upd (upd (upd (upd (upd (upd (upd (upd (upd (upd (fun _ => 0) 3 6) 4 9) 10 1) 11 10) 12 20) 13 30) 14 40) 15 50) 16 60) 17 70) 18 80) 19 90) 20 100))), (a 2, .inl (cA 0, 227, .inl (fun _ => 0))), (a 3, .inl (cA 0, 227, .inl (fun _ => 0))), (a 4, .inl (cA 0, 6, .inl (fun _ => 0))), (a 5, .inl (cA 0, 6, .inl (upd (upd (upd (upd (upd (upd (fun _ => 0) 0 9) 1 12) 2 20) 3 60) 4 99999999) 5 999))), (a 6, .inl (cA 3, 2, .inr (.inr (.inr (.inr (va_up (va_up (fun _ => none) 0 (some s0)) 1 (some s1))))))), (a 7, .inl (cA 0, 60, .inl (fun _ => 0))), (a 8, .inl (cA 0, 4, .inl (fun _ => 0))), (a 9, .inl (cA 0, 60, .inl (fun _ => 0))), (a 10, .inl (cA 0, 8, .inl (fun _ => 0))), (a 11, .inl (cA 0, 3, .inl (fun _ => 0))), (a 12, .inl (cA 0, 40, .inl (fun _ => 0))), (a 13, .inl (cA 0, 4, .inl (fun _ => 0))), (a 14, .inl (cA 0, 4, .inl (fun _ => 0))), (a 15, .inl (cA 0, 160, .inl (fun _ => 0))), (a 16, .inl (cA 0, 40, .inl (fun _ => 0)))]
def ng_Zs (s0 s1 : Nat) : (Nat → Prop) → State → Prop := fun A s => va_O "java/lang/String" s0 A s s.heap ∧ va_O "java/lang/String" s1 A s s.heap ∧ vk_R RX9 28 "wnlh" s0 s ∧ vk_R RX9 30 "sknu" s1 s
theorem n_X0 {D : va_G} {cA : Nat → ClassId} : ng_N ng_Z0 D cA mi_X0_init 1 3 104 [] (.inr (0, [.null, .int 0, .null, .null])) (ng_G0 cA) := by
  refine ng_N.of (lf := fun h0 => [some (.ref h0)]) (by decide) rfl rfl (fun _ => Nat.le_of_ble_eq_true rfl) (fun _ => rfl) (fun h0 => ?_)
  refine bb_aload_0 dX0_init_0 ?_
  refine bb_obj dX0_init_1 lo_X0 (Nat.le_of_ble_eq_true rfl) (by decide) ?_
  refine bb_aload_0 dX0_init_4 ?_
  refine bb_bipush (v := 50) dX0_init_5 (by decide) ?_
  refine bb_newa (ck := 2) (sk := 54) 50 dX0_init_7 (by decide) (by decide) (by decide) (fun q1 => ?_)
  refine bb_eq (w2 := ([(h0, .inr (0, [.null, .int 0, .null, .null])), (q1, .inl (cA 0, 50, .inl (fun _ => 0)))] : va_W)) rfl ?_
  refine bb_putF 0 dX0_init_9 ff_X0_9 rfl rfl rfl (Nat.le_of_ble_eq_true rfl) ?_
  refine bb_eq (w2 := ([(h0, .inr (0, [.ref q1, .int 0, .null, .null])), (q1, .inl (cA 0, 50, .inl (fun _ => 0)))] : va_W)) rfl ?_
  refine bb_aload_0 dX0_init_12 ?_
  refine bb_iconst_4 dX0_init_13 ?_
  refine bb_newa (ck := 1) (sk := 50) 4 dX0_init_14 (by decide) (by decide) (by decide) (fun q2 => ?_)
  refine bb_eq (w2 := ([(h0, .inr (0, [.ref q1, .int 0, .null, .null])), (q1, .inl (cA 0, 50, .inl (fun _ => 0))), (q2, .inl (cA 0, 4, .inl (fun _ => 0)))] : va_W)) rfl ?_
  refine bb_putF 0 dX0_init_16 ff_X0_15 rfl rfl rfl (Nat.le_of_ble_eq_true rfl) ?_
  refine bb_eq (w2 := ([(h0, .inr (0, [.ref q1, .int 0, .ref q2, .null])), (q1, .inl (cA 0, 50, .inl (fun _ => 0))), (q2, .inl (cA 0, 4, .inl (fun _ => 0)))] : va_W)) rfl ?_
  refine bb_aload_0 dX0_init_19 ?_
  refine bb_bipush (v := 50) dX0_init_20 (by decide) ?_
  refine bb_newa (ck := 0) (sk := 0) 50 dX0_init_22 (by decide) (by decide) (by decide) (fun q3 => ?_)
  refine bb_eq (w2 := ([(h0, .inr (0, [.ref q1, .int 0, .ref q2, .null])), (q1, .inl (cA 0, 50, .inl (fun _ => 0))), (q2, .inl (cA 0, 4, .inl (fun _ => 0))), (q3, .inl (cA 0, 50, .inl (fun _ => 0)))] : va_W)) rfl ?_
  refine bb_putF 0 dX0_init_24 ff_X0_18 rfl rfl rfl (Nat.le_of_ble_eq_true rfl) ?_
  refine bb_eq (w2 := ([(h0, .inr (0, [.ref q1, .int 0, .ref q2, .ref q3])), (q1, .inl (cA 0, 50, .inl (fun _ => 0))), (q2, .inl (cA 0, 4, .inl (fun _ => 0))), (q3, .inl (cA 0, 50, .inl (fun _ => 0)))] : va_W)) rfl ?_
  exact bb_ret dX0_init_27 ⟨fun i => if i < 1 then h0 else if i < 2 then q1 else if i < 3 then q2 else if i < 4 then q3 else 0, rfl, rfl⟩
theorem n_X5 {D : va_G} {cA : Nat → ClassId} {r : Nat} : ng_N ng_Z0 D cA mi_X5_init 1 2 16 [.ref r] (.inr (5, [.null, .null, .null, .int 0, .int 0, .int 0, .int 0, .int 0, .int 0, .int 0, .int 0, .int 0])) (ng_G5 cA r) := by
  refine ng_N.of (lf := fun h0 => [some (.ref h0), some (.ref r)]) (by decide) rfl rfl (fun _ => Nat.le_of_ble_eq_true rfl) (fun _ => rfl) (fun h0 => ?_)
  refine bb_aload_0 dX5_init_0 ?_
  refine bb_obj dX5_init_1 lo_X5 (Nat.le_of_ble_eq_true rfl) (by decide) ?_
  refine bb_aload_0 dX5_init_4 ?_
  refine bb_bipush (v := 8) dX5_init_5 (by decide) ?_
  refine bb_newa (ck := 1) (sk := 8) 8 dX5_init_7 (by decide) (by decide) (by decide) (fun q1 => ?_)
  refine bb_eq (w2 := ([(h0, .inr (5, [.null, .null, .null, .int 0, .int 0, .int 0, .int 0, .int 0, .int 0, .int 0, .int 0, .int 0])), (q1, .inl (cA 0, 8, .inl (fun _ => 0)))] : va_W)) rfl ?_
  refine bb_putF 0 dX5_init_9 ff_X5_9 rfl rfl rfl (Nat.le_of_ble_eq_true rfl) ?_
  refine bb_eq (w2 := ([(h0, .inr (5, [.null, .ref q1, .null, .int 0, .int 0, .int 0, .int 0, .int 0, .int 0, .int 0, .int 0, .int 0])), (q1, .inl (cA 0, 8, .inl (fun _ => 0)))] : va_W)) rfl ?_
  refine bb_aload_0 dX5_init_12 ?_
  refine bb_bipush (v := 8) dX5_init_13 (by decide) ?_
  refine bb_newa (ck := 0) (sk := 0) 8 dX5_init_15 (by decide) (by decide) (by decide) (fun q2 => ?_)
  refine bb_eq (w2 := ([(h0, .inr (5, [.null, .ref q1, .null, .int 0, .int 0, .int 0, .int 0, .int 0, .int 0, .int 0, .int 0, .int 0])), (q1, .inl (cA 0, 8, .inl (fun _ => 0))), (q2, .inl (cA 0, 8, .inl (fun _ => 0)))] : va_W)) rfl ?_
  refine bb_putF 0 dX5_init_17 ff_X5_15 rfl rfl rfl (Nat.le_of_ble_eq_true rfl) ?_
  refine bb_eq (w2 := ([(h0, .inr (5, [.null, .ref q1, .ref q2, .int 0, .int 0, .int 0, .int 0, .int 0, .int 0, .int 0, .int 0, .int 0])), (q1, .inl (cA 0, 8, .inl (fun _ => 0))), (q2, .inl (cA 0, 8, .inl (fun _ => 0)))] : va_W)) rfl ?_
  refine bb_aload_0 dX5_init_20 ?_
  refine bb_bipush (v := 6) dX5_init_21 (by decide) ?_
  refine bb_put 0 dX5_init_23 fp_X5_18 rfl rfl rfl (Nat.le_of_ble_eq_true rfl) ?_
  refine bb_eq (w2 := ([(h0, .inr (5, [.null, .ref q1, .ref q2, .int 0, .int 6, .int 0, .int 0, .int 0, .int 0, .int 0, .int 0, .int 0])), (q1, .inl (cA 0, 8, .inl (fun _ => 0))), (q2, .inl (cA 0, 8, .inl (fun _ => 0)))] : va_W)) rfl ?_
  refine bb_aload_0 dX5_init_26 ?_
  refine bb_bipush (v := 9) dX5_init_27 (by decide) ?_
  refine bb_put 0 dX5_init_29 fp_X5_22 rfl rfl rfl (Nat.le_of_ble_eq_true rfl) ?_
  refine bb_eq (w2 := ([(h0, .inr (5, [.null, .ref q1, .ref q2, .int 0, .int 6, .int 9, .int 0, .int 0, .int 0, .int 0, .int 0, .int 0])), (q1, .inl (cA 0, 8, .inl (fun _ => 0))), (q2, .inl (cA 0, 8, .inl (fun _ => 0)))] : va_W)) rfl ?_
  refine bb_aload_0 dX5_init_32 ?_
  refine bb_aload_1 dX5_init_33 ?_
  refine bb_putF 0 dX5_init_34 ff_X5_25 rfl rfl rfl (Nat.le_of_ble_eq_true rfl) ?_
  refine bb_eq (w2 := ([(h0, .inr (5, [.ref r, .ref q1, .ref q2, .int 0, .int 6, .int 9, .int 0, .int 0, .int 0, .int 0, .int 0, .int 0])), (q1, .inl (cA 0, 8, .inl (fun _ => 0))), (q2, .inl (cA 0, 8, .inl (fun _ => 0)))] : va_W)) rfl ?_
  exact bb_ret dX5_init_37 ⟨fun i => if i < 1 then h0 else if i < 2 then q1 else if i < 3 then q2 else 0, rfl, rfl⟩
theorem n_X3 {D : va_G} {cA : Nat → ClassId} : ng_N ng_Z0 D cA mi_X3_init 2 12 250 [] (.inr (3, [.null, .null, .null, .null, .null, .null, .int 0])) (ng_G3 cA) := by
  refine ng_N.of (lf := fun h0 => [some (.ref h0), none]) (by decide) rfl rfl (fun _ => Nat.le_of_ble_eq_true rfl) (fun _ => rfl) (fun h0 => ?_)
  refine bb_aload_0 dX3_init_0 ?_
  refine bb_obj dX3_init_1 lo_X3 (Nat.le_of_ble_eq_true rfl) (by decide) ?_
  refine bb_aload_0 dX3_init_4 ?_
  refine bb_bipush (v := 10) dX3_init_5 (by decide) ?_
  refine bb_newa (ck := 11) (sk := 240) 10 dX3_init_7 (by decide) (by decide) (by decide) (fun q1 => ?_)
  refine bb_eq (w2 := ([(h0, .inr (3, [.null, .null, .null, .null, .null, .null, .int 0])), (q1, .inl (cA 0, 10, .inl (fun _ => 0)))] : va_W)) rfl ?_
  refine bb_putF 0 dX3_init_9 ff_X3_9 rfl rfl rfl (Nat.le_of_ble_eq_true rfl) ?_
  refine bb_eq (w2 := ([(h0, .inr (3, [.ref q1, .null, .null, .null, .null, .null, .int 0])), (q1, .inl (cA 0, 10, .inl (fun _ => 0)))] : va_W)) rfl ?_
  refine bb_aload_0 dX3_init_12 ?_
  refine bb_bipush (v := 8) dX3_init_13 (by decide) ?_
  refine bb_newa (ck := 10) (sk := 232) 8 dX3_init_15 (by decide) (by decide) (by decide) (fun q2 => ?_)
  refine bb_eq (w2 := ([(h0, .inr (3, [.ref q1, .null, .null, .null, .null, .null, .int 0])), (q1, .inl (cA 0, 10, .inl (fun _ => 0))), (q2, .inl (cA 0, 8, .inl (fun _ => 0)))] : va_W)) rfl ?_
  refine bb_putF 0 dX3_init_17 ff_X3_15 rfl rfl rfl (Nat.le_of_ble_eq_true rfl) ?_
  refine bb_eq (w2 := ([(h0, .inr (3, [.ref q1, .ref q2, .null, .null, .null, .null, .int 0])), (q1, .inl (cA 0, 10, .inl (fun _ => 0))), (q2, .inl (cA 0, 8, .inl (fun _ => 0)))] : va_W)) rfl ?_
  refine bb_aload_0 dX3_init_20 ?_
  refine bb_bipush (v := 8) dX3_init_21 (by decide) ?_
  refine bb_newa (ck := 9) (sk := 224) 8 dX3_init_23 (by decide) (by decide) (by decide) (fun q3 => ?_)
  refine bb_eq (w2 := ([(h0, .inr (3, [.ref q1, .ref q2, .null, .null, .null, .null, .int 0])), (q1, .inl (cA 0, 10, .inl (fun _ => 0))), (q2, .inl (cA 0, 8, .inl (fun _ => 0))), (q3, .inl (cA 0, 8, .inl (fun _ => 0)))] : va_W)) rfl ?_
  refine bb_putF 0 dX3_init_25 ff_X3_18 rfl rfl rfl (Nat.le_of_ble_eq_true rfl) ?_
  refine bb_eq (w2 := ([(h0, .inr (3, [.ref q1, .ref q2, .ref q3, .null, .null, .null, .int 0])), (q1, .inl (cA 0, 10, .inl (fun _ => 0))), (q2, .inl (cA 0, 8, .inl (fun _ => 0))), (q3, .inl (cA 0, 8, .inl (fun _ => 0)))] : va_W)) rfl ?_
  refine bb_aload_0 dX3_init_28 ?_
  refine bb_bipush (v := 8) dX3_init_29 (by decide) ?_
  refine bb_newa (ck := 8) (sk := 216) 8 dX3_init_31 (by decide) (by decide) (by decide) (fun q4 => ?_)
  refine bb_eq (w2 := ([(h0, .inr (3, [.ref q1, .ref q2, .ref q3, .null, .null, .null, .int 0])), (q1, .inl (cA 0, 10, .inl (fun _ => 0))), (q2, .inl (cA 0, 8, .inl (fun _ => 0))), (q3, .inl (cA 0, 8, .inl (fun _ => 0))), (q4, .inl (cA 0, 8, .inl (fun _ => 0)))] : va_W)) rfl ?_
  refine bb_putF 0 dX3_init_33 ff_X3_21 rfl rfl rfl (Nat.le_of_ble_eq_true rfl) ?_
  refine bb_eq (w2 := ([(h0, .inr (3, [.ref q1, .ref q2, .ref q3, .ref q4, .null, .null, .int 0])), (q1, .inl (cA 0, 10, .inl (fun _ => 0))), (q2, .inl (cA 0, 8, .inl (fun _ => 0))), (q3, .inl (cA 0, 8, .inl (fun _ => 0))), (q4, .inl (cA 0, 8, .inl (fun _ => 0)))] : va_W)) rfl ?_
  refine bb_aload_0 dX3_init_36 ?_
  refine bb_new (N := 4) (ck := 7) (sk := 212) [.null, .int 0, .null, .null] dX3_init_37 cl_X3_24 (by decide) (fun q5 => ?_)
  refine bb_dup dX3_init_40 rfl ?_
  refine bb_callN (host := "NinePots") (ww := ([(h0, .inr (3, [.ref q1, .ref q2, .ref q3, .ref q4, .null, .null, .int 0])), (q1, .inl (cA 0, 10, .inl (fun _ => 0))), (q2, .inl (cA 0, 8, .inl (fun _ => 0))), (q3, .inl (cA 0, 8, .inl (fun _ => 0))), (q4, .inl (cA 0, 8, .inl (fun _ => 0)))] : va_W)) (ck := 4) (sk := 108) (y2 := mi_X0_init) (As := []) dX3_init_41 (by decide) mj_X0_init rfl (Nat.le_of_ble_eq_true rfl) n_X0 (by decide) (fun a5 ha => ?_)
  subst ha
  refine bb_putF 0 dX3_init_44 ff_X3_27 rfl rfl rfl (Nat.le_of_ble_eq_true rfl) ?_
  refine bb_eq (w2 := ([(h0, .inr (3, [.ref q1, .ref q2, .ref q3, .ref q4, .ref (a5 0), .null, .int 0])), (q1, .inl (cA 0, 10, .inl (fun _ => 0))), (q2, .inl (cA 0, 8, .inl (fun _ => 0))), (q3, .inl (cA 0, 8, .inl (fun _ => 0))), (q4, .inl (cA 0, 8, .inl (fun _ => 0)))] : va_W) ++ ng_G0 cA a5) rfl ?_
  refine bb_aload_0 dX3_init_47 ?_
  refine bb_new (N := 4) (ck := 3) (sk := 104) [.null, .int 0, .null, .null] dX3_init_48 cl_X3_24 (by decide) (fun q6 => ?_)
  refine bb_dup dX3_init_51 rfl ?_
  refine bb_callN (host := "NinePots") (ww := ([(h0, .inr (3, [.ref q1, .ref q2, .ref q3, .ref q4, .ref (a5 0), .null, .int 0])), (q1, .inl (cA 0, 10, .inl (fun _ => 0))), (q2, .inl (cA 0, 8, .inl (fun _ => 0))), (q3, .inl (cA 0, 8, .inl (fun _ => 0))), (q4, .inl (cA 0, 8, .inl (fun _ => 0)))] : va_W) ++ ng_G0 cA a5) (ck := 0) (sk := 0) (y2 := mi_X0_init) (As := []) dX3_init_52 (by decide) mj_X0_init rfl (Nat.le_of_ble_eq_true rfl) n_X0 (by decide) (fun a6 ha => ?_)
  subst ha
  refine bb_putF 0 dX3_init_55 ff_X3_31 rfl rfl rfl (Nat.le_of_ble_eq_true rfl) ?_
  refine bb_eq (w2 := ([(h0, .inr (3, [.ref q1, .ref q2, .ref q3, .ref q4, .ref (a5 0), .ref (a6 0), .int 0])), (q1, .inl (cA 0, 10, .inl (fun _ => 0))), (q2, .inl (cA 0, 8, .inl (fun _ => 0))), (q3, .inl (cA 0, 8, .inl (fun _ => 0))), (q4, .inl (cA 0, 8, .inl (fun _ => 0)))] : va_W) ++ ng_G0 cA a5 ++ ng_G0 cA a6) rfl ?_
  refine bb_iconst_0 dX3_init_58 ?_
  refine bb_istore_1 dX3_init_59 rfl ?_
  refine bb_iload_1 dX3_init_60 ?_
  refine bb_bipush (v := 10) dX3_init_61 (by decide) ?_
  refine bb_icmp_ge 84 dX3_init_63 (by decide +kernel) (fun h => absurd h (by decide)) (fun _ => ?_)
  refine bb_aload_0 dX3_init_66 ?_
  refine bb_get (v := .ref q1) 0 dX3_init_67 fl_X3_9 rfl rfl ?_
  refine bb_iload_1 dX3_init_70 ?_
  refine bb_bipush (v := 10) dX3_init_71 (by decide) ?_
  refine bb_iload_1 dX3_init_73 ?_
  refine bb_iconst_1 dX3_init_74 ?_
  refine bb_iadd dX3_init_75 ?_
  rw [show (0 : Int32) + 1 = 1 by decide]
  refine bb_imul dX3_init_76 ?_
  rw [show (10 : Int32) * 1 = 10 by decide]
  refine bb_iast (j := 0) 1 dX3_init_77 rfl (by unfold vp_in; decide) (by decide) ?_
  refine bb_eq (w2 := ([(h0, .inr (3, [.ref q1, .ref q2, .ref q3, .ref q4, .ref (a5 0), .ref (a6 0), .int 0])), (q1, .inl (cA 0, 10, .inl (upd (fun _ => 0) 0 10))), (q2, .inl (cA 0, 8, .inl (fun _ => 0))), (q3, .inl (cA 0, 8, .inl (fun _ => 0))), (q4, .inl (cA 0, 8, .inl (fun _ => 0)))] : va_W) ++ ng_G0 cA a5 ++ ng_G0 cA a6) rfl ?_
  refine bb_iinc_1 (w := 1) dX3_init_78 (by decide) rfl ?_
  rw [show (0 : Int32) + 1 = 1 by decide]
  refine bb_goto 60 dX3_init_81 (by decide +kernel) ?_
  refine bb_iload_1 dX3_init_60 ?_
  refine bb_bipush (v := 10) dX3_init_61 (by decide) ?_
  refine bb_icmp_ge 84 dX3_init_63 (by decide +kernel) (fun h => absurd h (by decide)) (fun _ => ?_)
  refine bb_aload_0 dX3_init_66 ?_
  refine bb_get (v := .ref q1) 0 dX3_init_67 fl_X3_9 rfl rfl ?_
  refine bb_iload_1 dX3_init_70 ?_
  refine bb_bipush (v := 10) dX3_init_71 (by decide) ?_
  refine bb_iload_1 dX3_init_73 ?_
  refine bb_iconst_1 dX3_init_74 ?_
  refine bb_iadd dX3_init_75 ?_
  rw [show (1 : Int32) + 1 = 2 by decide]
  refine bb_imul dX3_init_76 ?_
  rw [show (10 : Int32) * 2 = 20 by decide]
  refine bb_iast (j := 1) 1 dX3_init_77 rfl (by unfold vp_in; decide) (by decide) ?_
  refine bb_eq (w2 := ([(h0, .inr (3, [.ref q1, .ref q2, .ref q3, .ref q4, .ref (a5 0), .ref (a6 0), .int 0])), (q1, .inl (cA 0, 10, .inl (upd (upd (fun _ => 0) 0 10) 1 20))), (q2, .inl (cA 0, 8, .inl (fun _ => 0))), (q3, .inl (cA 0, 8, .inl (fun _ => 0))), (q4, .inl (cA 0, 8, .inl (fun _ => 0)))] : va_W) ++ ng_G0 cA a5 ++ ng_G0 cA a6) rfl ?_
  refine bb_iinc_1 (w := 1) dX3_init_78 (by decide) rfl ?_
  rw [show (1 : Int32) + 1 = 2 by decide]
  refine bb_goto 60 dX3_init_81 (by decide +kernel) ?_
  refine bb_iload_1 dX3_init_60 ?_
  refine bb_bipush (v := 10) dX3_init_61 (by decide) ?_
  refine bb_icmp_ge 84 dX3_init_63 (by decide +kernel) (fun h => absurd h (by decide)) (fun _ => ?_)
  refine bb_aload_0 dX3_init_66 ?_
  refine bb_get (v := .ref q1) 0 dX3_init_67 fl_X3_9 rfl rfl ?_
  refine bb_iload_1 dX3_init_70 ?_
  refine bb_bipush (v := 10) dX3_init_71 (by decide) ?_
  refine bb_iload_1 dX3_init_73 ?_
  refine bb_iconst_1 dX3_init_74 ?_
  refine bb_iadd dX3_init_75 ?_
  rw [show (2 : Int32) + 1 = 3 by decide]
  refine bb_imul dX3_init_76 ?_
  rw [show (10 : Int32) * 3 = 30 by decide]
  refine bb_iast (j := 2) 1 dX3_init_77 rfl (by unfold vp_in; decide) (by decide) ?_
  refine bb_eq (w2 := ([(h0, .inr (3, [.ref q1, .ref q2, .ref q3, .ref q4, .ref (a5 0), .ref (a6 0), .int 0])), (q1, .inl (cA 0, 10, .inl (upd (upd (upd (fun _ => 0) 0 10) 1 20) 2 30))), (q2, .inl (cA 0, 8, .inl (fun _ => 0))), (q3, .inl (cA 0, 8, .inl (fun _ => 0))), (q4, .inl (cA 0, 8, .inl (fun _ => 0)))] : va_W) ++ ng_G0 cA a5 ++ ng_G0 cA a6) rfl ?_
  refine bb_iinc_1 (w := 1) dX3_init_78 (by decide) rfl ?_
  rw [show (2 : Int32) + 1 = 3 by decide]
  refine bb_goto 60 dX3_init_81 (by decide +kernel) ?_
  refine bb_iload_1 dX3_init_60 ?_
  refine bb_bipush (v := 10) dX3_init_61 (by decide) ?_
  refine bb_icmp_ge 84 dX3_init_63 (by decide +kernel) (fun h => absurd h (by decide)) (fun _ => ?_)
  refine bb_aload_0 dX3_init_66 ?_
  refine bb_get (v := .ref q1) 0 dX3_init_67 fl_X3_9 rfl rfl ?_
  refine bb_iload_1 dX3_init_70 ?_
  refine bb_bipush (v := 10) dX3_init_71 (by decide) ?_
  refine bb_iload_1 dX3_init_73 ?_
  refine bb_iconst_1 dX3_init_74 ?_
  refine bb_iadd dX3_init_75 ?_
  rw [show (3 : Int32) + 1 = 4 by decide]
  refine bb_imul dX3_init_76 ?_
  rw [show (10 : Int32) * 4 = 40 by decide]
  refine bb_iast (j := 3) 1 dX3_init_77 rfl (by unfold vp_in; decide) (by decide) ?_
  refine bb_eq (w2 := ([(h0, .inr (3, [.ref q1, .ref q2, .ref q3, .ref q4, .ref (a5 0), .ref (a6 0), .int 0])), (q1, .inl (cA 0, 10, .inl (upd (upd (upd (upd (fun _ => 0) 0 10) 1 20) 2 30) 3 40))), (q2, .inl (cA 0, 8, .inl (fun _ => 0))), (q3, .inl (cA 0, 8, .inl (fun _ => 0))), (q4, .inl (cA 0, 8, .inl (fun _ => 0)))] : va_W) ++ ng_G0 cA a5 ++ ng_G0 cA a6) rfl ?_
  refine bb_iinc_1 (w := 1) dX3_init_78 (by decide) rfl ?_
  rw [show (3 : Int32) + 1 = 4 by decide]
  refine bb_goto 60 dX3_init_81 (by decide +kernel) ?_
  refine bb_iload_1 dX3_init_60 ?_
  refine bb_bipush (v := 10) dX3_init_61 (by decide) ?_
  refine bb_icmp_ge 84 dX3_init_63 (by decide +kernel) (fun h => absurd h (by decide)) (fun _ => ?_)
  refine bb_aload_0 dX3_init_66 ?_
  refine bb_get (v := .ref q1) 0 dX3_init_67 fl_X3_9 rfl rfl ?_
  refine bb_iload_1 dX3_init_70 ?_
  refine bb_bipush (v := 10) dX3_init_71 (by decide) ?_
  refine bb_iload_1 dX3_init_73 ?_
  refine bb_iconst_1 dX3_init_74 ?_
  refine bb_iadd dX3_init_75 ?_
  rw [show (4 : Int32) + 1 = 5 by decide]
  refine bb_imul dX3_init_76 ?_
  rw [show (10 : Int32) * 5 = 50 by decide]
  refine bb_iast (j := 4) 1 dX3_init_77 rfl (by unfold vp_in; decide) (by decide) ?_
  refine bb_eq (w2 := ([(h0, .inr (3, [.ref q1, .ref q2, .ref q3, .ref q4, .ref (a5 0), .ref (a6 0), .int 0])), (q1, .inl (cA 0, 10, .inl (upd (upd (upd (upd (upd (fun _ => 0) 0 10) 1 20) 2 30) 3 40) 4 50))), (q2, .inl (cA 0, 8, .inl (fun _ => 0))), (q3, .inl (cA 0, 8, .inl (fun _ => 0))), (q4, .inl (cA 0, 8, .inl (fun _ => 0)))] : va_W) ++ ng_G0 cA a5 ++ ng_G0 cA a6) rfl ?_
  refine bb_iinc_1 (w := 1) dX3_init_78 (by decide) rfl ?_
  rw [show (4 : Int32) + 1 = 5 by decide]
  refine bb_goto 60 dX3_init_81 (by decide +kernel) ?_
  refine bb_iload_1 dX3_init_60 ?_
  refine bb_bipush (v := 10) dX3_init_61 (by decide) ?_
  refine bb_icmp_ge 84 dX3_init_63 (by decide +kernel) (fun h => absurd h (by decide)) (fun _ => ?_)
  refine bb_aload_0 dX3_init_66 ?_
  refine bb_get (v := .ref q1) 0 dX3_init_67 fl_X3_9 rfl rfl ?_
  refine bb_iload_1 dX3_init_70 ?_
  refine bb_bipush (v := 10) dX3_init_71 (by decide) ?_
  refine bb_iload_1 dX3_init_73 ?_
  refine bb_iconst_1 dX3_init_74 ?_
  refine bb_iadd dX3_init_75 ?_
  rw [show (5 : Int32) + 1 = 6 by decide]
  refine bb_imul dX3_init_76 ?_
  rw [show (10 : Int32) * 6 = 60 by decide]
  refine bb_iast (j := 5) 1 dX3_init_77 rfl (by unfold vp_in; decide) (by decide) ?_
  refine bb_eq (w2 := ([(h0, .inr (3, [.ref q1, .ref q2, .ref q3, .ref q4, .ref (a5 0), .ref (a6 0), .int 0])), (q1, .inl (cA 0, 10, .inl (upd (upd (upd (upd (upd (upd (fun _ => 0) 0 10) 1 20) 2 30) 3 40) 4 50) 5 60))), (q2, .inl (cA 0, 8, .inl (fun _ => 0))), (q3, .inl (cA 0, 8, .inl (fun _ => 0))), (q4, .inl (cA 0, 8, .inl (fun _ => 0)))] : va_W) ++ ng_G0 cA a5 ++ ng_G0 cA a6) rfl ?_
  refine bb_iinc_1 (w := 1) dX3_init_78 (by decide) rfl ?_
  rw [show (5 : Int32) + 1 = 6 by decide]
  refine bb_goto 60 dX3_init_81 (by decide +kernel) ?_
  refine bb_iload_1 dX3_init_60 ?_
  refine bb_bipush (v := 10) dX3_init_61 (by decide) ?_
  refine bb_icmp_ge 84 dX3_init_63 (by decide +kernel) (fun h => absurd h (by decide)) (fun _ => ?_)
  refine bb_aload_0 dX3_init_66 ?_
  refine bb_get (v := .ref q1) 0 dX3_init_67 fl_X3_9 rfl rfl ?_
  refine bb_iload_1 dX3_init_70 ?_
  refine bb_bipush (v := 10) dX3_init_71 (by decide) ?_
  refine bb_iload_1 dX3_init_73 ?_
  refine bb_iconst_1 dX3_init_74 ?_
  refine bb_iadd dX3_init_75 ?_
  rw [show (6 : Int32) + 1 = 7 by decide]
  refine bb_imul dX3_init_76 ?_
  rw [show (10 : Int32) * 7 = 70 by decide]
  refine bb_iast (j := 6) 1 dX3_init_77 rfl (by unfold vp_in; decide) (by decide) ?_
  refine bb_eq (w2 := ([(h0, .inr (3, [.ref q1, .ref q2, .ref q3, .ref q4, .ref (a5 0), .ref (a6 0), .int 0])), (q1, .inl (cA 0, 10, .inl (upd (upd (upd (upd (upd (upd (upd (fun _ => 0) 0 10) 1 20) 2 30) 3 40) 4 50) 5 60) 6 70))), (q2, .inl (cA 0, 8, .inl (fun _ => 0))), (q3, .inl (cA 0, 8, .inl (fun _ => 0))), (q4, .inl (cA 0, 8, .inl (fun _ => 0)))] : va_W) ++ ng_G0 cA a5 ++ ng_G0 cA a6) rfl ?_
  refine bb_iinc_1 (w := 1) dX3_init_78 (by decide) rfl ?_
  rw [show (6 : Int32) + 1 = 7 by decide]
  refine bb_goto 60 dX3_init_81 (by decide +kernel) ?_
  refine bb_iload_1 dX3_init_60 ?_
  refine bb_bipush (v := 10) dX3_init_61 (by decide) ?_
  refine bb_icmp_ge 84 dX3_init_63 (by decide +kernel) (fun h => absurd h (by decide)) (fun _ => ?_)
  refine bb_aload_0 dX3_init_66 ?_
  refine bb_get (v := .ref q1) 0 dX3_init_67 fl_X3_9 rfl rfl ?_
  refine bb_iload_1 dX3_init_70 ?_
  refine bb_bipush (v := 10) dX3_init_71 (by decide) ?_
  refine bb_iload_1 dX3_init_73 ?_
  refine bb_iconst_1 dX3_init_74 ?_
  refine bb_iadd dX3_init_75 ?_
  rw [show (7 : Int32) + 1 = 8 by decide]
  refine bb_imul dX3_init_76 ?_
  rw [show (10 : Int32) * 8 = 80 by decide]
  refine bb_iast (j := 7) 1 dX3_init_77 rfl (by unfold vp_in; decide) (by decide) ?_
  refine bb_eq (w2 := ([(h0, .inr (3, [.ref q1, .ref q2, .ref q3, .ref q4, .ref (a5 0), .ref (a6 0), .int 0])), (q1, .inl (cA 0, 10, .inl (upd (upd (upd (upd (upd (upd (upd (upd (fun _ => 0) 0 10) 1 20) 2 30) 3 40) 4 50) 5 60) 6 70) 7 80))), (q2, .inl (cA 0, 8, .inl (fun _ => 0))), (q3, .inl (cA 0, 8, .inl (fun _ => 0))), (q4, .inl (cA 0, 8, .inl (fun _ => 0)))] : va_W) ++ ng_G0 cA a5 ++ ng_G0 cA a6) rfl ?_
  refine bb_iinc_1 (w := 1) dX3_init_78 (by decide) rfl ?_
  rw [show (7 : Int32) + 1 = 8 by decide]
  refine bb_goto 60 dX3_init_81 (by decide +kernel) ?_
  refine bb_iload_1 dX3_init_60 ?_
  refine bb_bipush (v := 10) dX3_init_61 (by decide) ?_
  refine bb_icmp_ge 84 dX3_init_63 (by decide +kernel) (fun h => absurd h (by decide)) (fun _ => ?_)
  refine bb_aload_0 dX3_init_66 ?_
  refine bb_get (v := .ref q1) 0 dX3_init_67 fl_X3_9 rfl rfl ?_
  refine bb_iload_1 dX3_init_70 ?_
  refine bb_bipush (v := 10) dX3_init_71 (by decide) ?_
  refine bb_iload_1 dX3_init_73 ?_
  refine bb_iconst_1 dX3_init_74 ?_
  refine bb_iadd dX3_init_75 ?_
  rw [show (8 : Int32) + 1 = 9 by decide]
  refine bb_imul dX3_init_76 ?_
  rw [show (10 : Int32) * 9 = 90 by decide]
  refine bb_iast (j := 8) 1 dX3_init_77 rfl (by unfold vp_in; decide) (by decide) ?_
  refine bb_eq (w2 := ([(h0, .inr (3, [.ref q1, .ref q2, .ref q3, .ref q4, .ref (a5 0), .ref (a6 0), .int 0])), (q1, .inl (cA 0, 10, .inl (upd (upd (upd (upd (upd (upd (upd (upd (upd (fun _ => 0) 0 10) 1 20) 2 30) 3 40) 4 50) 5 60) 6 70) 7 80) 8 90))), (q2, .inl (cA 0, 8, .inl (fun _ => 0))), (q3, .inl (cA 0, 8, .inl (fun _ => 0))), (q4, .inl (cA 0, 8, .inl (fun _ => 0)))] : va_W) ++ ng_G0 cA a5 ++ ng_G0 cA a6) rfl ?_
  refine bb_iinc_1 (w := 1) dX3_init_78 (by decide) rfl ?_
  rw [show (8 : Int32) + 1 = 9 by decide]
  refine bb_goto 60 dX3_init_81 (by decide +kernel) ?_
  refine bb_iload_1 dX3_init_60 ?_
  refine bb_bipush (v := 10) dX3_init_61 (by decide) ?_
  refine bb_icmp_ge 84 dX3_init_63 (by decide +kernel) (fun h => absurd h (by decide)) (fun _ => ?_)
  refine bb_aload_0 dX3_init_66 ?_
  refine bb_get (v := .ref q1) 0 dX3_init_67 fl_X3_9 rfl rfl ?_
  refine bb_iload_1 dX3_init_70 ?_
  refine bb_bipush (v := 10) dX3_init_71 (by decide) ?_
  refine bb_iload_1 dX3_init_73 ?_
  refine bb_iconst_1 dX3_init_74 ?_
  refine bb_iadd dX3_init_75 ?_
  rw [show (9 : Int32) + 1 = 10 by decide]
  refine bb_imul dX3_init_76 ?_
  rw [show (10 : Int32) * 10 = 100 by decide]
  refine bb_iast (j := 9) 1 dX3_init_77 rfl (by unfold vp_in; decide) (by decide) ?_
  refine bb_eq (w2 := ([(h0, .inr (3, [.ref q1, .ref q2, .ref q3, .ref q4, .ref (a5 0), .ref (a6 0), .int 0])), (q1, .inl (cA 0, 10, .inl (upd (upd (upd (upd (upd (upd (upd (upd (upd (upd (fun _ => 0) 0 10) 1 20) 2 30) 3 40) 4 50) 5 60) 6 70) 7 80) 8 90) 9 100))), (q2, .inl (cA 0, 8, .inl (fun _ => 0))), (q3, .inl (cA 0, 8, .inl (fun _ => 0))), (q4, .inl (cA 0, 8, .inl (fun _ => 0)))] : va_W) ++ ng_G0 cA a5 ++ ng_G0 cA a6) rfl ?_
  refine bb_iinc_1 (w := 1) dX3_init_78 (by decide) rfl ?_
  rw [show (9 : Int32) + 1 = 10 by decide]
  refine bb_goto 60 dX3_init_81 (by decide +kernel) ?_
  refine bb_iload_1 dX3_init_60 ?_
  refine bb_bipush (v := 10) dX3_init_61 (by decide) ?_
  refine bb_icmp_ge 84 dX3_init_63 (by decide +kernel) (fun _ => ?_) (fun h => absurd (by decide) h)
  exact bb_ret dX3_init_84 ⟨fun i => if i < 1 then h0 else if i < 2 then q1 else if i < 3 then q2 else if i < 4 then q3 else if i < 5 then q4 else if i < 9 then a5 (i - 5) else if i < 13 then a6 (i - 9) else 0, rfl, rfl⟩
theorem n_X7 {D : va_G} {cA : Nat → ClassId} : ng_N ng_Z0 D cA mi_X7_init 3 18 355 [] (.inr (7, [.null, .null, .null, .null, .int 0, .int 0, .int 0, .int 0])) (ng_G7 cA) := by
  refine ng_N.of (lf := fun h0 => [some (.ref h0)]) (by decide) rfl rfl (fun _ => Nat.le_of_ble_eq_true rfl) (fun _ => rfl) (fun h0 => ?_)
  refine bb_aload_0 dX7_init_0 ?_
  refine bb_obj dX7_init_1 lo_X7 (Nat.le_of_ble_eq_true rfl) (by decide) ?_
  refine bb_aload_0 dX7_init_4 ?_
  refine bb_new (N := 7) (ck := 17) (sk := 348) [.null, .null, .null, .null, .null, .null, .int 0] dX7_init_5 cl_X7_9 (by decide) (fun q1 => ?_)
  refine bb_dup dX7_init_8 rfl ?_
  refine bb_call (ww := ([(h0, .inr (7, [.null, .null, .null, .null, .int 0, .int 0, .int 0, .int 0]))] : va_W)) (ck := 5) (sk := 98) (y2 := mi_X3_init) (As := []) dX7_init_9 lm_X7_11 mj_X3_init rfl (Nat.le_of_ble_eq_true rfl) n_X3 (by decide) (fun a1 ha => ?_)
  subst ha
  refine bb_putF 0 dX7_init_12 ff_X7_12 rfl rfl rfl (Nat.le_of_ble_eq_true rfl) ?_
  refine bb_eq (w2 := ([(h0, .inr (7, [.ref (a1 0), .null, .null, .null, .int 0, .int 0, .int 0, .int 0]))] : va_W) ++ ng_G3 cA a1) rfl ?_
  refine bb_aload_0 dX7_init_15 ?_
  refine bb_new (N := 12) (ck := 4) (sk := 86) [.null, .null, .null, .int 0, .int 0, .int 0, .int 0, .int 0, .int 0, .int 0, .int 0, .int 0] dX7_init_16 cl_X7_18 (by decide) (fun q2 => ?_)
  refine bb_dup dX7_init_19 rfl ?_
  refine bb_aload_0 dX7_init_20 ?_
  refine bb_get (v := .ref (a1 0)) 0 dX7_init_21 fl_X7_12 rfl rfl ?_
  refine bb_call (ww := ([(h0, .inr (7, [.ref (a1 0), .null, .null, .null, .int 0, .int 0, .int 0, .int 0]))] : va_W) ++ ng_G3 cA a1) (ck := 2) (sk := 70) (y2 := mi_X5_init) (As := [.ref (a1 0)]) dX7_init_24 lm_X7_20 mj_X5_init rfl (Nat.le_of_ble_eq_true rfl) n_X5 (by decide) (fun a2 ha => ?_)
  subst ha
  refine bb_putF 0 dX7_init_27 ff_X7_23 rfl rfl rfl (Nat.le_of_ble_eq_true rfl) ?_
  refine bb_eq (w2 := ([(h0, .inr (7, [.ref (a1 0), .ref (a2 0), .null, .null, .int 0, .int 0, .int 0, .int 0]))] : va_W) ++ ng_G3 cA a1 ++ ng_G5 cA (a1 0) a2) rfl ?_
  refine bb_aload_0 dX7_init_30 ?_
  refine bb_bipush (v := 50) dX7_init_31 (by decide) ?_
  refine bb_newa (ck := 1) (sk := 20) 50 dX7_init_33 (by decide) (by decide) (by decide) (fun q3 => ?_)
  refine bb_eq (w2 := ([(h0, .inr (7, [.ref (a1 0), .ref (a2 0), .null, .null, .int 0, .int 0, .int 0, .int 0]))] : va_W) ++ ng_G3 cA a1 ++ ng_G5 cA (a1 0) a2 ++ ([(q3, .inl (cA 0, 50, .inl (fun _ => 0)))] : va_W)) rfl ?_
  refine bb_putF 0 dX7_init_35 ff_X7_27 rfl rfl rfl (Nat.le_of_ble_eq_true rfl) ?_
  refine bb_eq (w2 := ([(h0, .inr (7, [.ref (a1 0), .ref (a2 0), .ref q3, .null, .int 0, .int 0, .int 0, .int 0]))] : va_W) ++ ng_G3 cA a1 ++ ng_G5 cA (a1 0) a2 ++ ([(q3, .inl (cA 0, 50, .inl (fun _ => 0)))] : va_W)) rfl ?_
  refine bb_aload_0 dX7_init_38 ?_
  refine bb_bipush (v := 20) dX7_init_39 (by decide) ?_
  refine bb_newa (ck := 0) (sk := 0) 20 dX7_init_41 (by decide) (by decide) (by decide) (fun q4 => ?_)
  refine bb_eq (w2 := ([(h0, .inr (7, [.ref (a1 0), .ref (a2 0), .ref q3, .null, .int 0, .int 0, .int 0, .int 0]))] : va_W) ++ ng_G3 cA a1 ++ ng_G5 cA (a1 0) a2 ++ ([(q3, .inl (cA 0, 50, .inl (fun _ => 0))), (q4, .inl (cA 0, 20, .inl (fun _ => 0)))] : va_W)) rfl ?_
  refine bb_putF 0 dX7_init_43 ff_X7_31 rfl rfl rfl (Nat.le_of_ble_eq_true rfl) ?_
  refine bb_eq (w2 := ([(h0, .inr (7, [.ref (a1 0), .ref (a2 0), .ref q3, .ref q4, .int 0, .int 0, .int 0, .int 0]))] : va_W) ++ ng_G3 cA a1 ++ ng_G5 cA (a1 0) a2 ++ ([(q3, .inl (cA 0, 50, .inl (fun _ => 0))), (q4, .inl (cA 0, 20, .inl (fun _ => 0)))] : va_W)) rfl ?_
  refine bb_aload_0 dX7_init_46 ?_
  refine bb_iconst_1 dX7_init_47 ?_
  refine bb_put 0 dX7_init_48 fp_X7_34 rfl rfl rfl (Nat.le_of_ble_eq_true rfl) ?_
  refine bb_eq (w2 := ([(h0, .inr (7, [.ref (a1 0), .ref (a2 0), .ref q3, .ref q4, .int 0, .int 0, .int 0, .int 1]))] : va_W) ++ ng_G3 cA a1 ++ ng_G5 cA (a1 0) a2 ++ ([(q3, .inl (cA 0, 50, .inl (fun _ => 0))), (q4, .inl (cA 0, 20, .inl (fun _ => 0)))] : va_W)) rfl ?_
  exact bb_ret dX7_init_51 ⟨fun i => if i < 1 then h0 else if i < 14 then a1 (i - 1) else if i < 17 then a2 (i - 14) else if i < 18 then q3 else if i < 19 then q4 else 0, rfl, rfl⟩
theorem n_X1 {D : va_G} {cA : Nat → ClassId} {r : Nat} : ng_N ng_Z0 D cA mi_X1_init 2 18 150 [.ref r] (.inr (1, [.null, .null, .null, .null, .int 0, .int 0])) (ng_G1 cA r) := by
  refine ng_N.of (lf := fun h0 => [some (.ref h0), some (.ref r), none]) (by decide) rfl rfl (fun _ => Nat.le_of_ble_eq_true rfl) (fun _ => rfl) (fun h0 => ?_)
  refine bb_aload_0 dX1_init_0 ?_
  refine bb_obj dX1_init_1 lo_X1 (Nat.le_of_ble_eq_true rfl) (by decide) ?_
  refine bb_aload_0 dX1_init_4 ?_
  refine bb_iconst_4 dX1_init_5 ?_
  refine bb_newq (t := 2) (ck := 17) (sk := 146) 4 dX1_init_6 ca_X1_9 (fun s h => h.1) rfl (by decide) (by decide) (by decide) (fun q1 => ?_)
  refine bb_eq (w2 := ([(h0, .inr (1, [.null, .null, .null, .null, .int 0, .int 0])), (q1, .inl (cA 2, 4, .inr (.inr (.inr (.inr (fun _ => none))))))] : va_W)) rfl ?_
  refine bb_putF 0 dX1_init_9 ff_X1_11 rfl rfl rfl (Nat.le_of_ble_eq_true rfl) ?_
  refine bb_eq (w2 := ([(h0, .inr (1, [.ref q1, .null, .null, .null, .int 0, .int 0])), (q1, .inl (cA 2, 4, .inr (.inr (.inr (.inr (fun _ => none))))))] : va_W)) rfl ?_
  refine bb_aload_0 dX1_init_12 ?_
  refine bb_iconst_3 dX1_init_13 ?_
  refine bb_newa (ck := 16) (sk := 143) 3 dX1_init_14 (by decide) (by decide) (by decide) (fun q2 => ?_)
  refine bb_eq (w2 := ([(h0, .inr (1, [.ref q1, .null, .null, .null, .int 0, .int 0])), (q1, .inl (cA 2, 4, .inr (.inr (.inr (.inr (fun _ => none)))))), (q2, .inl (cA 0, 3, .inl (fun _ => 0)))] : va_W)) rfl ?_
  refine bb_putF 0 dX1_init_16 ff_X1_17 rfl rfl rfl (Nat.le_of_ble_eq_true rfl) ?_
  refine bb_eq (w2 := ([(h0, .inr (1, [.ref q1, .null, .ref q2, .null, .int 0, .int 0])), (q1, .inl (cA 2, 4, .inr (.inr (.inr (.inr (fun _ => none)))))), (q2, .inl (cA 0, 3, .inl (fun _ => 0)))] : va_W)) rfl ?_
  refine bb_aload_0 dX1_init_19 ?_
  refine bb_iconst_3 dX1_init_20 ?_
  refine bb_newa (ck := 15) (sk := 140) 3 dX1_init_21 (by decide) (by decide) (by decide) (fun q3 => ?_)
  refine bb_eq (w2 := ([(h0, .inr (1, [.ref q1, .null, .ref q2, .null, .int 0, .int 0])), (q1, .inl (cA 2, 4, .inr (.inr (.inr (.inr (fun _ => none)))))), (q2, .inl (cA 0, 3, .inl (fun _ => 0))), (q3, .inl (cA 0, 3, .inl (fun _ => 0)))] : va_W)) rfl ?_
  refine bb_putF 0 dX1_init_23 ff_X1_21 rfl rfl rfl (Nat.le_of_ble_eq_true rfl) ?_
  refine bb_eq (w2 := ([(h0, .inr (1, [.ref q1, .null, .ref q2, .ref q3, .int 0, .int 0])), (q1, .inl (cA 2, 4, .inr (.inr (.inr (.inr (fun _ => none)))))), (q2, .inl (cA 0, 3, .inl (fun _ => 0))), (q3, .inl (cA 0, 3, .inl (fun _ => 0)))] : va_W)) rfl ?_
  refine bb_aload_0 dX1_init_26 ?_
  refine bb_new (N := 12) (ck := 14) (sk := 128) [.null, .null, .null, .int 0, .int 0, .int 0, .int 0, .int 0, .int 0, .int 0, .int 0, .int 0] dX1_init_27 cl_X1_9 (by decide) (fun q4 => ?_)
  refine bb_dup dX1_init_30 rfl ?_
  refine bb_aload_1 dX1_init_31 ?_
  refine bb_call (ww := ([(h0, .inr (1, [.ref q1, .null, .ref q2, .ref q3, .int 0, .int 0])), (q1, .inl (cA 2, 4, .inr (.inr (.inr (.inr (fun _ => none)))))), (q2, .inl (cA 0, 3, .inl (fun _ => 0))), (q3, .inl (cA 0, 3, .inl (fun _ => 0)))] : va_W)) (ck := 12) (sk := 112) (y2 := mi_X5_init) (As := [.ref r]) dX1_init_32 lm_X1_24 mj_X5_init rfl (Nat.le_of_ble_eq_true rfl) n_X5 (by decide) (fun a4 ha => ?_)
  subst ha
  refine bb_putF 0 dX1_init_35 ff_X1_27 rfl rfl rfl (Nat.le_of_ble_eq_true rfl) ?_
  refine bb_eq (w2 := ([(h0, .inr (1, [.ref q1, .ref (a4 0), .ref q2, .ref q3, .int 0, .int 0])), (q1, .inl (cA 2, 4, .inr (.inr (.inr (.inr (fun _ => none)))))), (q2, .inl (cA 0, 3, .inl (fun _ => 0))), (q3, .inl (cA 0, 3, .inl (fun _ => 0)))] : va_W) ++ ng_G5 cA r a4) rfl ?_
  refine bb_iconst_0 dX1_init_38 ?_
  refine bb_istore_2 dX1_init_39 rfl ?_
  refine bb_iload_2 dX1_init_40 ?_
  refine bb_aload_0 dX1_init_41 ?_
  refine bb_get (v := .ref q1) 0 dX1_init_42 fl_X1_11 rfl rfl ?_
  refine bb_alen (t := 2) (v := 4) 1 dX1_init_45 rfl rfl rfl ?_
  refine bb_icmp_ge 69 dX1_init_46 (by decide +kernel) (fun h => absurd h (by decide)) (fun _ => ?_)
  refine bb_aload_0 dX1_init_49 ?_
  refine bb_get (v := .ref q1) 0 dX1_init_50 fl_X1_11 rfl rfl ?_
  refine bb_iload_2 dX1_init_53 ?_
  refine bb_new (N := 12) (ck := 11) (sk := 100) [.null, .null, .null, .int 0, .int 0, .int 0, .int 0, .int 0, .int 0, .int 0, .int 0, .int 0] dX1_init_54 cl_X1_9 (by decide) (fun q5 => ?_)
  refine bb_dup dX1_init_57 rfl ?_
  refine bb_aload_1 dX1_init_58 ?_
  refine bb_call (ww := ([(h0, .inr (1, [.ref q1, .ref (a4 0), .ref q2, .ref q3, .int 0, .int 0])), (q1, .inl (cA 2, 4, .inr (.inr (.inr (.inr (fun _ => none)))))), (q2, .inl (cA 0, 3, .inl (fun _ => 0))), (q3, .inl (cA 0, 3, .inl (fun _ => 0)))] : va_W) ++ ng_G5 cA r a4) (ck := 9) (sk := 84) (y2 := mi_X5_init) (As := [.ref r]) dX1_init_59 lm_X1_24 mj_X5_init rfl (Nat.le_of_ble_eq_true rfl) n_X5 (by decide) (fun a5 ha => ?_)
  subst ha
  refine bb_ast (t := 2) (j := 0) (ci := 5) (r := (RX5, TX5, 12)) 1 7 dX1_init_62 rfl rfl rfl rfl (by unfold vp_in; decide) (by decide) ?_
  refine bb_eq (w2 := ([(h0, .inr (1, [.ref q1, .ref (a4 0), .ref q2, .ref q3, .int 0, .int 0])), (q1, .inl (cA 2, 4, .inr (.inr (.inr (.inr (va_up (fun _ => none) 0 (some (a5 0)))))))), (q2, .inl (cA 0, 3, .inl (fun _ => 0))), (q3, .inl (cA 0, 3, .inl (fun _ => 0)))] : va_W) ++ ng_G5 cA r a4 ++ ng_G5 cA r a5) rfl ?_
  refine bb_iinc_2 (w := 1) dX1_init_63 (by decide) rfl ?_
  rw [show (0 : Int32) + 1 = 1 by decide]
  refine bb_goto 40 dX1_init_66 (by decide +kernel) ?_
  refine bb_iload_2 dX1_init_40 ?_
  refine bb_aload_0 dX1_init_41 ?_
  refine bb_get (v := .ref q1) 0 dX1_init_42 fl_X1_11 rfl rfl ?_
  refine bb_alen (t := 2) (v := 4) 1 dX1_init_45 rfl rfl rfl ?_
  refine bb_icmp_ge 69 dX1_init_46 (by decide +kernel) (fun h => absurd h (by decide)) (fun _ => ?_)
  refine bb_aload_0 dX1_init_49 ?_
  refine bb_get (v := .ref q1) 0 dX1_init_50 fl_X1_11 rfl rfl ?_
  refine bb_iload_2 dX1_init_53 ?_
  refine bb_new (N := 12) (ck := 8) (sk := 72) [.null, .null, .null, .int 0, .int 0, .int 0, .int 0, .int 0, .int 0, .int 0, .int 0, .int 0] dX1_init_54 cl_X1_9 (by decide) (fun q6 => ?_)
  refine bb_dup dX1_init_57 rfl ?_
  refine bb_aload_1 dX1_init_58 ?_
  refine bb_call (ww := ([(h0, .inr (1, [.ref q1, .ref (a4 0), .ref q2, .ref q3, .int 0, .int 0])), (q1, .inl (cA 2, 4, .inr (.inr (.inr (.inr (va_up (fun _ => none) 0 (some (a5 0)))))))), (q2, .inl (cA 0, 3, .inl (fun _ => 0))), (q3, .inl (cA 0, 3, .inl (fun _ => 0)))] : va_W) ++ ng_G5 cA r a4 ++ ng_G5 cA r a5) (ck := 6) (sk := 56) (y2 := mi_X5_init) (As := [.ref r]) dX1_init_59 lm_X1_24 mj_X5_init rfl (Nat.le_of_ble_eq_true rfl) n_X5 (by decide) (fun a6 ha => ?_)
  subst ha
  refine bb_ast (t := 2) (j := 1) (ci := 5) (r := (RX5, TX5, 12)) 1 10 dX1_init_62 rfl rfl rfl rfl (by unfold vp_in; decide) (by decide) ?_
  refine bb_eq (w2 := ([(h0, .inr (1, [.ref q1, .ref (a4 0), .ref q2, .ref q3, .int 0, .int 0])), (q1, .inl (cA 2, 4, .inr (.inr (.inr (.inr (va_up (va_up (fun _ => none) 0 (some (a5 0))) 1 (some (a6 0)))))))), (q2, .inl (cA 0, 3, .inl (fun _ => 0))), (q3, .inl (cA 0, 3, .inl (fun _ => 0)))] : va_W) ++ ng_G5 cA r a4 ++ ng_G5 cA r a5 ++ ng_G5 cA r a6) rfl ?_
  refine bb_iinc_2 (w := 1) dX1_init_63 (by decide) rfl ?_
  rw [show (1 : Int32) + 1 = 2 by decide]
  refine bb_goto 40 dX1_init_66 (by decide +kernel) ?_
  refine bb_iload_2 dX1_init_40 ?_
  refine bb_aload_0 dX1_init_41 ?_
  refine bb_get (v := .ref q1) 0 dX1_init_42 fl_X1_11 rfl rfl ?_
  refine bb_alen (t := 2) (v := 4) 1 dX1_init_45 rfl rfl rfl ?_
  refine bb_icmp_ge 69 dX1_init_46 (by decide +kernel) (fun h => absurd h (by decide)) (fun _ => ?_)
  refine bb_aload_0 dX1_init_49 ?_
  refine bb_get (v := .ref q1) 0 dX1_init_50 fl_X1_11 rfl rfl ?_
  refine bb_iload_2 dX1_init_53 ?_
  refine bb_new (N := 12) (ck := 5) (sk := 44) [.null, .null, .null, .int 0, .int 0, .int 0, .int 0, .int 0, .int 0, .int 0, .int 0, .int 0] dX1_init_54 cl_X1_9 (by decide) (fun q7 => ?_)
  refine bb_dup dX1_init_57 rfl ?_
  refine bb_aload_1 dX1_init_58 ?_
  refine bb_call (ww := ([(h0, .inr (1, [.ref q1, .ref (a4 0), .ref q2, .ref q3, .int 0, .int 0])), (q1, .inl (cA 2, 4, .inr (.inr (.inr (.inr (va_up (va_up (fun _ => none) 0 (some (a5 0))) 1 (some (a6 0)))))))), (q2, .inl (cA 0, 3, .inl (fun _ => 0))), (q3, .inl (cA 0, 3, .inl (fun _ => 0)))] : va_W) ++ ng_G5 cA r a4 ++ ng_G5 cA r a5 ++ ng_G5 cA r a6) (ck := 3) (sk := 28) (y2 := mi_X5_init) (As := [.ref r]) dX1_init_59 lm_X1_24 mj_X5_init rfl (Nat.le_of_ble_eq_true rfl) n_X5 (by decide) (fun a7 ha => ?_)
  subst ha
  refine bb_ast (t := 2) (j := 2) (ci := 5) (r := (RX5, TX5, 12)) 1 13 dX1_init_62 rfl rfl rfl rfl (by unfold vp_in; decide) (by decide) ?_
  refine bb_eq (w2 := ([(h0, .inr (1, [.ref q1, .ref (a4 0), .ref q2, .ref q3, .int 0, .int 0])), (q1, .inl (cA 2, 4, .inr (.inr (.inr (.inr (va_up (va_up (va_up (fun _ => none) 0 (some (a5 0))) 1 (some (a6 0))) 2 (some (a7 0)))))))), (q2, .inl (cA 0, 3, .inl (fun _ => 0))), (q3, .inl (cA 0, 3, .inl (fun _ => 0)))] : va_W) ++ ng_G5 cA r a4 ++ ng_G5 cA r a5 ++ ng_G5 cA r a6 ++ ng_G5 cA r a7) rfl ?_
  refine bb_iinc_2 (w := 1) dX1_init_63 (by decide) rfl ?_
  rw [show (2 : Int32) + 1 = 3 by decide]
  refine bb_goto 40 dX1_init_66 (by decide +kernel) ?_
  refine bb_iload_2 dX1_init_40 ?_
  refine bb_aload_0 dX1_init_41 ?_
  refine bb_get (v := .ref q1) 0 dX1_init_42 fl_X1_11 rfl rfl ?_
  refine bb_alen (t := 2) (v := 4) 1 dX1_init_45 rfl rfl rfl ?_
  refine bb_icmp_ge 69 dX1_init_46 (by decide +kernel) (fun h => absurd h (by decide)) (fun _ => ?_)
  refine bb_aload_0 dX1_init_49 ?_
  refine bb_get (v := .ref q1) 0 dX1_init_50 fl_X1_11 rfl rfl ?_
  refine bb_iload_2 dX1_init_53 ?_
  refine bb_new (N := 12) (ck := 2) (sk := 16) [.null, .null, .null, .int 0, .int 0, .int 0, .int 0, .int 0, .int 0, .int 0, .int 0, .int 0] dX1_init_54 cl_X1_9 (by decide) (fun q8 => ?_)
  refine bb_dup dX1_init_57 rfl ?_
  refine bb_aload_1 dX1_init_58 ?_
  refine bb_call (ww := ([(h0, .inr (1, [.ref q1, .ref (a4 0), .ref q2, .ref q3, .int 0, .int 0])), (q1, .inl (cA 2, 4, .inr (.inr (.inr (.inr (va_up (va_up (va_up (fun _ => none) 0 (some (a5 0))) 1 (some (a6 0))) 2 (some (a7 0)))))))), (q2, .inl (cA 0, 3, .inl (fun _ => 0))), (q3, .inl (cA 0, 3, .inl (fun _ => 0)))] : va_W) ++ ng_G5 cA r a4 ++ ng_G5 cA r a5 ++ ng_G5 cA r a6 ++ ng_G5 cA r a7) (ck := 0) (sk := 0) (y2 := mi_X5_init) (As := [.ref r]) dX1_init_59 lm_X1_24 mj_X5_init rfl (Nat.le_of_ble_eq_true rfl) n_X5 (by decide) (fun a8 ha => ?_)
  subst ha
  refine bb_ast (t := 2) (j := 3) (ci := 5) (r := (RX5, TX5, 12)) 1 16 dX1_init_62 rfl rfl rfl rfl (by unfold vp_in; decide) (by decide) ?_
  refine bb_eq (w2 := ([(h0, .inr (1, [.ref q1, .ref (a4 0), .ref q2, .ref q3, .int 0, .int 0])), (q1, .inl (cA 2, 4, .inr (.inr (.inr (.inr (va_up (va_up (va_up (va_up (fun _ => none) 0 (some (a5 0))) 1 (some (a6 0))) 2 (some (a7 0))) 3 (some (a8 0)))))))), (q2, .inl (cA 0, 3, .inl (fun _ => 0))), (q3, .inl (cA 0, 3, .inl (fun _ => 0)))] : va_W) ++ ng_G5 cA r a4 ++ ng_G5 cA r a5 ++ ng_G5 cA r a6 ++ ng_G5 cA r a7 ++ ng_G5 cA r a8) rfl ?_
  refine bb_iinc_2 (w := 1) dX1_init_63 (by decide) rfl ?_
  rw [show (3 : Int32) + 1 = 4 by decide]
  refine bb_goto 40 dX1_init_66 (by decide +kernel) ?_
  refine bb_iload_2 dX1_init_40 ?_
  refine bb_aload_0 dX1_init_41 ?_
  refine bb_get (v := .ref q1) 0 dX1_init_42 fl_X1_11 rfl rfl ?_
  refine bb_alen (t := 2) (v := 4) 1 dX1_init_45 rfl rfl rfl ?_
  refine bb_icmp_ge 69 dX1_init_46 (by decide +kernel) (fun _ => ?_) (fun h => absurd (by decide) h)
  refine bb_sub (w2 := ([(h0, .inr (1, [.ref q1, .ref (a4 0), .ref q2, .ref q3, .int 0, .int 0])), (q1, .inl (cA 2, 4, .inr (.inr (.inr (.inr (va_up (va_up (va_up (va_up (fun _ => none) 0 (some (a5 0))) 1 (some (a6 0))) 2 (some (a7 0))) 3 (some (a8 0))))))))] : va_W) ++ ng_G5 cA r a4 ++ ng_G5 cA r a5 ++ ng_G5 cA r a6 ++ ng_G5 cA r a7 ++ ng_G5 cA r a8 ++ ([(q2, .inl (cA 0, 3, .inl (fun _ => 0))), (q3, .inl (cA 0, 3, .inl (fun _ => 0)))] : va_W)) [0, 1, 4, 5, 6, 7, 8, 9, 10, 11, 12, 13, 14, 15, 16, 17, 18, 2, 3] (by decide) rfl ?_
  exact bb_ret dX1_init_69 ⟨fun i => if i < 1 then h0 else if i < 2 then q1 else if i < 5 then a4 (i - 2) else if i < 8 then a5 (i - 5) else if i < 11 then a6 (i - 8) else if i < 14 then a7 (i - 11) else if i < 17 then a8 (i - 14) else if i < 18 then q2 else if i < 19 then q3 else 0, rfl, rfl⟩
theorem n_X6 {D : va_G} {cA : Nat → ClassId} : ng_N ng_Z0 D cA mi_X6_init 1 1 40 [] (.inr (6, [.null, .int 0, .int 0, .int 0, .int 0])) (ng_G6 cA) := by
  refine ng_N.of (lf := fun h0 => [some (.ref h0)]) (by decide) rfl rfl (fun _ => Nat.le_of_ble_eq_true rfl) (fun _ => rfl) (fun h0 => ?_)
  refine bb_aload_0 dX6_init_0 ?_
  refine bb_obj dX6_init_1 lo_X6 (Nat.le_of_ble_eq_true rfl) (by decide) ?_
  refine bb_aload_0 dX6_init_4 ?_
  refine bb_bipush (v := 40) dX6_init_5 (by decide) ?_
  refine bb_newa (ck := 0) (sk := 0) 40 dX6_init_7 (by decide) (by decide) (by decide) (fun q1 => ?_)
  refine bb_eq (w2 := ([(h0, .inr (6, [.null, .int 0, .int 0, .int 0, .int 0])), (q1, .inl (cA 0, 40, .inl (fun _ => 0)))] : va_W)) rfl ?_
  refine bb_putF 0 dX6_init_9 ff_X6_9 rfl rfl rfl (Nat.le_of_ble_eq_true rfl) ?_
  refine bb_eq (w2 := ([(h0, .inr (6, [.ref q1, .int 0, .int 0, .int 0, .int 0])), (q1, .inl (cA 0, 40, .inl (fun _ => 0)))] : va_W)) rfl ?_
  exact bb_ret dX6_init_12 ⟨fun i => if i < 1 then h0 else if i < 2 then q1 else 0, rfl, rfl⟩
theorem n_X2 {D : va_G} {cA : Nat → ClassId} : ng_N ng_Z0 D cA mi_X2_init 1 2 100 [] (.inr (2, [.null, .int 0, .null, .int 0, .int 0, .int 0])) (ng_G2 cA) := by
  refine ng_N.of (lf := fun h0 => [some (.ref h0)]) (by decide) rfl rfl (fun _ => Nat.le_of_ble_eq_true rfl) (fun _ => rfl) (fun h0 => ?_)
  refine bb_aload_0 dX2_init_0 ?_
  refine bb_obj dX2_init_1 lo_X2 (Nat.le_of_ble_eq_true rfl) (by decide) ?_
  refine bb_aload_0 dX2_init_4 ?_
  refine bb_bipush (v := 50) dX2_init_5 (by decide) ?_
  refine bb_newa (ck := 1) (sk := 50) 50 dX2_init_7 (by decide) (by decide) (by decide) (fun q1 => ?_)
  refine bb_eq (w2 := ([(h0, .inr (2, [.null, .int 0, .null, .int 0, .int 0, .int 0])), (q1, .inl (cA 0, 50, .inl (fun _ => 0)))] : va_W)) rfl ?_
  refine bb_putF 0 dX2_init_9 ff_X2_9 rfl rfl rfl (Nat.le_of_ble_eq_true rfl) ?_
  refine bb_eq (w2 := ([(h0, .inr (2, [.ref q1, .int 0, .null, .int 0, .int 0, .int 0])), (q1, .inl (cA 0, 50, .inl (fun _ => 0)))] : va_W)) rfl ?_
  refine bb_aload_0 dX2_init_12 ?_
  refine bb_bipush (v := 50) dX2_init_13 (by decide) ?_
  refine bb_newa (ck := 0) (sk := 0) 50 dX2_init_15 (by decide) (by decide) (by decide) (fun q2 => ?_)
  refine bb_eq (w2 := ([(h0, .inr (2, [.ref q1, .int 0, .null, .int 0, .int 0, .int 0])), (q1, .inl (cA 0, 50, .inl (fun _ => 0))), (q2, .inl (cA 0, 50, .inl (fun _ => 0)))] : va_W)) rfl ?_
  refine bb_putF 0 dX2_init_17 ff_X2_15 rfl rfl rfl (Nat.le_of_ble_eq_true rfl) ?_
  refine bb_eq (w2 := ([(h0, .inr (2, [.ref q1, .int 0, .ref q2, .int 0, .int 0, .int 0])), (q1, .inl (cA 0, 50, .inl (fun _ => 0))), (q2, .inl (cA 0, 50, .inl (fun _ => 0)))] : va_W)) rfl ?_
  exact bb_ret dX2_init_20 ⟨fun i => if i < 1 then h0 else if i < 2 then q1 else if i < 3 then q2 else 0, rfl, rfl⟩
theorem n_X4 {D : va_G} {cA : Nat → ClassId} : ng_N ng_Z0 D cA mi_X4_init 1 1 40 [] (.inr (4, [.null, .int 0, .int 0])) (ng_G4 cA) := by
  refine ng_N.of (lf := fun h0 => [some (.ref h0)]) (by decide) rfl rfl (fun _ => Nat.le_of_ble_eq_true rfl) (fun _ => rfl) (fun h0 => ?_)
  refine bb_aload_0 dX4_init_0 ?_
  refine bb_obj dX4_init_1 lo_X4 (Nat.le_of_ble_eq_true rfl) (by decide) ?_
  refine bb_aload_0 dX4_init_4 ?_
  refine bb_bipush (v := 40) dX4_init_5 (by decide) ?_
  refine bb_newa (ck := 0) (sk := 0) 40 dX4_init_7 (by decide) (by decide) (by decide) (fun q1 => ?_)
  refine bb_eq (w2 := ([(h0, .inr (4, [.null, .int 0, .int 0])), (q1, .inl (cA 0, 40, .inl (fun _ => 0)))] : va_W)) rfl ?_
  refine bb_putF 0 dX4_init_9 ff_X4_9 rfl rfl rfl (Nat.le_of_ble_eq_true rfl) ?_
  refine bb_eq (w2 := ([(h0, .inr (4, [.ref q1, .int 0, .int 0])), (q1, .inl (cA 0, 40, .inl (fun _ => 0)))] : va_W)) rfl ?_
  exact bb_ret dX4_init_12 ⟨fun i => if i < 1 then h0 else if i < 2 then q1 else 0, rfl, rfl⟩
