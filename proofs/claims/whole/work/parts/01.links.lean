abbrev ab_MK : Type := MethodName × ByteArray × Nat × Option FieldType
abbrev ab_tys : Nat → Nat → FieldType := fun ci => match ci with
  | 0 => tyX0
  | 1 => tyX2
  | 2 => tyX3
  | 3 => tyX4
  | 4 => tyX5
  | 5 => tyX6
  | 6 => tyX7
  | 7 => tyX8
  | 8 => tyX9
  | 9 => tyX10
  | 10 => tyX11
  | _ => tyX12
def ab_C (ci : Nat) : String := match ci with
  | 0 => RX0
  | 1 => RX2
  | 2 => RX3
  | 3 => RX4
  | 4 => RX5
  | 5 => RX6
  | 6 => RX7
  | 7 => RX8
  | 8 => RX9
  | 9 => RX10
  | 10 => RX11
  | _ => RX12
def ab_T (ci : Nat) : u_T := match ci with
  | 0 => TX0
  | 1 => TX2
  | 2 => TX3
  | 3 => TX4
  | 4 => TX5
  | 5 => TX6
  | 6 => TX7
  | 7 => TX8
  | 8 => TX9
  | 9 => TX10
  | 10 => TX11
  | _ => TX12
def ab_N (ci : Nat) : Nat := match ci with
  | 0 => 11
  | 1 => 2
  | 2 => 6
  | 3 => 4
  | 4 => 2
  | 5 => 2
  | 6 => 3
  | 7 => 5
  | 8 => 4
  | 9 => 6
  | 10 => 8
  | _ => 43
/-- what the tables say of a method -/
def ab_mk (M : ab_MK) (n : Nat) : Prop := Cond.code M.1 M.2.1 M.2.2.1 M.2.2.2 ∈ lw_tbl ∧ Cond.initialized M.1.cls ∈ lw_tbl ∧ (M.1.cls ≠ "java/lang/invoke/MethodHandle" ∧ M.1.cls ≠ "java/lang/invoke/VarHandle" ∧ (parseMethodDescriptor M.1.desc).map (fun d => d.parameters.length) = some n) ∧ M.2.2.1 ≤ 60
def ab_kv (own : String) (i : Nat) (M : ab_MK) : Prop := Cond.methodLink own i M.1 ∈ lw_tbl ∧ Cond.instanceMethod M.1 ∈ lw_tbl ∧ Cond.selects M.1.cls M.1 M.1 ∈ lw_tbl
def ab_ks (own : String) (i : Nat) (M : ab_MK) : Prop := Cond.methodLink own i M.1 ∈ lw_tbl ∧ Cond.static M.1 ∈ lw_tbl
def ab_ki (own : String) (i : Nat) (M : ab_MK) : Prop := Cond.methodLink own i M.1 ∈ lw_tbl ∧ Cond.instanceMethod M.1 ∈ lw_tbl ∧ M.1.name = "<init>"
def ab_fl (own : String) (i ci k : Nat) : Prop := Cond.fieldLink own i (ab_C ci) (ab_T ci k).2.1 (ab_T ci k).2.2.1 ∈ lw_tbl
theorem it_L : Cond.initialized RL ∈ lw_tbl := List.mem_of_getElem? (i := 57) (by decide +kernel)
theorem it_X11 : Cond.initialized RX11 ∈ lw_tbl := List.mem_of_getElem? (i := 58) (by decide +kernel)
theorem it_X0 : Cond.initialized RX0 ∈ lw_tbl := List.mem_of_getElem? (i := 59) (by decide +kernel)
theorem it_X8 : Cond.initialized RX8 ∈ lw_tbl := List.mem_of_getElem? (i := 60) (by decide +kernel)
theorem it_X9 : Cond.initialized RX9 ∈ lw_tbl := List.mem_of_getElem? (i := 61) (by decide +kernel)
theorem it_X4 : Cond.initialized RX4 ∈ lw_tbl := List.mem_of_getElem? (i := 62) (by decide +kernel)
theorem it_X3 : Cond.initialized RX3 ∈ lw_tbl := List.mem_of_getElem? (i := 63) (by decide +kernel)
theorem it_X7 : Cond.initialized RX7 ∈ lw_tbl := List.mem_of_getElem? (i := 64) (by decide +kernel)
theorem it_X5 : Cond.initialized RX5 ∈ lw_tbl := List.mem_of_getElem? (i := 65) (by decide +kernel)
theorem it_X12 : Cond.initialized RX12 ∈ lw_tbl := List.mem_of_getElem? (i := 66) (by decide +kernel)
theorem it_X10 : Cond.initialized RX10 ∈ lw_tbl := List.mem_of_getElem? (i := 67) (by decide +kernel)
theorem it_X6 : Cond.initialized RX6 ∈ lw_tbl := List.mem_of_getElem? (i := 68) (by decide +kernel)
theorem it_X2 : Cond.initialized RX2 ∈ lw_tbl := List.mem_of_getElem? (i := 69) (by decide +kernel)
theorem it_J9 : Cond.initialized RJ9 ∈ lw_tbl := List.mem_of_getElem? (i := 70) (by decide +kernel)
theorem it_J10 : Cond.initialized RJ10 ∈ lw_tbl := List.mem_of_getElem? (i := 71) (by decide +kernel)
theorem it_J13 : Cond.initialized RJ13 ∈ lw_tbl := List.mem_of_getElem? (i := 72) (by decide +kernel)
theorem it_J6 : Cond.initialized RJ6 ∈ lw_tbl := List.mem_of_getElem? (i := 73) (by decide +kernel)
theorem it_X1 : Cond.initialized RX1 ∈ lw_tbl := List.mem_of_getElem? (i := 74) (by decide +kernel)
theorem it_Jxf58ca : Cond.initialized RJxf58ca ∈ lw_tbl := List.mem_of_getElem? (i := 75) (by decide +kernel)
theorem it_Jxe99ae : Cond.initialized RJxe99ae ∈ lw_tbl := List.mem_of_getElem? (i := 76) (by decide +kernel)
theorem cl_L_7 : Cond.classLink RL 7 RX11 ∈ lw_tbl := List.mem_of_getElem? (i := 77) (by decide +kernel)
theorem is_X11 : Cond.instantiable RX11 8 ∈ lw_tbl := List.mem_of_getElem? (i := 78) (by decide +kernel)
theorem cl_X11_7 : Cond.classLink RX11 7 RX0 ∈ lw_tbl := List.mem_of_getElem? (i := 85) (by decide +kernel)
theorem is_X0 : Cond.instantiable RX0 11 ∈ lw_tbl := List.mem_of_getElem? (i := 86) (by decide +kernel)
theorem fl_X3_23 : ab_fl RX3 23 0 0 := List.mem_of_getElem? (i := 91) (by decide +kernel)
theorem fl_X0_31 : ab_fl RX0 31 0 0 := List.mem_of_getElem? (i := 92) (by decide +kernel)
theorem fl_X11_348 : ab_fl RX11 348 0 0 := List.mem_of_getElem? (i := 93) (by decide +kernel)
theorem fl_X3_30 : ab_fl RX3 30 0 1 := List.mem_of_getElem? (i := 94) (by decide +kernel)
theorem fl_X0_38 : ab_fl RX0 38 0 1 := List.mem_of_getElem? (i := 95) (by decide +kernel)
theorem fl_X11_351 : ab_fl RX11 351 0 1 := List.mem_of_getElem? (i := 96) (by decide +kernel)
theorem fl_X3_34 : ab_fl RX3 34 0 2 := List.mem_of_getElem? (i := 97) (by decide +kernel)
theorem fl_X0_41 : ab_fl RX0 41 0 2 := List.mem_of_getElem? (i := 98) (by decide +kernel)
theorem fl_X11_354 : ab_fl RX11 354 0 2 := List.mem_of_getElem? (i := 99) (by decide +kernel)
theorem fl_X0_44 : ab_fl RX0 44 0 3 := List.mem_of_getElem? (i := 100) (by decide +kernel)
theorem fl_X11_102 : ab_fl RX11 102 0 3 := List.mem_of_getElem? (i := 101) (by decide +kernel)
theorem fl_X0_35 : ab_fl RX0 35 0 4 := List.mem_of_getElem? (i := 102) (by decide +kernel)
theorem fl_X0_11 : ab_fl RX0 11 0 5 := List.mem_of_getElem? (i := 103) (by decide +kernel)
theorem fl_X0_15 : ab_fl RX0 15 0 6 := List.mem_of_getElem? (i := 104) (by decide +kernel)
theorem fl_X0_18 : ab_fl RX0 18 0 7 := List.mem_of_getElem? (i := 105) (by decide +kernel)
theorem fl_X0_21 : ab_fl RX0 21 0 8 := List.mem_of_getElem? (i := 106) (by decide +kernel)
theorem fl_X0_24 : ab_fl RX0 24 0 9 := List.mem_of_getElem? (i := 107) (by decide +kernel)
theorem fl_X0_27 : ab_fl RX0 27 0 10 := List.mem_of_getElem? (i := 108) (by decide +kernel)
theorem ac_int : Cond.arrayClass FieldType.int ∈ lw_tbl := List.mem_of_getElem? (i := 132) (by decide +kernel)
theorem ac_boolean : Cond.arrayClass FieldType.boolean ∈ lw_tbl := List.mem_of_getElem? (i := 133) (by decide +kernel)
theorem cl_X11_16 : Cond.classLink RX11 16 RX8 ∈ lw_tbl := List.mem_of_getElem? (i := 134) (by decide +kernel)
theorem is_X8 : Cond.instantiable RX8 5 ∈ lw_tbl := List.mem_of_getElem? (i := 135) (by decide +kernel)
theorem fl_X8_11 : ab_fl RX8 11 7 0 := List.mem_of_getElem? (i := 140) (by decide +kernel)
theorem fl_X8_15 : ab_fl RX8 15 7 1 := List.mem_of_getElem? (i := 141) (by decide +kernel)
theorem fl_X8_19 : ab_fl RX8 19 7 2 := List.mem_of_getElem? (i := 142) (by decide +kernel)
theorem fl_X8_22 : ab_fl RX8 22 7 3 := List.mem_of_getElem? (i := 143) (by decide +kernel)
theorem fl_X8_25 : ab_fl RX8 25 7 4 := List.mem_of_getElem? (i := 144) (by decide +kernel)
theorem ac_long : Cond.arrayClass FieldType.long ∈ lw_tbl := List.mem_of_getElem? (i := 156) (by decide +kernel)
theorem cl_X11_23 : Cond.classLink RX11 23 RX9 ∈ lw_tbl := List.mem_of_getElem? (i := 157) (by decide +kernel)
theorem is_X9 : Cond.instantiable RX9 4 ∈ lw_tbl := List.mem_of_getElem? (i := 158) (by decide +kernel)
theorem cl_X9_9 : Cond.classLink RX9 9 RX6 ∈ lw_tbl := List.mem_of_getElem? (i := 163) (by decide +kernel)
theorem ao_Point : Cond.arrayOver (FieldType.object "CutInCopies$Point") ∈ lw_tbl := List.mem_of_getElem? (i := 164) (by decide +kernel)
theorem cl_X9_15 : Cond.classLink RX9 15 RX10 ∈ lw_tbl := List.mem_of_getElem? (i := 165) (by decide +kernel)
theorem ao_Triangle : Cond.arrayOver (FieldType.object "CutInCopies$Triangle") ∈ lw_tbl := List.mem_of_getElem? (i := 166) (by decide +kernel)
theorem fl_X9_11 : ab_fl RX9 11 8 0 := List.mem_of_getElem? (i := 167) (by decide +kernel)
theorem fl_X11_199 : ab_fl RX11 199 8 0 := List.mem_of_getElem? (i := 168) (by decide +kernel)
theorem fl_X9_17 : ab_fl RX9 17 8 1 := List.mem_of_getElem? (i := 169) (by decide +kernel)
theorem fl_X11_238 : ab_fl RX11 238 8 1 := List.mem_of_getElem? (i := 170) (by decide +kernel)
theorem fl_X9_21 : ab_fl RX9 21 8 2 := List.mem_of_getElem? (i := 171) (by decide +kernel)
theorem fl_X11_189 : ab_fl RX11 189 8 2 := List.mem_of_getElem? (i := 172) (by decide +kernel)
theorem fl_X9_25 : ab_fl RX9 25 8 3 := List.mem_of_getElem? (i := 173) (by decide +kernel)
theorem fl_X11_228 : ab_fl RX11 228 8 3 := List.mem_of_getElem? (i := 174) (by decide +kernel)
theorem cl_X11_30 : Cond.classLink RX11 30 RX4 ∈ lw_tbl := List.mem_of_getElem? (i := 184) (by decide +kernel)
theorem is_X4 : Cond.instantiable RX4 4 ∈ lw_tbl := List.mem_of_getElem? (i := 185) (by decide +kernel)
theorem fl_X4_19 : ab_fl RX4 19 3 0 := List.mem_of_getElem? (i := 190) (by decide +kernel)
theorem fl_X11_78 : ab_fl RX11 78 3 0 := List.mem_of_getElem? (i := 191) (by decide +kernel)
theorem fl_X11_86 : ab_fl RX11 86 3 1 := List.mem_of_getElem? (i := 192) (by decide +kernel)
theorem fl_X4_23 : ab_fl RX4 23 3 1 := List.mem_of_getElem? (i := 193) (by decide +kernel)
theorem fl_X4_11 : ab_fl RX4 11 3 2 := List.mem_of_getElem? (i := 194) (by decide +kernel)
theorem fl_X11_89 : ab_fl RX11 89 3 2 := List.mem_of_getElem? (i := 195) (by decide +kernel)
theorem fl_X4_15 : ab_fl RX4 15 3 3 := List.mem_of_getElem? (i := 196) (by decide +kernel)
theorem ac_char : Cond.arrayClass FieldType.char ∈ lw_tbl := List.mem_of_getElem? (i := 206) (by decide +kernel)
theorem cl_X11_37 : Cond.classLink RX11 37 RX3 ∈ lw_tbl := List.mem_of_getElem? (i := 207) (by decide +kernel)
theorem is_X3 : Cond.instantiable RX3 6 ∈ lw_tbl := List.mem_of_getElem? (i := 208) (by decide +kernel)
theorem cl_X3_7 : Cond.classLink RX3 7 RX8 ∈ lw_tbl := List.mem_of_getElem? (i := 213) (by decide +kernel)
theorem cl_X3_16 : Cond.classLink RX3 16 RX9 ∈ lw_tbl := List.mem_of_getElem? (i := 215) (by decide +kernel)
theorem fl_X3_45 : ab_fl RX3 45 2 0 := List.mem_of_getElem? (i := 217) (by decide +kernel)
theorem fl_X11_341 : ab_fl RX11 341 2 0 := List.mem_of_getElem? (i := 218) (by decide +kernel)
theorem fl_X3_29 : ab_fl RX3 29 2 1 := List.mem_of_getElem? (i := 219) (by decide +kernel)
theorem fl_X3_33 : ab_fl RX3 33 2 2 := List.mem_of_getElem? (i := 220) (by decide +kernel)
theorem fl_X3_37 : ab_fl RX3 37 2 3 := List.mem_of_getElem? (i := 221) (by decide +kernel)
theorem fl_X3_10 : ab_fl RX3 10 2 4 := List.mem_of_getElem? (i := 222) (by decide +kernel)
theorem fl_X3_19 : ab_fl RX3 19 2 5 := List.mem_of_getElem? (i := 223) (by decide +kernel)
theorem cl_X11_44 : Cond.classLink RX11 44 RX7 ∈ lw_tbl := List.mem_of_getElem? (i := 237) (by decide +kernel)
theorem ao_Rack : Cond.arrayOver (FieldType.object "CutInCopies$Rack") ∈ lw_tbl := List.mem_of_getElem? (i := 238) (by decide +kernel)
theorem cl_X11_50 : Cond.classLink RX11 50 RX5 ∈ lw_tbl := List.mem_of_getElem? (i := 239) (by decide +kernel)
theorem ao_Numbers : Cond.arrayOver (FieldType.object "CutInCopies$Numbers") ∈ lw_tbl := List.mem_of_getElem? (i := 240) (by decide +kernel)
theorem is_X7 : Cond.instantiable RX7 3 ∈ lw_tbl := List.mem_of_getElem? (i := 241) (by decide +kernel)
theorem cl_X7_9 : Cond.classLink RX7 9 RX10 ∈ lw_tbl := List.mem_of_getElem? (i := 246) (by decide +kernel)
theorem fl_X7_11 : ab_fl RX7 11 6 0 := List.mem_of_getElem? (i := 247) (by decide +kernel)
theorem fl_X11_317 : ab_fl RX11 317 6 0 := List.mem_of_getElem? (i := 248) (by decide +kernel)
theorem fl_X7_15 : ab_fl RX7 15 6 1 := List.mem_of_getElem? (i := 249) (by decide +kernel)
theorem fl_X11_324 : ab_fl RX11 324 6 1 := List.mem_of_getElem? (i := 250) (by decide +kernel)
theorem fl_X7_22 : ab_fl RX7 22 6 2 := List.mem_of_getElem? (i := 251) (by decide +kernel)
theorem is_X5 : Cond.instantiable RX5 2 ∈ lw_tbl := List.mem_of_getElem? (i := 259) (by decide +kernel)
theorem fl_X5_9 : ab_fl RX5 9 4 0 := List.mem_of_getElem? (i := 264) (by decide +kernel)
theorem fl_X11_330 : ab_fl RX11 330 4 0 := List.mem_of_getElem? (i := 265) (by decide +kernel)
theorem fl_X5_13 : ab_fl RX5 13 4 1 := List.mem_of_getElem? (i := 266) (by decide +kernel)
theorem fl_X11_336 : ab_fl RX11 336 4 1 := List.mem_of_getElem? (i := 267) (by decide +kernel)
theorem fl_X11_10 : ab_fl RX11 10 10 0 := List.mem_of_getElem? (i := 291) (by decide +kernel)
theorem fl_X11_19 : ab_fl RX11 19 10 1 := List.mem_of_getElem? (i := 292) (by decide +kernel)
theorem fl_X11_26 : ab_fl RX11 26 10 2 := List.mem_of_getElem? (i := 293) (by decide +kernel)
theorem fl_X11_33 : ab_fl RX11 33 10 3 := List.mem_of_getElem? (i := 294) (by decide +kernel)
theorem fl_X11_40 : ab_fl RX11 40 10 4 := List.mem_of_getElem? (i := 295) (by decide +kernel)
theorem fl_X11_46 : ab_fl RX11 46 10 5 := List.mem_of_getElem? (i := 296) (by decide +kernel)
theorem fl_X11_52 : ab_fl RX11 52 10 6 := List.mem_of_getElem? (i := 297) (by decide +kernel)
theorem fl_X11_56 : ab_fl RX11 56 10 7 := List.mem_of_getElem? (i := 298) (by decide +kernel)
theorem is_X6 : Cond.instantiable RX6 2 ∈ lw_tbl := List.mem_of_getElem? (i := 400) (by decide +kernel)
theorem cl_X2_8 : Cond.classLink RX2 8 RX2 ∈ lw_tbl := List.mem_of_getElem? (i := 413) (by decide +kernel)
theorem is_X2 : Cond.instantiable RX2 2 ∈ lw_tbl := List.mem_of_getElem? (i := 414) (by decide +kernel)
theorem fl_X2_7 : ab_fl RX2 7 1 0 := List.mem_of_getElem? (i := 419) (by decide +kernel)
theorem fl_X10_54 : ab_fl RX10 54 1 0 := List.mem_of_getElem? (i := 420) (by decide +kernel)
theorem fl_X2_13 : ab_fl RX2 13 1 1 := List.mem_of_getElem? (i := 421) (by decide +kernel)
theorem fl_X10_68 : ab_fl RX10 68 1 1 := List.mem_of_getElem? (i := 422) (by decide +kernel)
theorem fl_X6_7 : ab_fl RX6 7 5 0 := List.mem_of_getElem? (i := 432) (by decide +kernel)
theorem fl_X10_39 : ab_fl RX10 39 5 0 := List.mem_of_getElem? (i := 433) (by decide +kernel)
theorem fl_X11_209 : ab_fl RX11 209 5 0 := List.mem_of_getElem? (i := 434) (by decide +kernel)
theorem fl_X6_13 : ab_fl RX6 13 5 1 := List.mem_of_getElem? (i := 435) (by decide +kernel)
theorem fl_X10_48 : ab_fl RX10 48 5 1 := List.mem_of_getElem? (i := 436) (by decide +kernel)
theorem fl_X11_216 : ab_fl RX11 216 5 1 := List.mem_of_getElem? (i := 437) (by decide +kernel)
theorem fl_X10_87 : Cond.fieldLink RX10 87 "CutInCopies$Triangle" "KIND_ABOVE" "[I" ∈ lw_tbl := List.mem_of_getElem? (i := 455) (by decide +kernel)
theorem fl_X10_64 : Cond.fieldLink RX10 64 "CutInCopies$Triangle" "AREA_TIMES" "[I" ∈ lw_tbl := List.mem_of_getElem? (i := 478) (by decide +kernel)
theorem kc_X10_71 : Cond.constantLong RX10 71 (2 : Int64) ∈ lw_tbl := List.mem_of_getElem? (i := 480) (by decide +kernel)
theorem fl_X10_73 : Cond.fieldLink RX10 73 "CutInCopies$Triangle" "AREA_DIVIDED" "[I" ∈ lw_tbl := List.mem_of_getElem? (i := 481) (by decide +kernel)
theorem cl_X10_8 : Cond.classLink RX10 8 RX10 ∈ lw_tbl := List.mem_of_getElem? (i := 484) (by decide +kernel)
theorem is_X10 : Cond.instantiable RX10 6 ∈ lw_tbl := List.mem_of_getElem? (i := 485) (by decide +kernel)
theorem fl_X10_7 : ab_fl RX10 7 9 0 := List.mem_of_getElem? (i := 490) (by decide +kernel)
theorem fl_X7_19 : ab_fl RX7 19 9 0 := List.mem_of_getElem? (i := 491) (by decide +kernel)
theorem fl_X11_242 : ab_fl RX11 242 9 0 := List.mem_of_getElem? (i := 492) (by decide +kernel)
theorem fl_X10_13 : ab_fl RX10 13 9 1 := List.mem_of_getElem? (i := 493) (by decide +kernel)
theorem fl_X11_245 : ab_fl RX11 245 9 1 := List.mem_of_getElem? (i := 494) (by decide +kernel)
theorem fl_X10_16 : ab_fl RX10 16 9 2 := List.mem_of_getElem? (i := 495) (by decide +kernel)
theorem fl_X11_248 : ab_fl RX11 248 9 2 := List.mem_of_getElem? (i := 496) (by decide +kernel)
theorem fl_X10_19 : ab_fl RX10 19 9 3 := List.mem_of_getElem? (i := 497) (by decide +kernel)
theorem fl_X11_251 : ab_fl RX11 251 9 3 := List.mem_of_getElem? (i := 498) (by decide +kernel)
theorem fl_X10_22 : ab_fl RX10 22 9 4 := List.mem_of_getElem? (i := 499) (by decide +kernel)
theorem fl_X11_254 : ab_fl RX11 254 9 4 := List.mem_of_getElem? (i := 500) (by decide +kernel)
theorem fl_X10_25 : ab_fl RX10 25 9 5 := List.mem_of_getElem? (i := 501) (by decide +kernel)
theorem fl_X9_53 : ab_fl RX9 53 9 5 := List.mem_of_getElem? (i := 502) (by decide +kernel)
theorem fl_X11_260 : ab_fl RX11 260 9 5 := List.mem_of_getElem? (i := 503) (by decide +kernel)
theorem kc_X11_357 : Cond.constantLong RX11 357 (4000000000000000000 : Int64) ∈ lw_tbl := List.mem_of_getElem? (i := 604) (by decide +kernel)
theorem nt_arraycopy : Cond.native ⟨"java/lang/System", "arraycopy", "(Ljava/lang/Object;ILjava/lang/Object;II)V"⟩ ∈ lw_tbl := List.mem_of_getElem? (i := 642) (by decide +kernel)
theorem kc_X8_52 : Cond.constant RX8 52 (1664525 : Int32) ∈ lw_tbl := List.mem_of_getElem? (i := 691) (by decide +kernel)
theorem kc_X8_53 : Cond.constant RX8 53 (1013904223 : Int32) ∈ lw_tbl := List.mem_of_getElem? (i := 692) (by decide +kernel)
theorem kc_X8_54 : Cond.constant RX8 54 (2147483647 : Int32) ∈ lw_tbl := List.mem_of_getElem? (i := 693) (by decide +kernel)
theorem kc_X9_57 : Cond.constantLong RX9 57 (1000000000 : Int64) ∈ lw_tbl := List.mem_of_getElem? (i := 744) (by decide +kernel)
theorem kc_X1_9 : Cond.constantFloat RX1 9 (1056964608 : UInt32) ∈ lw_tbl := List.mem_of_getElem? (i := 786) (by decide +kernel)
theorem kc_X1_10 : Cond.constantFloat RX1 10 (1258291200 : UInt32) ∈ lw_tbl := List.mem_of_getElem? (i := 787) (by decide +kernel)
theorem kc_X11_292 : Cond.constantFloat RX11 292 (1148846080 : UInt32) ∈ lw_tbl := List.mem_of_getElem? (i := 797) (by decide +kernel)
theorem kc_X1_11 : Cond.constantLong RX1 11 (1023 : Int64) ∈ lw_tbl := List.mem_of_getElem? (i := 813) (by decide +kernel)
theorem kc_X1_13 : Cond.constantDouble RX1 13 (4611686018427387904 : UInt64) ∈ lw_tbl := List.mem_of_getElem? (i := 814) (by decide +kernel)
theorem kc_X1_15 : Cond.constantDouble RX1 15 (4602678819172646912 : UInt64) ∈ lw_tbl := List.mem_of_getElem? (i := 815) (by decide +kernel)
theorem kc_X1_17 : Cond.constantDouble RX1 17 (4841369599423283200 : UInt64) ∈ lw_tbl := List.mem_of_getElem? (i := 816) (by decide +kernel)
theorem kc_X11_332 : Cond.constantLong RX11 332 (4000000000000000011 : Int64) ∈ lw_tbl := List.mem_of_getElem? (i := 881) (by decide +kernel)
theorem kc_X11_334 : Cond.constantLong RX11 334 (4000000000000000013 : Int64) ∈ lw_tbl := List.mem_of_getElem? (i := 882) (by decide +kernel)
theorem cl_L_10 : Cond.classLink RL 10 RX12 ∈ lw_tbl := List.mem_of_getElem? (i := 916) (by decide +kernel)
theorem is_X12 : Cond.instantiable RX12 43 ∈ lw_tbl := List.mem_of_getElem? (i := 917) (by decide +kernel)
theorem fl_X12_1 : ab_fl RX12 1 11 0 := List.mem_of_getElem? (i := 938) (by decide +kernel)
theorem fl_X12_29 : ab_fl RX12 29 11 1 := List.mem_of_getElem? (i := 939) (by decide +kernel)
theorem fl_X12_127 : ab_fl RX12 127 11 2 := List.mem_of_getElem? (i := 940) (by decide +kernel)
theorem fl_X12_130 : ab_fl RX12 130 11 3 := List.mem_of_getElem? (i := 941) (by decide +kernel)
theorem fl_X12_133 : ab_fl RX12 133 11 4 := List.mem_of_getElem? (i := 942) (by decide +kernel)
theorem fl_X12_33 : ab_fl RX12 33 11 5 := List.mem_of_getElem? (i := 943) (by decide +kernel)
theorem fl_X12_36 : ab_fl RX12 36 11 6 := List.mem_of_getElem? (i := 944) (by decide +kernel)
theorem fl_X12_39 : ab_fl RX12 39 11 7 := List.mem_of_getElem? (i := 945) (by decide +kernel)
theorem fl_X12_42 : ab_fl RX12 42 11 8 := List.mem_of_getElem? (i := 946) (by decide +kernel)
theorem fl_X12_45 : ab_fl RX12 45 11 9 := List.mem_of_getElem? (i := 947) (by decide +kernel)
theorem fl_X12_48 : ab_fl RX12 48 11 10 := List.mem_of_getElem? (i := 948) (by decide +kernel)
theorem fl_X12_51 : ab_fl RX12 51 11 11 := List.mem_of_getElem? (i := 949) (by decide +kernel)
theorem fl_X12_55 : ab_fl RX12 55 11 12 := List.mem_of_getElem? (i := 950) (by decide +kernel)
theorem fl_X12_58 : ab_fl RX12 58 11 13 := List.mem_of_getElem? (i := 951) (by decide +kernel)
theorem fl_X12_61 : ab_fl RX12 61 11 14 := List.mem_of_getElem? (i := 952) (by decide +kernel)
theorem fl_X12_207 : ab_fl RX12 207 11 15 := List.mem_of_getElem? (i := 953) (by decide +kernel)
theorem fl_X12_64 : ab_fl RX12 64 11 16 := List.mem_of_getElem? (i := 954) (by decide +kernel)
theorem fl_X12_238 : ab_fl RX12 238 11 17 := List.mem_of_getElem? (i := 955) (by decide +kernel)
theorem fl_X12_67 : ab_fl RX12 67 11 18 := List.mem_of_getElem? (i := 956) (by decide +kernel)
theorem fl_X12_70 : ab_fl RX12 70 11 19 := List.mem_of_getElem? (i := 957) (by decide +kernel)
theorem fl_X12_250 : ab_fl RX12 250 11 20 := List.mem_of_getElem? (i := 958) (by decide +kernel)
theorem fl_X12_254 : ab_fl RX12 254 11 21 := List.mem_of_getElem? (i := 959) (by decide +kernel)
theorem fl_X12_73 : ab_fl RX12 73 11 22 := List.mem_of_getElem? (i := 960) (by decide +kernel)
theorem fl_X12_76 : ab_fl RX12 76 11 23 := List.mem_of_getElem? (i := 961) (by decide +kernel)
theorem fl_X12_79 : ab_fl RX12 79 11 24 := List.mem_of_getElem? (i := 962) (by decide +kernel)
theorem fl_X12_82 : ab_fl RX12 82 11 25 := List.mem_of_getElem? (i := 963) (by decide +kernel)
theorem fl_X12_85 : ab_fl RX12 85 11 26 := List.mem_of_getElem? (i := 964) (by decide +kernel)
theorem fl_X12_88 : ab_fl RX12 88 11 27 := List.mem_of_getElem? (i := 965) (by decide +kernel)
theorem fl_X12_91 : ab_fl RX12 91 11 28 := List.mem_of_getElem? (i := 966) (by decide +kernel)
theorem fl_X12_339 : ab_fl RX12 339 11 29 := List.mem_of_getElem? (i := 967) (by decide +kernel)
theorem fl_X12_342 : ab_fl RX12 342 11 30 := List.mem_of_getElem? (i := 968) (by decide +kernel)
theorem fl_X12_94 : ab_fl RX12 94 11 31 := List.mem_of_getElem? (i := 969) (by decide +kernel)
theorem fl_X12_97 : ab_fl RX12 97 11 32 := List.mem_of_getElem? (i := 970) (by decide +kernel)
theorem fl_X12_367 : ab_fl RX12 367 11 33 := List.mem_of_getElem? (i := 971) (by decide +kernel)
theorem fl_X12_371 : ab_fl RX12 371 11 34 := List.mem_of_getElem? (i := 972) (by decide +kernel)
theorem fl_X12_374 : ab_fl RX12 374 11 35 := List.mem_of_getElem? (i := 973) (by decide +kernel)
theorem fl_X12_377 : ab_fl RX12 377 11 36 := List.mem_of_getElem? (i := 974) (by decide +kernel)
theorem fl_X12_380 : ab_fl RX12 380 11 37 := List.mem_of_getElem? (i := 975) (by decide +kernel)
theorem fl_X12_383 : ab_fl RX12 383 11 38 := List.mem_of_getElem? (i := 976) (by decide +kernel)
theorem fl_X12_100 : ab_fl RX12 100 11 39 := List.mem_of_getElem? (i := 977) (by decide +kernel)
theorem fl_X12_103 : ab_fl RX12 103 11 40 := List.mem_of_getElem? (i := 978) (by decide +kernel)
theorem fl_X12_106 : ab_fl RX12 106 11 41 := List.mem_of_getElem? (i := 979) (by decide +kernel)
theorem fl_X12_109 : ab_fl RX12 109 11 42 := List.mem_of_getElem? (i := 980) (by decide +kernel)
theorem kc_X12_162 : Cond.constantLong RX12 162 (10 : Int64) ∈ lw_tbl := List.mem_of_getElem? (i := 1119) (by decide +kernel)
theorem kc_X12_164 : Cond.constantLong RX12 164 (13 : Int64) ∈ lw_tbl := List.mem_of_getElem? (i := 1120) (by decide +kernel)
theorem kc_X12_172 : Cond.constantLong RX12 172 (3 : Int64) ∈ lw_tbl := List.mem_of_getElem? (i := 1136) (by decide +kernel)
theorem kc_X12_7 : Cond.constantLong RX12 7 (4000000000000000000 : Int64) ∈ lw_tbl := List.mem_of_getElem? (i := 1141) (by decide +kernel)
theorem kc_X12_202 : Cond.constant RX12 202 (1664525 : Int32) ∈ lw_tbl := List.mem_of_getElem? (i := 1196) (by decide +kernel)
theorem kc_X12_203 : Cond.constant RX12 203 (1013904223 : Int32) ∈ lw_tbl := List.mem_of_getElem? (i := 1197) (by decide +kernel)
theorem kc_X12_206 : Cond.constant RX12 206 (2147483647 : Int32) ∈ lw_tbl := List.mem_of_getElem? (i := 1198) (by decide +kernel)
theorem kc_X12_230 : Cond.constantLong RX12 230 (2 : Int64) ∈ lw_tbl := List.mem_of_getElem? (i := 1215) (by decide +kernel)
theorem kc_J6_264 : Cond.constant RJ6 264 (65536 : Int32) ∈ lw_tbl := List.mem_of_getElem? (i := 1232) (by decide +kernel)
theorem kc_X12_241 : Cond.constantLong RX12 241 (5 : Int64) ∈ lw_tbl := List.mem_of_getElem? (i := 1240) (by decide +kernel)
theorem kc_X12_275 : Cond.constantLong RX12 275 (4 : Int64) ∈ lw_tbl := List.mem_of_getElem? (i := 1292) (by decide +kernel)
theorem kc_X12_277 : Cond.constantLong RX12 277 (8 : Int64) ∈ lw_tbl := List.mem_of_getElem? (i := 1293) (by decide +kernel)
theorem kc_X12_294 : Cond.constantLong RX12 294 (1000000000 : Int64) ∈ lw_tbl := List.mem_of_getElem? (i := 1310) (by decide +kernel)
theorem nt_floatToRawIntBits : Cond.native ⟨"java/lang/Float", "floatToRawIntBits", "(F)I"⟩ ∈ lw_tbl := List.mem_of_getElem? (i := 1343) (by decide +kernel)
theorem kc_Jxf58ca_77 : Cond.constant RJxf58ca 77 (2143289344 : Int32) ∈ lw_tbl := List.mem_of_getElem? (i := 1344) (by decide +kernel)
theorem kc_X12_322 : Cond.constantFloat RX12 322 (1148846080 : UInt32) ∈ lw_tbl := List.mem_of_getElem? (i := 1349) (by decide +kernel)
theorem nt_doubleToRawLongBits : Cond.native ⟨"java/lang/Double", "doubleToRawLongBits", "(D)J"⟩ ∈ lw_tbl := List.mem_of_getElem? (i := 1362) (by decide +kernel)
theorem kc_Jxe99ae_137 : Cond.constantLong RJxe99ae 137 (9221120237041090560 : Int64) ∈ lw_tbl := List.mem_of_getElem? (i := 1363) (by decide +kernel)
theorem kc_X12_335 : Cond.constantLong RX12 335 (4000000000000000011 : Int64) ∈ lw_tbl := List.mem_of_getElem? (i := 1398) (by decide +kernel)
theorem kc_X12_337 : Cond.constantLong RX12 337 (4000000000000000013 : Int64) ∈ lw_tbl := List.mem_of_getElem? (i := 1399) (by decide +kernel)
theorem kc_X12_351 : Cond.constantLong RX12 351 (48 : Int64) ∈ lw_tbl := List.mem_of_getElem? (i := 1422) (by decide +kernel)
theorem kc_X12_353 : Cond.constantLong RX12 353 (57 : Int64) ∈ lw_tbl := List.mem_of_getElem? (i := 1423) (by decide +kernel)
theorem kc_X12_386 : Cond.constantLong RX12 386 (11 : Int64) ∈ lw_tbl := List.mem_of_getElem? (i := 1448) (by decide +kernel)
theorem kc_X12_388 : Cond.constantLong RX12 388 (16 : Int64) ∈ lw_tbl := List.mem_of_getElem? (i := 1449) (by decide +kernel)
theorem mk_X0_init : ab_mk mX0_init 0 := ⟨List.mem_of_getElem? (i := 89) (by decide +kernel), it_X0, ⟨by decide +kernel, by decide +kernel, by decide +kernel⟩, Nat.le_of_ble_eq_true rfl⟩
theorem im_X0_init : Cond.instanceMethod mX0_init.1 ∈ lw_tbl := List.mem_of_getElem? (i := 88) (by decide +kernel)
theorem mk_X0_isCell : ab_mk mX0_isCell 3 := ⟨List.mem_of_getElem? (i := 290) (by decide +kernel), it_X0, ⟨by decide +kernel, by decide +kernel, by decide +kernel⟩, Nat.le_of_ble_eq_true rfl⟩
theorem st_X0_isCell : Cond.static mX0_isCell.1 ∈ lw_tbl := List.mem_of_getElem? (i := 289) (by decide +kernel)
theorem mk_X0_cutAnew : ab_mk mX0_cutAnew 3 := ⟨List.mem_of_getElem? (i := 276) (by decide +kernel), it_X0, ⟨by decide +kernel, by decide +kernel, by decide +kernel⟩, Nat.le_of_ble_eq_true rfl⟩
theorem im_X0_cutAnew : Cond.instanceMethod mX0_cutAnew.1 ∈ lw_tbl := List.mem_of_getElem? (i := 274) (by decide +kernel)
theorem se_X0_cutAnew : Cond.selects mX0_cutAnew.1.cls mX0_cutAnew.1 mX0_cutAnew.1 ∈ lw_tbl := List.mem_of_getElem? (i := 275) (by decide +kernel)
theorem mk_X0_cutBlock : ab_mk mX0_cutBlock 6 := ⟨List.mem_of_getElem? (i := 279) (by decide +kernel), it_X0, ⟨by decide +kernel, by decide +kernel, by decide +kernel⟩, Nat.le_of_ble_eq_true rfl⟩
theorem st_X0_cutBlock : Cond.static mX0_cutBlock.1 ∈ lw_tbl := List.mem_of_getElem? (i := 278) (by decide +kernel)
theorem mk_X0_lay : ab_mk mX0_lay 4 := ⟨List.mem_of_getElem? (i := 283) (by decide +kernel), it_X0, ⟨by decide +kernel, by decide +kernel, by decide +kernel⟩, Nat.le_of_ble_eq_true rfl⟩
theorem im_X0_lay : Cond.instanceMethod mX0_lay.1 ∈ lw_tbl := List.mem_of_getElem? (i := 282) (by decide +kernel)
theorem se_X0_lay : Cond.selects mX0_lay.1.cls mX0_lay.1 mX0_lay.1 ∈ lw_tbl := List.mem_of_getElem? (i := 0) (by decide +kernel)
theorem mk_X0_has : ab_mk mX0_has 2 := ⟨List.mem_of_getElem? (i := 287) (by decide +kernel), it_X0, ⟨by decide +kernel, by decide +kernel, by decide +kernel⟩, Nat.le_of_ble_eq_true rfl⟩
theorem im_X0_has : Cond.instanceMethod mX0_has.1 ∈ lw_tbl := List.mem_of_getElem? (i := 285) (by decide +kernel)
theorem se_X0_has : Cond.selects mX0_has.1.cls mX0_has.1 mX0_has.1 ∈ lw_tbl := List.mem_of_getElem? (i := 286) (by decide +kernel)
theorem mk_X0_hasPiece : ab_mk mX0_hasPiece 1 := ⟨List.mem_of_getElem? (i := 541) (by decide +kernel), it_X0, ⟨by decide +kernel, by decide +kernel, by decide +kernel⟩, Nat.le_of_ble_eq_true rfl⟩
theorem im_X0_hasPiece : Cond.instanceMethod mX0_hasPiece.1 ∈ lw_tbl := List.mem_of_getElem? (i := 539) (by decide +kernel)
theorem se_X0_hasPiece : Cond.selects mX0_hasPiece.1.cls mX0_hasPiece.1 mX0_hasPiece.1 ∈ lw_tbl := List.mem_of_getElem? (i := 540) (by decide +kernel)
theorem mk_X0_pieceAt : ab_mk mX0_pieceAt 2 := ⟨List.mem_of_getElem? (i := 533) (by decide +kernel), it_X0, ⟨by decide +kernel, by decide +kernel, by decide +kernel⟩, Nat.le_of_ble_eq_true rfl⟩
theorem im_X0_pieceAt : Cond.instanceMethod mX0_pieceAt.1 ∈ lw_tbl := List.mem_of_getElem? (i := 531) (by decide +kernel)
theorem se_X0_pieceAt : Cond.selects mX0_pieceAt.1.cls mX0_pieceAt.1 mX0_pieceAt.1 ∈ lw_tbl := List.mem_of_getElem? (i := 532) (by decide +kernel)
theorem mk_X0_wayOf : ab_mk mX0_wayOf 1 := ⟨List.mem_of_getElem? (i := 545) (by decide +kernel), it_X0, ⟨by decide +kernel, by decide +kernel, by decide +kernel⟩, Nat.le_of_ble_eq_true rfl⟩
theorem im_X0_wayOf : Cond.instanceMethod mX0_wayOf.1 ∈ lw_tbl := List.mem_of_getElem? (i := 543) (by decide +kernel)
theorem se_X0_wayOf : Cond.selects mX0_wayOf.1.cls mX0_wayOf.1 mX0_wayOf.1 ∈ lw_tbl := List.mem_of_getElem? (i := 544) (by decide +kernel)
theorem mk_X0_sizeOf : ab_mk mX0_sizeOf 1 := ⟨List.mem_of_getElem? (i := 549) (by decide +kernel), it_X0, ⟨by decide +kernel, by decide +kernel, by decide +kernel⟩, Nat.le_of_ble_eq_true rfl⟩
theorem im_X0_sizeOf : Cond.instanceMethod mX0_sizeOf.1 ∈ lw_tbl := List.mem_of_getElem? (i := 547) (by decide +kernel)
theorem se_X0_sizeOf : Cond.selects mX0_sizeOf.1.cls mX0_sizeOf.1 mX0_sizeOf.1 ∈ lw_tbl := List.mem_of_getElem? (i := 548) (by decide +kernel)
theorem mk_X0_cornerX : ab_mk mX0_cornerX 1 := ⟨List.mem_of_getElem? (i := 553) (by decide +kernel), it_X0, ⟨by decide +kernel, by decide +kernel, by decide +kernel⟩, Nat.le_of_ble_eq_true rfl⟩
theorem im_X0_cornerX : Cond.instanceMethod mX0_cornerX.1 ∈ lw_tbl := List.mem_of_getElem? (i := 551) (by decide +kernel)
theorem se_X0_cornerX : Cond.selects mX0_cornerX.1.cls mX0_cornerX.1 mX0_cornerX.1 ∈ lw_tbl := List.mem_of_getElem? (i := 552) (by decide +kernel)
theorem mk_X0_cornerY : ab_mk mX0_cornerY 1 := ⟨List.mem_of_getElem? (i := 557) (by decide +kernel), it_X0, ⟨by decide +kernel, by decide +kernel, by decide +kernel⟩, Nat.le_of_ble_eq_true rfl⟩
theorem im_X0_cornerY : Cond.instanceMethod mX0_cornerY.1 ∈ lw_tbl := List.mem_of_getElem? (i := 555) (by decide +kernel)
theorem se_X0_cornerY : Cond.selects mX0_cornerY.1.cls mX0_cornerY.1 mX0_cornerY.1 ∈ lw_tbl := List.mem_of_getElem? (i := 556) (by decide +kernel)
theorem mk_X0_touching : ab_mk mX0_touching 1 := ⟨List.mem_of_getElem? (i := 561) (by decide +kernel), it_X0, ⟨by decide +kernel, by decide +kernel, by decide +kernel⟩, Nat.le_of_ble_eq_true rfl⟩
theorem im_X0_touching : Cond.instanceMethod mX0_touching.1 ∈ lw_tbl := List.mem_of_getElem? (i := 559) (by decide +kernel)
theorem se_X0_touching : Cond.selects mX0_touching.1.cls mX0_touching.1 mX0_touching.1 ∈ lw_tbl := List.mem_of_getElem? (i := 560) (by decide +kernel)
theorem mk_X0_touchAround : ab_mk mX0_touchAround 2 := ⟨List.mem_of_getElem? (i := 565) (by decide +kernel), it_X0, ⟨by decide +kernel, by decide +kernel, by decide +kernel⟩, Nat.le_of_ble_eq_true rfl⟩
theorem im_X0_touchAround : Cond.instanceMethod mX0_touchAround.1 ∈ lw_tbl := List.mem_of_getElem? (i := 564) (by decide +kernel)
theorem se_X0_touchAround : Cond.selects mX0_touchAround.1.cls mX0_touchAround.1 mX0_touchAround.1 ∈ lw_tbl := List.mem_of_getElem? (i := 7) (by decide +kernel)
theorem mk_X0_touch : ab_mk mX0_touch 2 := ⟨List.mem_of_getElem? (i := 569) (by decide +kernel), it_X0, ⟨by decide +kernel, by decide +kernel, by decide +kernel⟩, Nat.le_of_ble_eq_true rfl⟩
theorem im_X0_touch : Cond.instanceMethod mX0_touch.1 ∈ lw_tbl := List.mem_of_getElem? (i := 568) (by decide +kernel)
theorem se_X0_touch : Cond.selects mX0_touch.1.cls mX0_touch.1 mX0_touch.1 ∈ lw_tbl := List.mem_of_getElem? (i := 8) (by decide +kernel)
theorem mk_X0_inWindow : ab_mk mX0_inWindow 4 := ⟨List.mem_of_getElem? (i := 579) (by decide +kernel), it_X0, ⟨by decide +kernel, by decide +kernel, by decide +kernel⟩, Nat.le_of_ble_eq_true rfl⟩
theorem im_X0_inWindow : Cond.instanceMethod mX0_inWindow.1 ∈ lw_tbl := List.mem_of_getElem? (i := 577) (by decide +kernel)
theorem se_X0_inWindow : Cond.selects mX0_inWindow.1.cls mX0_inWindow.1 mX0_inWindow.1 ∈ lw_tbl := List.mem_of_getElem? (i := 578) (by decide +kernel)
theorem mk_X0_atBorder : ab_mk mX0_atBorder 0 := ⟨List.mem_of_getElem? (i := 587) (by decide +kernel), it_X0, ⟨by decide +kernel, by decide +kernel, by decide +kernel⟩, Nat.le_of_ble_eq_true rfl⟩
theorem im_X0_atBorder : Cond.instanceMethod mX0_atBorder.1 ∈ lw_tbl := List.mem_of_getElem? (i := 585) (by decide +kernel)
theorem se_X0_atBorder : Cond.selects mX0_atBorder.1.cls mX0_atBorder.1 mX0_atBorder.1 ∈ lw_tbl := List.mem_of_getElem? (i := 586) (by decide +kernel)
theorem mk_X0_lyingIn : ab_mk mX0_lyingIn 1 := ⟨List.mem_of_getElem? (i := 592) (by decide +kernel), it_X0, ⟨by decide +kernel, by decide +kernel, by decide +kernel⟩, Nat.le_of_ble_eq_true rfl⟩
theorem im_X0_lyingIn : Cond.instanceMethod mX0_lyingIn.1 ∈ lw_tbl := List.mem_of_getElem? (i := 590) (by decide +kernel)
theorem se_X0_lyingIn : Cond.selects mX0_lyingIn.1.cls mX0_lyingIn.1 mX0_lyingIn.1 ∈ lw_tbl := List.mem_of_getElem? (i := 591) (by decide +kernel)
theorem mk_X0_likelihood : ab_mk mX0_likelihood 1 := ⟨List.mem_of_getElem? (i := 608) (by decide +kernel), it_X0, ⟨by decide +kernel, by decide +kernel, by decide +kernel⟩, Nat.le_of_ble_eq_true rfl⟩
theorem im_X0_likelihood : Cond.instanceMethod mX0_likelihood.1 ∈ lw_tbl := List.mem_of_getElem? (i := 606) (by decide +kernel)
theorem se_X0_likelihood : Cond.selects mX0_likelihood.1.cls mX0_likelihood.1 mX0_likelihood.1 ∈ lw_tbl := List.mem_of_getElem? (i := 607) (by decide +kernel)
theorem mk_X1_intBits : ab_mk mX1_intBits 1 := ⟨List.mem_of_getElem? (i := 785) (by decide +kernel), it_X1, ⟨by decide +kernel, by decide +kernel, by decide +kernel⟩, Nat.le_of_ble_eq_true rfl⟩
theorem st_X1_intBits : Cond.static mX1_intBits.1 ∈ lw_tbl := List.mem_of_getElem? (i := 784) (by decide +kernel)
theorem mk_X1_longBitsOfDouble : ab_mk mX1_longBitsOfDouble 1 := ⟨List.mem_of_getElem? (i := 812) (by decide +kernel), it_X1, ⟨by decide +kernel, by decide +kernel, by decide +kernel⟩, Nat.le_of_ble_eq_true rfl⟩
theorem st_X1_longBitsOfDouble : Cond.static mX1_longBitsOfDouble.1 ∈ lw_tbl := List.mem_of_getElem? (i := 811) (by decide +kernel)
theorem mk_X2_init : ab_mk mX2_init 2 := ⟨List.mem_of_getElem? (i := 417) (by decide +kernel), it_X2, ⟨by decide +kernel, by decide +kernel, by decide +kernel⟩, Nat.le_of_ble_eq_true rfl⟩
theorem im_X2_init : Cond.instanceMethod mX2_init.1 ∈ lw_tbl := List.mem_of_getElem? (i := 416) (by decide +kernel)
theorem mk_X2_inLeastTerms : ab_mk mX2_inLeastTerms 2 := ⟨List.mem_of_getElem? (i := 406) (by decide +kernel), it_X2, ⟨by decide +kernel, by decide +kernel, by decide +kernel⟩, Nat.le_of_ble_eq_true rfl⟩
theorem st_X2_inLeastTerms : Cond.static mX2_inLeastTerms.1 ∈ lw_tbl := List.mem_of_getElem? (i := 405) (by decide +kernel)
theorem mk_X2_greatestDivisor : ab_mk mX2_greatestDivisor 2 := ⟨List.mem_of_getElem? (i := 412) (by decide +kernel), it_X2, ⟨by decide +kernel, by decide +kernel, by decide +kernel⟩, Nat.le_of_ble_eq_true rfl⟩
theorem st_X2_greatestDivisor : Cond.static mX2_greatestDivisor.1 ∈ lw_tbl := List.mem_of_getElem? (i := 411) (by decide +kernel)
theorem mk_X2_plus : ab_mk mX2_plus 1 := ⟨List.mem_of_getElem? (i := 752) (by decide +kernel), it_X2, ⟨by decide +kernel, by decide +kernel, by decide +kernel⟩, Nat.le_of_ble_eq_true rfl⟩
theorem im_X2_plus : Cond.instanceMethod mX2_plus.1 ∈ lw_tbl := List.mem_of_getElem? (i := 750) (by decide +kernel)
theorem se_X2_plus : Cond.selects mX2_plus.1.cls mX2_plus.1 mX2_plus.1 ∈ lw_tbl := List.mem_of_getElem? (i := 751) (by decide +kernel)
theorem mk_X2_minus : ab_mk mX2_minus 1 := ⟨List.mem_of_getElem? (i := 471) (by decide +kernel), it_X2, ⟨by decide +kernel, by decide +kernel, by decide +kernel⟩, Nat.le_of_ble_eq_true rfl⟩
theorem im_X2_minus : Cond.instanceMethod mX2_minus.1 ∈ lw_tbl := List.mem_of_getElem? (i := 469) (by decide +kernel)
theorem se_X2_minus : Cond.selects mX2_minus.1.cls mX2_minus.1 mX2_minus.1 ∈ lw_tbl := List.mem_of_getElem? (i := 470) (by decide +kernel)
theorem mk_X2_times : ab_mk mX2_times 1 := ⟨List.mem_of_getElem? (i := 476) (by decide +kernel), it_X2, ⟨by decide +kernel, by decide +kernel, by decide +kernel⟩, Nat.le_of_ble_eq_true rfl⟩
theorem im_X2_times : Cond.instanceMethod mX2_times.1 ∈ lw_tbl := List.mem_of_getElem? (i := 474) (by decide +kernel)
theorem se_X2_times : Cond.selects mX2_times.1.cls mX2_times.1 mX2_times.1 ∈ lw_tbl := List.mem_of_getElem? (i := 475) (by decide +kernel)
theorem mk_X2_equalTo : ab_mk mX2_equalTo 1 := ⟨List.mem_of_getElem? (i := 774) (by decide +kernel), it_X2, ⟨by decide +kernel, by decide +kernel, by decide +kernel⟩, Nat.le_of_ble_eq_true rfl⟩
theorem im_X2_equalTo : Cond.instanceMethod mX2_equalTo.1 ∈ lw_tbl := List.mem_of_getElem? (i := 772) (by decide +kernel)
theorem se_X2_equalTo : Cond.selects mX2_equalTo.1.cls mX2_equalTo.1 mX2_equalTo.1 ∈ lw_tbl := List.mem_of_getElem? (i := 773) (by decide +kernel)
theorem mk_X2_isAbove : ab_mk mX2_isAbove 1 := ⟨List.mem_of_getElem? (i := 748) (by decide +kernel), it_X2, ⟨by decide +kernel, by decide +kernel, by decide +kernel⟩, Nat.le_of_ble_eq_true rfl⟩
theorem im_X2_isAbove : Cond.instanceMethod mX2_isAbove.1 ∈ lw_tbl := List.mem_of_getElem? (i := 746) (by decide +kernel)
theorem se_X2_isAbove : Cond.selects mX2_isAbove.1.cls mX2_isAbove.1 mX2_isAbove.1 ∈ lw_tbl := List.mem_of_getElem? (i := 747) (by decide +kernel)
theorem mk_X2_valuation : ab_mk mX2_valuation 0 := ⟨List.mem_of_getElem? (i := 464) (by decide +kernel), it_X2, ⟨by decide +kernel, by decide +kernel, by decide +kernel⟩, Nat.le_of_ble_eq_true rfl⟩
theorem im_X2_valuation : Cond.instanceMethod mX2_valuation.1 ∈ lw_tbl := List.mem_of_getElem? (i := 462) (by decide +kernel)
theorem se_X2_valuation : Cond.selects mX2_valuation.1.cls mX2_valuation.1 mX2_valuation.1 ∈ lw_tbl := List.mem_of_getElem? (i := 463) (by decide +kernel)
theorem mk_X2_twosIn : ab_mk mX2_twosIn 1 := ⟨List.mem_of_getElem? (i := 467) (by decide +kernel), it_X2, ⟨by decide +kernel, by decide +kernel, by decide +kernel⟩, Nat.le_of_ble_eq_true rfl⟩
theorem st_X2_twosIn : Cond.static mX2_twosIn.1 ∈ lw_tbl := List.mem_of_getElem? (i := 466) (by decide +kernel)
theorem mk_X2_told : ab_mk mX2_told 1 := ⟨List.mem_of_getElem? (i := 614) (by decide +kernel), it_X2, ⟨by decide +kernel, by decide +kernel, by decide +kernel⟩, Nat.le_of_ble_eq_true rfl⟩
theorem im_X2_told : Cond.instanceMethod mX2_told.1 ∈ lw_tbl := List.mem_of_getElem? (i := 612) (by decide +kernel)
theorem se_X2_told : Cond.selects mX2_told.1.cls mX2_told.1 mX2_told.1 ∈ lw_tbl := List.mem_of_getElem? (i := 613) (by decide +kernel)
theorem mk_X2_asFloat : ab_mk mX2_asFloat 0 := ⟨List.mem_of_getElem? (i := 782) (by decide +kernel), it_X2, ⟨by decide +kernel, by decide +kernel, by decide +kernel⟩, Nat.le_of_ble_eq_true rfl⟩
theorem im_X2_asFloat : Cond.instanceMethod mX2_asFloat.1 ∈ lw_tbl := List.mem_of_getElem? (i := 780) (by decide +kernel)
theorem se_X2_asFloat : Cond.selects mX2_asFloat.1.cls mX2_asFloat.1 mX2_asFloat.1 ∈ lw_tbl := List.mem_of_getElem? (i := 781) (by decide +kernel)
theorem mk_X2_asDouble : ab_mk mX2_asDouble 0 := ⟨List.mem_of_getElem? (i := 809) (by decide +kernel), it_X2, ⟨by decide +kernel, by decide +kernel, by decide +kernel⟩, Nat.le_of_ble_eq_true rfl⟩
theorem im_X2_asDouble : Cond.instanceMethod mX2_asDouble.1 ∈ lw_tbl := List.mem_of_getElem? (i := 807) (by decide +kernel)
theorem se_X2_asDouble : Cond.selects mX2_asDouble.1.cls mX2_asDouble.1 mX2_asDouble.1 ∈ lw_tbl := List.mem_of_getElem? (i := 808) (by decide +kernel)
theorem mk_X3_init : ab_mk mX3_init 0 := ⟨List.mem_of_getElem? (i := 211) (by decide +kernel), it_X3, ⟨by decide +kernel, by decide +kernel, by decide +kernel⟩, Nat.le_of_ble_eq_true rfl⟩
theorem im_X3_init : Cond.instanceMethod mX3_init.1 ∈ lw_tbl := List.mem_of_getElem? (i := 210) (by decide +kernel)
theorem mk_X3_take : ab_mk mX3_take 3 := ⟨List.mem_of_getElem? (i := 894) (by decide +kernel), it_X3, ⟨by decide +kernel, by decide +kernel, by decide +kernel⟩, Nat.le_of_ble_eq_true rfl⟩
theorem im_X3_take : Cond.instanceMethod mX3_take.1 ∈ lw_tbl := List.mem_of_getElem? (i := 892) (by decide +kernel)
theorem se_X3_take : Cond.selects mX3_take.1.cls mX3_take.1 mX3_take.1 ∈ lw_tbl := List.mem_of_getElem? (i := 893) (by decide +kernel)
theorem mk_X3_giveBack : ab_mk mX3_giveBack 3 := ⟨List.mem_of_getElem? (i := 910) (by decide +kernel), it_X3, ⟨by decide +kernel, by decide +kernel, by decide +kernel⟩, Nat.le_of_ble_eq_true rfl⟩
theorem im_X3_giveBack : Cond.instanceMethod mX3_giveBack.1 ∈ lw_tbl := List.mem_of_getElem? (i := 908) (by decide +kernel)
theorem se_X3_giveBack : Cond.selects mX3_giveBack.1.cls mX3_giveBack.1 mX3_giveBack.1 ∈ lw_tbl := List.mem_of_getElem? (i := 909) (by decide +kernel)
theorem mk_X4_init : ab_mk mX4_init 0 := ⟨List.mem_of_getElem? (i := 188) (by decide +kernel), it_X4, ⟨by decide +kernel, by decide +kernel, by decide +kernel⟩, Nat.le_of_ble_eq_true rfl⟩
theorem im_X4_init : Cond.instanceMethod mX4_init.1 ∈ lw_tbl := List.mem_of_getElem? (i := 187) (by decide +kernel)
theorem mk_X4_isFull : ab_mk mX4_isFull 0 := ⟨List.mem_of_getElem? (i := 327) (by decide +kernel), it_X4, ⟨by decide +kernel, by decide +kernel, by decide +kernel⟩, Nat.le_of_ble_eq_true rfl⟩
theorem im_X4_isFull : Cond.instanceMethod mX4_isFull.1 ∈ lw_tbl := List.mem_of_getElem? (i := 325) (by decide +kernel)
theorem se_X4_isFull : Cond.selects mX4_isFull.1.cls mX4_isFull.1 mX4_isFull.1 ∈ lw_tbl := List.mem_of_getElem? (i := 326) (by decide +kernel)
theorem mk_X4_append : ab_mk mX4_append 1 := ⟨List.mem_of_getElem? (i := 331) (by decide +kernel), it_X4, ⟨by decide +kernel, by decide +kernel, by decide +kernel⟩, Nat.le_of_ble_eq_true rfl⟩
theorem im_X4_append : Cond.instanceMethod mX4_append.1 ∈ lw_tbl := List.mem_of_getElem? (i := 329) (by decide +kernel)
theorem se_X4_append : Cond.selects mX4_append.1.cls mX4_append.1 mX4_append.1 ∈ lw_tbl := List.mem_of_getElem? (i := 330) (by decide +kernel)
theorem mk_X4_clear : ab_mk mX4_clear 0 := ⟨List.mem_of_getElem? (i := 520) (by decide +kernel), it_X4, ⟨by decide +kernel, by decide +kernel, by decide +kernel⟩, Nat.le_of_ble_eq_true rfl⟩
theorem im_X4_clear : Cond.instanceMethod mX4_clear.1 ∈ lw_tbl := List.mem_of_getElem? (i := 518) (by decide +kernel)
theorem se_X4_clear : Cond.selects mX4_clear.1.cls mX4_clear.1 mX4_clear.1 ∈ lw_tbl := List.mem_of_getElem? (i := 519) (by decide +kernel)
theorem mk_X4_letterAt : ab_mk mX4_letterAt 1 := ⟨List.mem_of_getElem? (i := 351) (by decide +kernel), it_X4, ⟨by decide +kernel, by decide +kernel, by decide +kernel⟩, Nat.le_of_ble_eq_true rfl⟩
theorem im_X4_letterAt : Cond.instanceMethod mX4_letterAt.1 ∈ lw_tbl := List.mem_of_getElem? (i := 349) (by decide +kernel)
theorem se_X4_letterAt : Cond.selects mX4_letterAt.1.cls mX4_letterAt.1 mX4_letterAt.1 ∈ lw_tbl := List.mem_of_getElem? (i := 350) (by decide +kernel)
theorem mk_X4_digitsBehind : ab_mk mX4_digitsBehind 1 := ⟨List.mem_of_getElem? (i := 354) (by decide +kernel), it_X4, ⟨by decide +kernel, by decide +kernel, by decide +kernel⟩, Nat.le_of_ble_eq_true rfl⟩
theorem st_X4_digitsBehind : Cond.static mX4_digitsBehind.1 ∈ lw_tbl := List.mem_of_getElem? (i := 353) (by decide +kernel)
theorem mk_X4_read : ab_mk mX4_read 0 := ⟨List.mem_of_getElem? (i := 343) (by decide +kernel), it_X4, ⟨by decide +kernel, by decide +kernel, by decide +kernel⟩, Nat.le_of_ble_eq_true rfl⟩
theorem im_X4_read : Cond.instanceMethod mX4_read.1 ∈ lw_tbl := List.mem_of_getElem? (i := 341) (by decide +kernel)
theorem se_X4_read : Cond.selects mX4_read.1.cls mX4_read.1 mX4_read.1 ∈ lw_tbl := List.mem_of_getElem? (i := 342) (by decide +kernel)
theorem mk_X4_firstWrongFrom : ab_mk mX4_firstWrongFrom 1 := ⟨List.mem_of_getElem? (i := 347) (by decide +kernel), it_X4, ⟨by decide +kernel, by decide +kernel, by decide +kernel⟩, Nat.le_of_ble_eq_true rfl⟩
theorem im_X4_firstWrongFrom : Cond.instanceMethod mX4_firstWrongFrom.1 ∈ lw_tbl := List.mem_of_getElem? (i := 346) (by decide +kernel)
theorem se_X4_firstWrongFrom : Cond.selects mX4_firstWrongFrom.1.cls mX4_firstWrongFrom.1 mX4_firstWrongFrom.1 ∈ lw_tbl := List.mem_of_getElem? (i := 3) (by decide +kernel)
theorem mk_X4_digit : ab_mk mX4_digit 1 := ⟨List.mem_of_getElem? (i := 363) (by decide +kernel), it_X4, ⟨by decide +kernel, by decide +kernel, by decide +kernel⟩, Nat.le_of_ble_eq_true rfl⟩
theorem im_X4_digit : Cond.instanceMethod mX4_digit.1 ∈ lw_tbl := List.mem_of_getElem? (i := 361) (by decide +kernel)
theorem se_X4_digit : Cond.selects mX4_digit.1.cls mX4_digit.1 mX4_digit.1 ∈ lw_tbl := List.mem_of_getElem? (i := 362) (by decide +kernel)
theorem mk_X4_twoDigits : ab_mk mX4_twoDigits 1 := ⟨List.mem_of_getElem? (i := 367) (by decide +kernel), it_X4, ⟨by decide +kernel, by decide +kernel, by decide +kernel⟩, Nat.le_of_ble_eq_true rfl⟩
theorem im_X4_twoDigits : Cond.instanceMethod mX4_twoDigits.1 ∈ lw_tbl := List.mem_of_getElem? (i := 365) (by decide +kernel)
theorem se_X4_twoDigits : Cond.selects mX4_twoDigits.1.cls mX4_twoDigits.1 mX4_twoDigits.1 ∈ lw_tbl := List.mem_of_getElem? (i := 366) (by decide +kernel)
theorem mk_X4_fourDigits : ab_mk mX4_fourDigits 1 := ⟨List.mem_of_getElem? (i := 394) (by decide +kernel), it_X4, ⟨by decide +kernel, by decide +kernel, by decide +kernel⟩, Nat.le_of_ble_eq_true rfl⟩
theorem im_X4_fourDigits : Cond.instanceMethod mX4_fourDigits.1 ∈ lw_tbl := List.mem_of_getElem? (i := 392) (by decide +kernel)
theorem se_X4_fourDigits : Cond.selects mX4_fourDigits.1.cls mX4_fourDigits.1 mX4_fourDigits.1 ∈ lw_tbl := List.mem_of_getElem? (i := 393) (by decide +kernel)
theorem mk_X5_init : ab_mk mX5_init 0 := ⟨List.mem_of_getElem? (i := 262) (by decide +kernel), it_X5, ⟨by decide +kernel, by decide +kernel, by decide +kernel⟩, Nat.le_of_ble_eq_true rfl⟩
theorem im_X5_init : Cond.instanceMethod mX5_init.1 ∈ lw_tbl := List.mem_of_getElem? (i := 261) (by decide +kernel)
theorem mk_X5_isMissing : ab_mk mX5_isMissing 0 := ⟨List.mem_of_getElem? (i := 872) (by decide +kernel), it_X5, ⟨by decide +kernel, by decide +kernel, by decide +kernel⟩, Nat.le_of_ble_eq_true rfl⟩
theorem im_X5_isMissing : Cond.instanceMethod mX5_isMissing.1 ∈ lw_tbl := List.mem_of_getElem? (i := 870) (by decide +kernel)
theorem se_X5_isMissing : Cond.selects mX5_isMissing.1.cls mX5_isMissing.1 mX5_isMissing.1 ∈ lw_tbl := List.mem_of_getElem? (i := 871) (by decide +kernel)
theorem mk_X5_hasPlace : ab_mk mX5_hasPlace 1 := ⟨List.mem_of_getElem? (i := 876) (by decide +kernel), it_X5, ⟨by decide +kernel, by decide +kernel, by decide +kernel⟩, Nat.le_of_ble_eq_true rfl⟩
theorem im_X5_hasPlace : Cond.instanceMethod mX5_hasPlace.1 ∈ lw_tbl := List.mem_of_getElem? (i := 874) (by decide +kernel)
theorem se_X5_hasPlace : Cond.selects mX5_hasPlace.1.cls mX5_hasPlace.1 mX5_hasPlace.1 ∈ lw_tbl := List.mem_of_getElem? (i := 875) (by decide +kernel)
theorem mk_X5_makeZeros : ab_mk mX5_makeZeros 1 := ⟨List.mem_of_getElem? (i := 864) (by decide +kernel), it_X5, ⟨by decide +kernel, by decide +kernel, by decide +kernel⟩, Nat.le_of_ble_eq_true rfl⟩
theorem im_X5_makeZeros : Cond.instanceMethod mX5_makeZeros.1 ∈ lw_tbl := List.mem_of_getElem? (i := 862) (by decide +kernel)
theorem se_X5_makeZeros : Cond.selects mX5_makeZeros.1.cls mX5_makeZeros.1 mX5_makeZeros.1 ∈ lw_tbl := List.mem_of_getElem? (i := 863) (by decide +kernel)
theorem mk_X6_init : ab_mk mX6_init 2 := ⟨List.mem_of_getElem? (i := 430) (by decide +kernel), it_X6, ⟨by decide +kernel, by decide +kernel, by decide +kernel⟩, Nat.le_of_ble_eq_true rfl⟩
theorem im_X6_init : Cond.instanceMethod mX6_init.1 ∈ lw_tbl := List.mem_of_getElem? (i := 429) (by decide +kernel)
theorem mk_X6_shade : ab_mk mX6_shade 1 := ⟨List.mem_of_getElem? (i := 460) (by decide +kernel), it_X6, ⟨by decide +kernel, by decide +kernel, by decide +kernel⟩, Nat.le_of_ble_eq_true rfl⟩
theorem im_X6_shade : Cond.instanceMethod mX6_shade.1 ∈ lw_tbl := List.mem_of_getElem? (i := 458) (by decide +kernel)
theorem se_X6_shade : Cond.selects mX6_shade.1.cls mX6_shade.1 mX6_shade.1 ∈ lw_tbl := List.mem_of_getElem? (i := 459) (by decide +kernel)
theorem mk_X7_init : ab_mk mX7_init 0 := ⟨List.mem_of_getElem? (i := 244) (by decide +kernel), it_X7, ⟨by decide +kernel, by decide +kernel, by decide +kernel⟩, Nat.le_of_ble_eq_true rfl⟩
theorem im_X7_init : Cond.instanceMethod mX7_init.1 ∈ lw_tbl := List.mem_of_getElem? (i := 243) (by decide +kernel)
theorem mk_X7_isMissing : ab_mk mX7_isMissing 0 := ⟨List.mem_of_getElem? (i := 835) (by decide +kernel), it_X7, ⟨by decide +kernel, by decide +kernel, by decide +kernel⟩, Nat.le_of_ble_eq_true rfl⟩
theorem im_X7_isMissing : Cond.instanceMethod mX7_isMissing.1 ∈ lw_tbl := List.mem_of_getElem? (i := 833) (by decide +kernel)
theorem se_X7_isMissing : Cond.selects mX7_isMissing.1.cls mX7_isMissing.1 mX7_isMissing.1 ∈ lw_tbl := List.mem_of_getElem? (i := 834) (by decide +kernel)
theorem mk_X7_hasPlace : ab_mk mX7_hasPlace 1 := ⟨List.mem_of_getElem? (i := 839) (by decide +kernel), it_X7, ⟨by decide +kernel, by decide +kernel, by decide +kernel⟩, Nat.le_of_ble_eq_true rfl⟩
theorem im_X7_hasPlace : Cond.instanceMethod mX7_hasPlace.1 ∈ lw_tbl := List.mem_of_getElem? (i := 837) (by decide +kernel)
theorem se_X7_hasPlace : Cond.selects mX7_hasPlace.1.cls mX7_hasPlace.1 mX7_hasPlace.1 ∈ lw_tbl := List.mem_of_getElem? (i := 838) (by decide +kernel)
theorem mk_X7_takes : ab_mk mX7_takes 1 := ⟨List.mem_of_getElem? (i := 843) (by decide +kernel), it_X7, ⟨by decide +kernel, by decide +kernel, by decide +kernel⟩, Nat.le_of_ble_eq_true rfl⟩
theorem im_X7_takes : Cond.instanceMethod mX7_takes.1 ∈ lw_tbl := List.mem_of_getElem? (i := 841) (by decide +kernel)
theorem se_X7_takes : Cond.selects mX7_takes.1.cls mX7_takes.1 mX7_takes.1 ∈ lw_tbl := List.mem_of_getElem? (i := 842) (by decide +kernel)
theorem mk_X7_makeFor : ab_mk mX7_makeFor 2 := ⟨List.mem_of_getElem? (i := 827) (by decide +kernel), it_X7, ⟨by decide +kernel, by decide +kernel, by decide +kernel⟩, Nat.le_of_ble_eq_true rfl⟩
theorem im_X7_makeFor : Cond.instanceMethod mX7_makeFor.1 ∈ lw_tbl := List.mem_of_getElem? (i := 825) (by decide +kernel)
theorem se_X7_makeFor : Cond.selects mX7_makeFor.1.cls mX7_makeFor.1 mX7_makeFor.1 ∈ lw_tbl := List.mem_of_getElem? (i := 826) (by decide +kernel)
theorem mk_X7_copyFrom : ab_mk mX7_copyFrom 1 := ⟨List.mem_of_getElem? (i := 856) (by decide +kernel), it_X7, ⟨by decide +kernel, by decide +kernel, by decide +kernel⟩, Nat.le_of_ble_eq_true rfl⟩
theorem im_X7_copyFrom : Cond.instanceMethod mX7_copyFrom.1 ∈ lw_tbl := List.mem_of_getElem? (i := 854) (by decide +kernel)
theorem se_X7_copyFrom : Cond.selects mX7_copyFrom.1.cls mX7_copyFrom.1 mX7_copyFrom.1 ∈ lw_tbl := List.mem_of_getElem? (i := 855) (by decide +kernel)
theorem mk_X8_init : ab_mk mX8_init 0 := ⟨List.mem_of_getElem? (i := 138) (by decide +kernel), it_X8, ⟨by decide +kernel, by decide +kernel, by decide +kernel⟩, Nat.le_of_ble_eq_true rfl⟩
theorem im_X8_init : Cond.instanceMethod mX8_init.1 ∈ lw_tbl := List.mem_of_getElem? (i := 137) (by decide +kernel)
theorem mk_X8_copyFrom : ab_mk mX8_copyFrom 1 := ⟨List.mem_of_getElem? (i := 898) (by decide +kernel), it_X8, ⟨by decide +kernel, by decide +kernel, by decide +kernel⟩, Nat.le_of_ble_eq_true rfl⟩
theorem im_X8_copyFrom : Cond.instanceMethod mX8_copyFrom.1 ∈ lw_tbl := List.mem_of_getElem? (i := 896) (by decide +kernel)
theorem se_X8_copyFrom : Cond.selects mX8_copyFrom.1.cls mX8_copyFrom.1 mX8_copyFrom.1 ∈ lw_tbl := List.mem_of_getElem? (i := 897) (by decide +kernel)
theorem mk_X8_wayOfPart : ab_mk mX8_wayOfPart 2 := ⟨List.mem_of_getElem? (i := 622) (by decide +kernel), it_X8, ⟨by decide +kernel, by decide +kernel, by decide +kernel⟩, Nat.le_of_ble_eq_true rfl⟩
theorem im_X8_wayOfPart : Cond.instanceMethod mX8_wayOfPart.1 ∈ lw_tbl := List.mem_of_getElem? (i := 620) (by decide +kernel)
theorem se_X8_wayOfPart : Cond.selects mX8_wayOfPart.1.cls mX8_wayOfPart.1 mX8_wayOfPart.1 ∈ lw_tbl := List.mem_of_getElem? (i := 621) (by decide +kernel)
theorem mk_X8_become : ab_mk mX8_become 3 := ⟨List.mem_of_getElem? (i := 390) (by decide +kernel), it_X8, ⟨by decide +kernel, by decide +kernel, by decide +kernel⟩, Nat.le_of_ble_eq_true rfl⟩
theorem im_X8_become : Cond.instanceMethod mX8_become.1 ∈ lw_tbl := List.mem_of_getElem? (i := 388) (by decide +kernel)
theorem se_X8_become : Cond.selects mX8_become.1.cls mX8_become.1 mX8_become.1 ∈ lw_tbl := List.mem_of_getElem? (i := 389) (by decide +kernel)
theorem mk_X8_lyingBehind : ab_mk mX8_lyingBehind 3 := ⟨List.mem_of_getElem? (i := 630) (by decide +kernel), it_X8, ⟨by decide +kernel, by decide +kernel, by decide +kernel⟩, Nat.le_of_ble_eq_true rfl⟩
theorem im_X8_lyingBehind : Cond.instanceMethod mX8_lyingBehind.1 ∈ lw_tbl := List.mem_of_getElem? (i := 628) (by decide +kernel)
theorem se_X8_lyingBehind : Cond.selects mX8_lyingBehind.1.cls mX8_lyingBehind.1 mX8_lyingBehind.1 ∈ lw_tbl := List.mem_of_getElem? (i := 629) (by decide +kernel)
theorem mk_X8_startWith : ab_mk mX8_startWith 1 := ⟨List.mem_of_getElem? (i := 634) (by decide +kernel), it_X8, ⟨by decide +kernel, by decide +kernel, by decide +kernel⟩, Nat.le_of_ble_eq_true rfl⟩
theorem im_X8_startWith : Cond.instanceMethod mX8_startWith.1 ∈ lw_tbl := List.mem_of_getElem? (i := 633) (by decide +kernel)
theorem se_X8_startWith : Cond.selects mX8_startWith.1.cls mX8_startWith.1 mX8_startWith.1 ∈ lw_tbl := List.mem_of_getElem? (i := 10) (by decide +kernel)
theorem mk_X8_cutOnce : ab_mk mX8_cutOnce 0 := ⟨List.mem_of_getElem? (i := 638) (by decide +kernel), it_X8, ⟨by decide +kernel, by decide +kernel, by decide +kernel⟩, Nat.le_of_ble_eq_true rfl⟩
theorem im_X8_cutOnce : Cond.instanceMethod mX8_cutOnce.1 ∈ lw_tbl := List.mem_of_getElem? (i := 637) (by decide +kernel)
theorem se_X8_cutOnce : Cond.selects mX8_cutOnce.1.cls mX8_cutOnce.1 mX8_cutOnce.1 ∈ lw_tbl := List.mem_of_getElem? (i := 11) (by decide +kernel)
theorem mk_X8_cutsToAlike : ab_mk mX8_cutsToAlike 1 := ⟨List.mem_of_getElem? (i := 682) (by decide +kernel), it_X8, ⟨by decide +kernel, by decide +kernel, by decide +kernel⟩, Nat.le_of_ble_eq_true rfl⟩
theorem im_X8_cutsToAlike : Cond.instanceMethod mX8_cutsToAlike.1 ∈ lw_tbl := List.mem_of_getElem? (i := 680) (by decide +kernel)
theorem se_X8_cutsToAlike : Cond.selects mX8_cutsToAlike.1.cls mX8_cutsToAlike.1 mX8_cutsToAlike.1 ∈ lw_tbl := List.mem_of_getElem? (i := 681) (by decide +kernel)
theorem mk_X8_wayAt : ab_mk mX8_wayAt 3 := ⟨List.mem_of_getElem? (i := 650) (by decide +kernel), it_X8, ⟨by decide +kernel, by decide +kernel, by decide +kernel⟩, Nat.le_of_ble_eq_true rfl⟩
theorem im_X8_wayAt : Cond.instanceMethod mX8_wayAt.1 ∈ lw_tbl := List.mem_of_getElem? (i := 648) (by decide +kernel)
theorem se_X8_wayAt : Cond.selects mX8_wayAt.1.cls mX8_wayAt.1 mX8_wayAt.1 ∈ lw_tbl := List.mem_of_getElem? (i := 649) (by decide +kernel)
theorem mk_X8_meeting : ab_mk mX8_meeting 3 := ⟨List.mem_of_getElem? (i := 658) (by decide +kernel), it_X8, ⟨by decide +kernel, by decide +kernel, by decide +kernel⟩, Nat.le_of_ble_eq_true rfl⟩
theorem im_X8_meeting : Cond.instanceMethod mX8_meeting.1 ∈ lw_tbl := List.mem_of_getElem? (i := 656) (by decide +kernel)
theorem se_X8_meeting : Cond.selects mX8_meeting.1.cls mX8_meeting.1 mX8_meeting.1 ∈ lw_tbl := List.mem_of_getElem? (i := 657) (by decide +kernel)
theorem mk_X8_addFirstDigit : ab_mk mX8_addFirstDigit 0 := ⟨List.mem_of_getElem? (i := 662) (by decide +kernel), it_X8, ⟨by decide +kernel, by decide +kernel, by decide +kernel⟩, Nat.le_of_ble_eq_true rfl⟩
theorem im_X8_addFirstDigit : Cond.instanceMethod mX8_addFirstDigit.1 ∈ lw_tbl := List.mem_of_getElem? (i := 661) (by decide +kernel)
theorem se_X8_addFirstDigit : Cond.selects mX8_addFirstDigit.1.cls mX8_addFirstDigit.1 mX8_addFirstDigit.1 ∈ lw_tbl := List.mem_of_getElem? (i := 12) (by decide +kernel)
theorem mk_X8_steadyWays : ab_mk mX8_steadyWays 1 := ⟨List.mem_of_getElem? (i := 670) (by decide +kernel), it_X8, ⟨by decide +kernel, by decide +kernel, by decide +kernel⟩, Nat.le_of_ble_eq_true rfl⟩
theorem im_X8_steadyWays : Cond.instanceMethod mX8_steadyWays.1 ∈ lw_tbl := List.mem_of_getElem? (i := 668) (by decide +kernel)
theorem se_X8_steadyWays : Cond.selects mX8_steadyWays.1.cls mX8_steadyWays.1 mX8_steadyWays.1 ∈ lw_tbl := List.mem_of_getElem? (i := 669) (by decide +kernel)
theorem mk_X8_waysBehind : ab_mk mX8_waysBehind 1 := ⟨List.mem_of_getElem? (i := 674) (by decide +kernel), it_X8, ⟨by decide +kernel, by decide +kernel, by decide +kernel⟩, Nat.le_of_ble_eq_true rfl⟩
theorem im_X8_waysBehind : Cond.instanceMethod mX8_waysBehind.1 ∈ lw_tbl := List.mem_of_getElem? (i := 673) (by decide +kernel)
theorem se_X8_waysBehind : Cond.selects mX8_waysBehind.1.cls mX8_waysBehind.1 mX8_waysBehind.1 ∈ lw_tbl := List.mem_of_getElem? (i := 13) (by decide +kernel)
theorem mk_X8_drawLots : ab_mk mX8_drawLots 4 := ⟨List.mem_of_getElem? (i := 690) (by decide +kernel), it_X8, ⟨by decide +kernel, by decide +kernel, by decide +kernel⟩, Nat.le_of_ble_eq_true rfl⟩
theorem im_X8_drawLots : Cond.instanceMethod mX8_drawLots.1 ∈ lw_tbl := List.mem_of_getElem? (i := 688) (by decide +kernel)
theorem se_X8_drawLots : Cond.selects mX8_drawLots.1.cls mX8_drawLots.1 mX8_drawLots.1 ∈ lw_tbl := List.mem_of_getElem? (i := 689) (by decide +kernel)
theorem mk_X9_init : ab_mk mX9_init 0 := ⟨List.mem_of_getElem? (i := 161) (by decide +kernel), it_X9, ⟨by decide +kernel, by decide +kernel, by decide +kernel⟩, Nat.le_of_ble_eq_true rfl⟩
theorem im_X9_init : Cond.instanceMethod mX9_init.1 ∈ lw_tbl := List.mem_of_getElem? (i := 160) (by decide +kernel)
theorem mk_X9_copyFrom : ab_mk mX9_copyFrom 1 := ⟨List.mem_of_getElem? (i := 902) (by decide +kernel), it_X9, ⟨by decide +kernel, by decide +kernel, by decide +kernel⟩, Nat.le_of_ble_eq_true rfl⟩
theorem im_X9_copyFrom : Cond.instanceMethod mX9_copyFrom.1 ∈ lw_tbl := List.mem_of_getElem? (i := 900) (by decide +kernel)
theorem se_X9_copyFrom : Cond.selects mX9_copyFrom.1.cls mX9_copyFrom.1 mX9_copyFrom.1 ∈ lw_tbl := List.mem_of_getElem? (i := 901) (by decide +kernel)
theorem mk_X9_hasPoint : ab_mk mX9_hasPoint 1 := ⟨List.mem_of_getElem? (i := 705) (by decide +kernel), it_X9, ⟨by decide +kernel, by decide +kernel, by decide +kernel⟩, Nat.le_of_ble_eq_true rfl⟩
theorem im_X9_hasPoint : Cond.instanceMethod mX9_hasPoint.1 ∈ lw_tbl := List.mem_of_getElem? (i := 703) (by decide +kernel)
theorem se_X9_hasPoint : Cond.selects mX9_hasPoint.1.cls mX9_hasPoint.1 mX9_hasPoint.1 ∈ lw_tbl := List.mem_of_getElem? (i := 704) (by decide +kernel)
theorem mk_X9_hasTriangle : ab_mk mX9_hasTriangle 1 := ⟨List.mem_of_getElem? (i := 719) (by decide +kernel), it_X9, ⟨by decide +kernel, by decide +kernel, by decide +kernel⟩, Nat.le_of_ble_eq_true rfl⟩
theorem im_X9_hasTriangle : Cond.instanceMethod mX9_hasTriangle.1 ∈ lw_tbl := List.mem_of_getElem? (i := 717) (by decide +kernel)
theorem se_X9_hasTriangle : Cond.selects mX9_hasTriangle.1.cls mX9_hasTriangle.1 mX9_hasTriangle.1 ∈ lw_tbl := List.mem_of_getElem? (i := 718) (by decide +kernel)
theorem mk_X9_hasSet : ab_mk mX9_hasSet 1 := ⟨List.mem_of_getElem? (i := 735) (by decide +kernel), it_X9, ⟨by decide +kernel, by decide +kernel, by decide +kernel⟩, Nat.le_of_ble_eq_true rfl⟩
theorem im_X9_hasSet : Cond.instanceMethod mX9_hasSet.1 ∈ lw_tbl := List.mem_of_getElem? (i := 733) (by decide +kernel)
theorem se_X9_hasSet : Cond.selects mX9_hasSet.1.cls mX9_hasSet.1 mX9_hasSet.1 ∈ lw_tbl := List.mem_of_getElem? (i := 734) (by decide +kernel)
theorem mk_X9_areThree : ab_mk mX9_areThree 4 := ⟨List.mem_of_getElem? (i := 382) (by decide +kernel), it_X9, ⟨by decide +kernel, by decide +kernel, by decide +kernel⟩, Nat.le_of_ble_eq_true rfl⟩
theorem st_X9_areThree : Cond.static mX9_areThree.1 ∈ lw_tbl := List.mem_of_getElem? (i := 381) (by decide +kernel)
theorem mk_X9_addPoint : ab_mk mX9_addPoint 2 := ⟨List.mem_of_getElem? (i := 399) (by decide +kernel), it_X9, ⟨by decide +kernel, by decide +kernel, by decide +kernel⟩, Nat.le_of_ble_eq_true rfl⟩
theorem im_X9_addPoint : Cond.instanceMethod mX9_addPoint.1 ∈ lw_tbl := List.mem_of_getElem? (i := 397) (by decide +kernel)
theorem se_X9_addPoint : Cond.selects mX9_addPoint.1.cls mX9_addPoint.1 mX9_addPoint.1 ∈ lw_tbl := List.mem_of_getElem? (i := 398) (by decide +kernel)
theorem mk_X9_fractionOf : ab_mk mX9_fractionOf 1 := ⟨List.mem_of_getElem? (i := 403) (by decide +kernel), it_X9, ⟨by decide +kernel, by decide +kernel, by decide +kernel⟩, Nat.le_of_ble_eq_true rfl⟩
theorem st_X9_fractionOf : Cond.static mX9_fractionOf.1 ∈ lw_tbl := List.mem_of_getElem? (i := 402) (by decide +kernel)
theorem mk_X9_addTriangle : ab_mk mX9_addTriangle 4 := ⟨List.mem_of_getElem? (i := 446) (by decide +kernel), it_X9, ⟨by decide +kernel, by decide +kernel, by decide +kernel⟩, Nat.le_of_ble_eq_true rfl⟩
theorem im_X9_addTriangle : Cond.instanceMethod mX9_addTriangle.1 ∈ lw_tbl := List.mem_of_getElem? (i := 444) (by decide +kernel)
theorem se_X9_addTriangle : Cond.selects mX9_addTriangle.1.cls mX9_addTriangle.1 mX9_addTriangle.1 ∈ lw_tbl := List.mem_of_getElem? (i := 445) (by decide +kernel)
theorem mk_X9_isIn : ab_mk mX9_isIn 2 := ⟨List.mem_of_getElem? (i := 743) (by decide +kernel), it_X9, ⟨by decide +kernel, by decide +kernel, by decide +kernel⟩, Nat.le_of_ble_eq_true rfl⟩
theorem im_X9_isIn : Cond.instanceMethod mX9_isIn.1 ∈ lw_tbl := List.mem_of_getElem? (i := 742) (by decide +kernel)
theorem se_X9_isIn : Cond.selects mX9_isIn.1.cls mX9_isIn.1 mX9_isIn.1 ∈ lw_tbl := List.mem_of_getElem? (i := 14) (by decide +kernel)
theorem mk_X9_exactSum : ab_mk mX9_exactSum 1 := ⟨List.mem_of_getElem? (i := 739) (by decide +kernel), it_X9, ⟨by decide +kernel, by decide +kernel, by decide +kernel⟩, Nat.le_of_ble_eq_true rfl⟩
theorem im_X9_exactSum : Cond.instanceMethod mX9_exactSum.1 ∈ lw_tbl := List.mem_of_getElem? (i := 737) (by decide +kernel)
theorem se_X9_exactSum : Cond.selects mX9_exactSum.1.cls mX9_exactSum.1 mX9_exactSum.1 ∈ lw_tbl := List.mem_of_getElem? (i := 738) (by decide +kernel)
theorem mk_X9_evenOnes : ab_mk mX9_evenOnes 1 := ⟨List.mem_of_getElem? (i := 760) (by decide +kernel), it_X9, ⟨by decide +kernel, by decide +kernel, by decide +kernel⟩, Nat.le_of_ble_eq_true rfl⟩
theorem im_X9_evenOnes : Cond.instanceMethod mX9_evenOnes.1 ∈ lw_tbl := List.mem_of_getElem? (i := 758) (by decide +kernel)
theorem se_X9_evenOnes : Cond.selects mX9_evenOnes.1.cls mX9_evenOnes.1 mX9_evenOnes.1 ∈ lw_tbl := List.mem_of_getElem? (i := 759) (by decide +kernel)
theorem mk_X9_rainbows : ab_mk mX9_rainbows 1 := ⟨List.mem_of_getElem? (i := 765) (by decide +kernel), it_X9, ⟨by decide +kernel, by decide +kernel, by decide +kernel⟩, Nat.le_of_ble_eq_true rfl⟩
theorem im_X9_rainbows : Cond.instanceMethod mX9_rainbows.1 ∈ lw_tbl := List.mem_of_getElem? (i := 763) (by decide +kernel)
theorem se_X9_rainbows : Cond.selects mX9_rainbows.1.cls mX9_rainbows.1 mX9_rainbows.1 ∈ lw_tbl := List.mem_of_getElem? (i := 764) (by decide +kernel)
theorem mk_X9_areAlike : ab_mk mX9_areAlike 1 := ⟨List.mem_of_getElem? (i := 770) (by decide +kernel), it_X9, ⟨by decide +kernel, by decide +kernel, by decide +kernel⟩, Nat.le_of_ble_eq_true rfl⟩
theorem im_X9_areAlike : Cond.instanceMethod mX9_areAlike.1 ∈ lw_tbl := List.mem_of_getElem? (i := 768) (by decide +kernel)
theorem se_X9_areAlike : Cond.selects mX9_areAlike.1.cls mX9_areAlike.1 mX9_areAlike.1 ∈ lw_tbl := List.mem_of_getElem? (i := 769) (by decide +kernel)
theorem mk_X9_floatSum : ab_mk mX9_floatSum 1 := ⟨List.mem_of_getElem? (i := 795) (by decide +kernel), it_X9, ⟨by decide +kernel, by decide +kernel, by decide +kernel⟩, Nat.le_of_ble_eq_true rfl⟩
theorem im_X9_floatSum : Cond.instanceMethod mX9_floatSum.1 ∈ lw_tbl := List.mem_of_getElem? (i := 793) (by decide +kernel)
theorem se_X9_floatSum : Cond.selects mX9_floatSum.1.cls mX9_floatSum.1 mX9_floatSum.1 ∈ lw_tbl := List.mem_of_getElem? (i := 794) (by decide +kernel)
theorem mk_X9_doubleSum : ab_mk mX9_doubleSum 1 := ⟨List.mem_of_getElem? (i := 805) (by decide +kernel), it_X9, ⟨by decide +kernel, by decide +kernel, by decide +kernel⟩, Nat.le_of_ble_eq_true rfl⟩
theorem im_X9_doubleSum : Cond.instanceMethod mX9_doubleSum.1 ∈ lw_tbl := List.mem_of_getElem? (i := 803) (by decide +kernel)
theorem se_X9_doubleSum : Cond.selects mX9_doubleSum.1.cls mX9_doubleSum.1 mX9_doubleSum.1 ∈ lw_tbl := List.mem_of_getElem? (i := 804) (by decide +kernel)
theorem mk_X10_init : ab_mk mX10_init 6 := ⟨List.mem_of_getElem? (i := 488) (by decide +kernel), it_X10, ⟨by decide +kernel, by decide +kernel, by decide +kernel⟩, Nat.le_of_ble_eq_true rfl⟩
theorem im_X10_init : Cond.instanceMethod mX10_init.1 ∈ lw_tbl := List.mem_of_getElem? (i := 487) (by decide +kernel)
theorem mk_X10_lyingOn : ab_mk mX10_lyingOn 5 := ⟨List.mem_of_getElem? (i := 450) (by decide +kernel), it_X10, ⟨by decide +kernel, by decide +kernel, by decide +kernel⟩, Nat.le_of_ble_eq_true rfl⟩
theorem st_X10_lyingOn : Cond.static mX10_lyingOn.1 ∈ lw_tbl := List.mem_of_getElem? (i := 449) (by decide +kernel)
theorem mk_X10_isKind : ab_mk mX10_isKind 1 := ⟨List.mem_of_getElem? (i := 379) (by decide +kernel), it_X10, ⟨by decide +kernel, by decide +kernel, by decide +kernel⟩, Nat.le_of_ble_eq_true rfl⟩
theorem st_X10_isKind : Cond.static mX10_isKind.1 ∈ lw_tbl := List.mem_of_getElem? (i := 378) (by decide +kernel)
theorem mk_X10_isUnder : ab_mk mX10_isUnder 2 := ⟨List.mem_of_getElem? (i := 453) (by decide +kernel), it_X10, ⟨by decide +kernel, by decide +kernel, by decide +kernel⟩, Nat.le_of_ble_eq_true rfl⟩
theorem st_X10_isUnder : Cond.static mX10_isUnder.1 ∈ lw_tbl := List.mem_of_getElem? (i := 452) (by decide +kernel)
theorem mk_X10_isRainbow : ab_mk mX10_isRainbow 0 := ⟨List.mem_of_getElem? (i := 723) (by decide +kernel), it_X10, ⟨by decide +kernel, by decide +kernel, by decide +kernel⟩, Nat.le_of_ble_eq_true rfl⟩
theorem im_X10_isRainbow : Cond.instanceMethod mX10_isRainbow.1 ∈ lw_tbl := List.mem_of_getElem? (i := 721) (by decide +kernel)
theorem se_X10_isRainbow : Cond.selects mX10_isRainbow.1.cls mX10_isRainbow.1 mX10_isRainbow.1 ∈ lw_tbl := List.mem_of_getElem? (i := 722) (by decide +kernel)
theorem mk_X11_init : ab_mk mX11_init 0 := ⟨List.mem_of_getElem? (i := 81) (by decide +kernel), it_X11, ⟨by decide +kernel, by decide +kernel, by decide +kernel⟩, Nat.le_of_ble_eq_true rfl⟩
theorem im_X11_init : Cond.instanceMethod mX11_init.1 ∈ lw_tbl := List.mem_of_getElem? (i := 80) (by decide +kernel)
theorem mk_X11_letter : ab_mk mX11_letter 1 := ⟨List.mem_of_getElem? (i := 319) (by decide +kernel), it_X11, ⟨by decide +kernel, by decide +kernel, by decide +kernel⟩, Nat.le_of_ble_eq_true rfl⟩
theorem im_X11_letter : Cond.instanceMethod mX11_letter.1 ∈ lw_tbl := List.mem_of_getElem? (i := 317) (by decide +kernel)
theorem se_X11_letter : Cond.selects mX11_letter.1.cls mX11_letter.1 mX11_letter.1 ∈ lw_tbl := List.mem_of_getElem? (i := 318) (by decide +kernel)
theorem mk_X11_text : ab_mk mX11_text 0 := ⟨List.mem_of_getElem? (i := 335) (by decide +kernel), it_X11, ⟨by decide +kernel, by decide +kernel, by decide +kernel⟩, Nat.le_of_ble_eq_true rfl⟩
theorem im_X11_text : Cond.instanceMethod mX11_text.1 ∈ lw_tbl := List.mem_of_getElem? (i := 333) (by decide +kernel)
theorem se_X11_text : Cond.selects mX11_text.1.cls mX11_text.1 mX11_text.1 ∈ lw_tbl := List.mem_of_getElem? (i := 334) (by decide +kernel)
theorem mk_X11_board : ab_mk mX11_board 3 := ⟨List.mem_of_getElem? (i := 524) (by decide +kernel), it_X11, ⟨by decide +kernel, by decide +kernel, by decide +kernel⟩, Nat.le_of_ble_eq_true rfl⟩
theorem im_X11_board : Cond.instanceMethod mX11_board.1 ∈ lw_tbl := List.mem_of_getElem? (i := 522) (by decide +kernel)
theorem se_X11_board : Cond.selects mX11_board.1.cls mX11_board.1 mX11_board.1 ∈ lw_tbl := List.mem_of_getElem? (i := 523) (by decide +kernel)
theorem mk_X11_piece : ab_mk mX11_piece 2 := ⟨List.mem_of_getElem? (i := 528) (by decide +kernel), it_X11, ⟨by decide +kernel, by decide +kernel, by decide +kernel⟩, Nat.le_of_ble_eq_true rfl⟩
theorem im_X11_piece : Cond.instanceMethod mX11_piece.1 ∈ lw_tbl := List.mem_of_getElem? (i := 526) (by decide +kernel)
theorem se_X11_piece : Cond.selects mX11_piece.1.cls mX11_piece.1 mX11_piece.1 ∈ lw_tbl := List.mem_of_getElem? (i := 527) (by decide +kernel)
theorem mk_X11_of : ab_mk mX11_of 2 := ⟨List.mem_of_getElem? (i := 537) (by decide +kernel), it_X11, ⟨by decide +kernel, by decide +kernel, by decide +kernel⟩, Nat.le_of_ble_eq_true rfl⟩
theorem im_X11_of : Cond.instanceMethod mX11_of.1 ∈ lw_tbl := List.mem_of_getElem? (i := 535) (by decide +kernel)
theorem se_X11_of : Cond.selects mX11_of.1.cls mX11_of.1 mX11_of.1 ∈ lw_tbl := List.mem_of_getElem? (i := 536) (by decide +kernel)
theorem mk_X11_within : ab_mk mX11_within 4 := ⟨List.mem_of_getElem? (i := 575) (by decide +kernel), it_X11, ⟨by decide +kernel, by decide +kernel, by decide +kernel⟩, Nat.le_of_ble_eq_true rfl⟩
theorem im_X11_within : Cond.instanceMethod mX11_within.1 ∈ lw_tbl := List.mem_of_getElem? (i := 573) (by decide +kernel)
theorem se_X11_within : Cond.selects mX11_within.1.cls mX11_within.1 mX11_within.1 ∈ lw_tbl := List.mem_of_getElem? (i := 574) (by decide +kernel)
theorem mk_X11_pieces : ab_mk mX11_pieces 1 := ⟨List.mem_of_getElem? (i := 583) (by decide +kernel), it_X11, ⟨by decide +kernel, by decide +kernel, by decide +kernel⟩, Nat.le_of_ble_eq_true rfl⟩
theorem im_X11_pieces : Cond.instanceMethod mX11_pieces.1 ∈ lw_tbl := List.mem_of_getElem? (i := 581) (by decide +kernel)
theorem se_X11_pieces : Cond.selects mX11_pieces.1.cls mX11_pieces.1 mX11_pieces.1 ∈ lw_tbl := List.mem_of_getElem? (i := 582) (by decide +kernel)
theorem mk_X11_odds : ab_mk mX11_odds 2 := ⟨List.mem_of_getElem? (i := 596) (by decide +kernel), it_X11, ⟨by decide +kernel, by decide +kernel, by decide +kernel⟩, Nat.le_of_ble_eq_true rfl⟩
theorem im_X11_odds : Cond.instanceMethod mX11_odds.1 ∈ lw_tbl := List.mem_of_getElem? (i := 594) (by decide +kernel)
theorem se_X11_odds : Cond.selects mX11_odds.1.cls mX11_odds.1 mX11_odds.1 ∈ lw_tbl := List.mem_of_getElem? (i := 595) (by decide +kernel)
theorem mk_X11_rule : ab_mk mX11_rule 3 := ⟨List.mem_of_getElem? (i := 618) (by decide +kernel), it_X11, ⟨by decide +kernel, by decide +kernel, by decide +kernel⟩, Nat.le_of_ble_eq_true rfl⟩
theorem im_X11_rule : Cond.instanceMethod mX11_rule.1 ∈ lw_tbl := List.mem_of_getElem? (i := 616) (by decide +kernel)
theorem se_X11_rule : Cond.selects mX11_rule.1.cls mX11_rule.1 mX11_rule.1 ∈ lw_tbl := List.mem_of_getElem? (i := 617) (by decide +kernel)
theorem mk_X11_behind : ab_mk mX11_behind 3 := ⟨List.mem_of_getElem? (i := 626) (by decide +kernel), it_X11, ⟨by decide +kernel, by decide +kernel, by decide +kernel⟩, Nat.le_of_ble_eq_true rfl⟩
theorem im_X11_behind : Cond.instanceMethod mX11_behind.1 ∈ lw_tbl := List.mem_of_getElem? (i := 624) (by decide +kernel)
theorem se_X11_behind : Cond.selects mX11_behind.1.cls mX11_behind.1 mX11_behind.1 ∈ lw_tbl := List.mem_of_getElem? (i := 625) (by decide +kernel)
theorem mk_X11_address : ab_mk mX11_address 3 := ⟨List.mem_of_getElem? (i := 646) (by decide +kernel), it_X11, ⟨by decide +kernel, by decide +kernel, by decide +kernel⟩, Nat.le_of_ble_eq_true rfl⟩
theorem im_X11_address : Cond.instanceMethod mX11_address.1 ∈ lw_tbl := List.mem_of_getElem? (i := 644) (by decide +kernel)
theorem se_X11_address : Cond.selects mX11_address.1.cls mX11_address.1 mX11_address.1 ∈ lw_tbl := List.mem_of_getElem? (i := 645) (by decide +kernel)
theorem mk_X11_meet : ab_mk mX11_meet 3 := ⟨List.mem_of_getElem? (i := 654) (by decide +kernel), it_X11, ⟨by decide +kernel, by decide +kernel, by decide +kernel⟩, Nat.le_of_ble_eq_true rfl⟩
theorem im_X11_meet : Cond.instanceMethod mX11_meet.1 ∈ lw_tbl := List.mem_of_getElem? (i := 652) (by decide +kernel)
theorem se_X11_meet : Cond.selects mX11_meet.1.cls mX11_meet.1 mX11_meet.1 ∈ lw_tbl := List.mem_of_getElem? (i := 653) (by decide +kernel)
theorem mk_X11_steady : ab_mk mX11_steady 1 := ⟨List.mem_of_getElem? (i := 666) (by decide +kernel), it_X11, ⟨by decide +kernel, by decide +kernel, by decide +kernel⟩, Nat.le_of_ble_eq_true rfl⟩
theorem im_X11_steady : Cond.instanceMethod mX11_steady.1 ∈ lw_tbl := List.mem_of_getElem? (i := 664) (by decide +kernel)
theorem se_X11_steady : Cond.selects mX11_steady.1.cls mX11_steady.1 mX11_steady.1 ∈ lw_tbl := List.mem_of_getElem? (i := 665) (by decide +kernel)
theorem mk_X11_falls : ab_mk mX11_falls 1 := ⟨List.mem_of_getElem? (i := 678) (by decide +kernel), it_X11, ⟨by decide +kernel, by decide +kernel, by decide +kernel⟩, Nat.le_of_ble_eq_true rfl⟩
theorem im_X11_falls : Cond.instanceMethod mX11_falls.1 ∈ lw_tbl := List.mem_of_getElem? (i := 676) (by decide +kernel)
theorem se_X11_falls : Cond.selects mX11_falls.1.cls mX11_falls.1 mX11_falls.1 ∈ lw_tbl := List.mem_of_getElem? (i := 677) (by decide +kernel)
theorem mk_X11_lots : ab_mk mX11_lots 4 := ⟨List.mem_of_getElem? (i := 686) (by decide +kernel), it_X11, ⟨by decide +kernel, by decide +kernel, by decide +kernel⟩, Nat.le_of_ble_eq_true rfl⟩
theorem im_X11_lots : Cond.instanceMethod mX11_lots.1 ∈ lw_tbl := List.mem_of_getElem? (i := 684) (by decide +kernel)
theorem se_X11_lots : Cond.selects mX11_lots.1.cls mX11_lots.1 mX11_lots.1 ∈ lw_tbl := List.mem_of_getElem? (i := 685) (by decide +kernel)
theorem mk_X11_point : ab_mk mX11_point 2 := ⟨List.mem_of_getElem? (i := 697) (by decide +kernel), it_X11, ⟨by decide +kernel, by decide +kernel, by decide +kernel⟩, Nat.le_of_ble_eq_true rfl⟩
theorem im_X11_point : Cond.instanceMethod mX11_point.1 ∈ lw_tbl := List.mem_of_getElem? (i := 695) (by decide +kernel)
theorem se_X11_point : Cond.selects mX11_point.1.cls mX11_point.1 mX11_point.1 ∈ lw_tbl := List.mem_of_getElem? (i := 696) (by decide +kernel)
theorem mk_X11_colour : ab_mk mX11_colour 2 := ⟨List.mem_of_getElem? (i := 701) (by decide +kernel), it_X11, ⟨by decide +kernel, by decide +kernel, by decide +kernel⟩, Nat.le_of_ble_eq_true rfl⟩
theorem im_X11_colour : Cond.instanceMethod mX11_colour.1 ∈ lw_tbl := List.mem_of_getElem? (i := 699) (by decide +kernel)
theorem se_X11_colour : Cond.selects mX11_colour.1.cls mX11_colour.1 mX11_colour.1 ∈ lw_tbl := List.mem_of_getElem? (i := 700) (by decide +kernel)
theorem mk_X11_triangle : ab_mk mX11_triangle 4 := ⟨List.mem_of_getElem? (i := 711) (by decide +kernel), it_X11, ⟨by decide +kernel, by decide +kernel, by decide +kernel⟩, Nat.le_of_ble_eq_true rfl⟩
theorem im_X11_triangle : Cond.instanceMethod mX11_triangle.1 ∈ lw_tbl := List.mem_of_getElem? (i := 709) (by decide +kernel)
theorem se_X11_triangle : Cond.selects mX11_triangle.1.cls mX11_triangle.1 mX11_triangle.1 ∈ lw_tbl := List.mem_of_getElem? (i := 710) (by decide +kernel)
theorem mk_X11_tri : ab_mk mX11_tri 2 := ⟨List.mem_of_getElem? (i := 715) (by decide +kernel), it_X11, ⟨by decide +kernel, by decide +kernel, by decide +kernel⟩, Nat.le_of_ble_eq_true rfl⟩
theorem im_X11_tri : Cond.instanceMethod mX11_tri.1 ∈ lw_tbl := List.mem_of_getElem? (i := 713) (by decide +kernel)
theorem se_X11_tri : Cond.selects mX11_tri.1.cls mX11_tri.1 mX11_tri.1 ∈ lw_tbl := List.mem_of_getElem? (i := 714) (by decide +kernel)
theorem mk_X11_area : ab_mk mX11_area 2 := ⟨List.mem_of_getElem? (i := 727) (by decide +kernel), it_X11, ⟨by decide +kernel, by decide +kernel, by decide +kernel⟩, Nat.le_of_ble_eq_true rfl⟩
theorem im_X11_area : Cond.instanceMethod mX11_area.1 ∈ lw_tbl := List.mem_of_getElem? (i := 725) (by decide +kernel)
theorem se_X11_area : Cond.selects mX11_area.1.cls mX11_area.1 mX11_area.1 ∈ lw_tbl := List.mem_of_getElem? (i := 726) (by decide +kernel)
theorem mk_X11_sum : ab_mk mX11_sum 2 := ⟨List.mem_of_getElem? (i := 731) (by decide +kernel), it_X11, ⟨by decide +kernel, by decide +kernel, by decide +kernel⟩, Nat.le_of_ble_eq_true rfl⟩
theorem im_X11_sum : Cond.instanceMethod mX11_sum.1 ∈ lw_tbl := List.mem_of_getElem? (i := 729) (by decide +kernel)
theorem se_X11_sum : Cond.selects mX11_sum.1.cls mX11_sum.1 mX11_sum.1 ∈ lw_tbl := List.mem_of_getElem? (i := 730) (by decide +kernel)
theorem mk_X11_even : ab_mk mX11_even 2 := ⟨List.mem_of_getElem? (i := 756) (by decide +kernel), it_X11, ⟨by decide +kernel, by decide +kernel, by decide +kernel⟩, Nat.le_of_ble_eq_true rfl⟩
theorem im_X11_even : Cond.instanceMethod mX11_even.1 ∈ lw_tbl := List.mem_of_getElem? (i := 754) (by decide +kernel)
theorem se_X11_even : Cond.selects mX11_even.1.cls mX11_even.1 mX11_even.1 ∈ lw_tbl := List.mem_of_getElem? (i := 755) (by decide +kernel)
theorem mk_X11_bits : ab_mk mX11_bits 1 := ⟨List.mem_of_getElem? (i := 778) (by decide +kernel), it_X11, ⟨by decide +kernel, by decide +kernel, by decide +kernel⟩, Nat.le_of_ble_eq_true rfl⟩
theorem im_X11_bits : Cond.instanceMethod mX11_bits.1 ∈ lw_tbl := List.mem_of_getElem? (i := 776) (by decide +kernel)
theorem se_X11_bits : Cond.selects mX11_bits.1.cls mX11_bits.1 mX11_bits.1 ∈ lw_tbl := List.mem_of_getElem? (i := 777) (by decide +kernel)
theorem mk_X11_bitsOf : ab_mk mX11_bitsOf 2 := ⟨List.mem_of_getElem? (i := 791) (by decide +kernel), it_X11, ⟨by decide +kernel, by decide +kernel, by decide +kernel⟩, Nat.le_of_ble_eq_true rfl⟩
theorem im_X11_bitsOf : Cond.instanceMethod mX11_bitsOf.1 ∈ lw_tbl := List.mem_of_getElem? (i := 789) (by decide +kernel)
theorem se_X11_bitsOf : Cond.selects mX11_bitsOf.1.cls mX11_bitsOf.1 mX11_bitsOf.1 ∈ lw_tbl := List.mem_of_getElem? (i := 790) (by decide +kernel)
theorem mk_X11_longBits : ab_mk mX11_longBits 1 := ⟨List.mem_of_getElem? (i := 801) (by decide +kernel), it_X11, ⟨by decide +kernel, by decide +kernel, by decide +kernel⟩, Nat.le_of_ble_eq_true rfl⟩
theorem im_X11_longBits : Cond.instanceMethod mX11_longBits.1 ∈ lw_tbl := List.mem_of_getElem? (i := 799) (by decide +kernel)
theorem se_X11_longBits : Cond.selects mX11_longBits.1.cls mX11_longBits.1 mX11_longBits.1 ∈ lw_tbl := List.mem_of_getElem? (i := 800) (by decide +kernel)
theorem mk_X11_rack : ab_mk mX11_rack 3 := ⟨List.mem_of_getElem? (i := 820) (by decide +kernel), it_X11, ⟨by decide +kernel, by decide +kernel, by decide +kernel⟩, Nat.le_of_ble_eq_true rfl⟩
theorem im_X11_rack : Cond.instanceMethod mX11_rack.1 ∈ lw_tbl := List.mem_of_getElem? (i := 818) (by decide +kernel)
theorem se_X11_rack : Cond.selects mX11_rack.1.cls mX11_rack.1 mX11_rack.1 ∈ lw_tbl := List.mem_of_getElem? (i := 819) (by decide +kernel)
theorem mk_X11_racks : ab_mk mX11_racks 3 := ⟨List.mem_of_getElem? (i := 831) (by decide +kernel), it_X11, ⟨by decide +kernel, by decide +kernel, by decide +kernel⟩, Nat.le_of_ble_eq_true rfl⟩
theorem im_X11_racks : Cond.instanceMethod mX11_racks.1 ∈ lw_tbl := List.mem_of_getElem? (i := 829) (by decide +kernel)
theorem se_X11_racks : Cond.selects mX11_racks.1.cls mX11_racks.1 mX11_racks.1 ∈ lw_tbl := List.mem_of_getElem? (i := 830) (by decide +kernel)
theorem mk_X11_racked : ab_mk mX11_racked 3 := ⟨List.mem_of_getElem? (i := 848) (by decide +kernel), it_X11, ⟨by decide +kernel, by decide +kernel, by decide +kernel⟩, Nat.le_of_ble_eq_true rfl⟩
theorem im_X11_racked : Cond.instanceMethod mX11_racked.1 ∈ lw_tbl := List.mem_of_getElem? (i := 846) (by decide +kernel)
theorem se_X11_racked : Cond.selects mX11_racked.1.cls mX11_racked.1 mX11_racked.1 ∈ lw_tbl := List.mem_of_getElem? (i := 847) (by decide +kernel)
theorem mk_X11_like : ab_mk mX11_like 2 := ⟨List.mem_of_getElem? (i := 852) (by decide +kernel), it_X11, ⟨by decide +kernel, by decide +kernel, by decide +kernel⟩, Nat.le_of_ble_eq_true rfl⟩
theorem im_X11_like : Cond.instanceMethod mX11_like.1 ∈ lw_tbl := List.mem_of_getElem? (i := 850) (by decide +kernel)
theorem se_X11_like : Cond.selects mX11_like.1.cls mX11_like.1 mX11_like.1 ∈ lw_tbl := List.mem_of_getElem? (i := 851) (by decide +kernel)
theorem mk_X11_list : ab_mk mX11_list 2 := ⟨List.mem_of_getElem? (i := 860) (by decide +kernel), it_X11, ⟨by decide +kernel, by decide +kernel, by decide +kernel⟩, Nat.le_of_ble_eq_true rfl⟩
theorem im_X11_list : Cond.instanceMethod mX11_list.1 ∈ lw_tbl := List.mem_of_getElem? (i := 858) (by decide +kernel)
theorem se_X11_list : Cond.selects mX11_list.1.cls mX11_list.1 mX11_list.1 ∈ lw_tbl := List.mem_of_getElem? (i := 859) (by decide +kernel)
theorem mk_X11_put : ab_mk mX11_put 3 := ⟨List.mem_of_getElem? (i := 868) (by decide +kernel), it_X11, ⟨by decide +kernel, by decide +kernel, by decide +kernel⟩, Nat.le_of_ble_eq_true rfl⟩
theorem im_X11_put : Cond.instanceMethod mX11_put.1 ∈ lw_tbl := List.mem_of_getElem? (i := 866) (by decide +kernel)
theorem se_X11_put : Cond.selects mX11_put.1.cls mX11_put.1 mX11_put.1 ∈ lw_tbl := List.mem_of_getElem? (i := 867) (by decide +kernel)
theorem mk_X11_look : ab_mk mX11_look 2 := ⟨List.mem_of_getElem? (i := 880) (by decide +kernel), it_X11, ⟨by decide +kernel, by decide +kernel, by decide +kernel⟩, Nat.le_of_ble_eq_true rfl⟩
theorem im_X11_look : Cond.instanceMethod mX11_look.1 ∈ lw_tbl := List.mem_of_getElem? (i := 878) (by decide +kernel)
theorem se_X11_look : Cond.selects mX11_look.1.cls mX11_look.1 mX11_look.1 ∈ lw_tbl := List.mem_of_getElem? (i := 879) (by decide +kernel)
theorem mk_X11_judge : ab_mk mX11_judge 1 := ⟨List.mem_of_getElem? (i := 886) (by decide +kernel), it_X11, ⟨by decide +kernel, by decide +kernel, by decide +kernel⟩, Nat.le_of_ble_eq_true rfl⟩
theorem im_X11_judge : Cond.instanceMethod mX11_judge.1 ∈ lw_tbl := List.mem_of_getElem? (i := 884) (by decide +kernel)
theorem se_X11_judge : Cond.selects mX11_judge.1.cls mX11_judge.1 mX11_judge.1 ∈ lw_tbl := List.mem_of_getElem? (i := 885) (by decide +kernel)
theorem mk_X11_image : ab_mk mX11_image 0 := ⟨List.mem_of_getElem? (i := 890) (by decide +kernel), it_X11, ⟨by decide +kernel, by decide +kernel, by decide +kernel⟩, Nat.le_of_ble_eq_true rfl⟩
theorem im_X11_image : Cond.instanceMethod mX11_image.1 ∈ lw_tbl := List.mem_of_getElem? (i := 888) (by decide +kernel)
theorem se_X11_image : Cond.selects mX11_image.1.cls mX11_image.1 mX11_image.1 ∈ lw_tbl := List.mem_of_getElem? (i := 889) (by decide +kernel)
theorem mk_X11_on : ab_mk mX11_on 0 := ⟨List.mem_of_getElem? (i := 906) (by decide +kernel), it_X11, ⟨by decide +kernel, by decide +kernel, by decide +kernel⟩, Nat.le_of_ble_eq_true rfl⟩
theorem im_X11_on : Cond.instanceMethod mX11_on.1 ∈ lw_tbl := List.mem_of_getElem? (i := 904) (by decide +kernel)
theorem se_X11_on : Cond.selects mX11_on.1.cls mX11_on.1 mX11_on.1 ∈ lw_tbl := List.mem_of_getElem? (i := 905) (by decide +kernel)
theorem mk_X11_count : ab_mk mX11_count 1 := ⟨List.mem_of_getElem? (i := 915) (by decide +kernel), it_X11, ⟨by decide +kernel, by decide +kernel, by decide +kernel⟩, Nat.le_of_ble_eq_true rfl⟩
theorem im_X11_count : Cond.instanceMethod mX11_count.1 ∈ lw_tbl := List.mem_of_getElem? (i := 913) (by decide +kernel)
theorem se_X11_count : Cond.selects mX11_count.1.cls mX11_count.1 mX11_count.1 ∈ lw_tbl := List.mem_of_getElem? (i := 914) (by decide +kernel)
theorem mk_X11_refuse : ab_mk mX11_refuse 1 := ⟨List.mem_of_getElem? (i := 323) (by decide +kernel), it_X11, ⟨by decide +kernel, by decide +kernel, by decide +kernel⟩, Nat.le_of_ble_eq_true rfl⟩
theorem im_X11_refuse : Cond.instanceMethod mX11_refuse.1 ∈ lw_tbl := List.mem_of_getElem? (i := 322) (by decide +kernel)
theorem se_X11_refuse : Cond.selects mX11_refuse.1.cls mX11_refuse.1 mX11_refuse.1 ∈ lw_tbl := List.mem_of_getElem? (i := 1) (by decide +kernel)
theorem mk_X11_refuseFar : ab_mk mX11_refuseFar 1 := ⟨List.mem_of_getElem? (i := 603) (by decide +kernel), it_X11, ⟨by decide +kernel, by decide +kernel, by decide +kernel⟩, Nat.le_of_ble_eq_true rfl⟩
theorem im_X11_refuseFar : Cond.instanceMethod mX11_refuseFar.1 ∈ lw_tbl := List.mem_of_getElem? (i := 602) (by decide +kernel)
theorem se_X11_refuseFar : Cond.selects mX11_refuseFar.1.cls mX11_refuseFar.1 mX11_refuseFar.1 ∈ lw_tbl := List.mem_of_getElem? (i := 9) (by decide +kernel)
theorem mk_X11_isWay : ab_mk mX11_isWay 1 := ⟨List.mem_of_getElem? (i := 376) (by decide +kernel), it_X11, ⟨by decide +kernel, by decide +kernel, by decide +kernel⟩, Nat.le_of_ble_eq_true rfl⟩
theorem st_X11_isWay : Cond.static mX11_isWay.1 ∈ lw_tbl := List.mem_of_getElem? (i := 375) (by decide +kernel)
theorem mk_X11_isPartOfFraction : ab_mk mX11_isPartOfFraction 1 := ⟨List.mem_of_getElem? (i := 599) (by decide +kernel), it_X11, ⟨by decide +kernel, by decide +kernel, by decide +kernel⟩, Nat.le_of_ble_eq_true rfl⟩
theorem st_X11_isPartOfFraction : Cond.static mX11_isPartOfFraction.1 ∈ lw_tbl := List.mem_of_getElem? (i := 598) (by decide +kernel)
theorem mk_X11_isRow : ab_mk mX11_isRow 1 := ⟨List.mem_of_getElem? (i := 823) (by decide +kernel), it_X11, ⟨by decide +kernel, by decide +kernel, by decide +kernel⟩, Nat.le_of_ble_eq_true rfl⟩
theorem st_X11_isRow : Cond.static mX11_isRow.1 ∈ lw_tbl := List.mem_of_getElem? (i := 822) (by decide +kernel)
theorem mk_X11_faultOfLetters : ab_mk mX11_faultOfLetters 0 := ⟨List.mem_of_getElem? (i := 339) (by decide +kernel), it_X11, ⟨by decide +kernel, by decide +kernel, by decide +kernel⟩, Nat.le_of_ble_eq_true rfl⟩
theorem im_X11_faultOfLetters : Cond.instanceMethod mX11_faultOfLetters.1 ∈ lw_tbl := List.mem_of_getElem? (i := 338) (by decide +kernel)
theorem se_X11_faultOfLetters : Cond.selects mX11_faultOfLetters.1.cls mX11_faultOfLetters.1 mX11_faultOfLetters.1 ∈ lw_tbl := List.mem_of_getElem? (i := 2) (by decide +kernel)
theorem mk_X11_canBe : ab_mk mX11_canBe 3 := ⟨List.mem_of_getElem? (i := 358) (by decide +kernel), it_X11, ⟨by decide +kernel, by decide +kernel, by decide +kernel⟩, Nat.le_of_ble_eq_true rfl⟩
theorem im_X11_canBe : Cond.instanceMethod mX11_canBe.1 ∈ lw_tbl := List.mem_of_getElem? (i := 357) (by decide +kernel)
theorem se_X11_canBe : Cond.selects mX11_canBe.1.cls mX11_canBe.1 mX11_canBe.1 ∈ lw_tbl := List.mem_of_getElem? (i := 4) (by decide +kernel)
theorem mk_X11_areWays : ab_mk mX11_areWays 2 := ⟨List.mem_of_getElem? (i := 373) (by decide +kernel), it_X11, ⟨by decide +kernel, by decide +kernel, by decide +kernel⟩, Nat.le_of_ble_eq_true rfl⟩
theorem im_X11_areWays : Cond.instanceMethod mX11_areWays.1 ∈ lw_tbl := List.mem_of_getElem? (i := 372) (by decide +kernel)
theorem se_X11_areWays : Cond.selects mX11_areWays.1.cls mX11_areWays.1 mX11_areWays.1 ∈ lw_tbl := List.mem_of_getElem? (i := 5) (by decide +kernel)
theorem mk_X11_runStatement : ab_mk mX11_runStatement 1 := ⟨List.mem_of_getElem? (i := 386) (by decide +kernel), it_X11, ⟨by decide +kernel, by decide +kernel, by decide +kernel⟩, Nat.le_of_ble_eq_true rfl⟩
theorem im_X11_runStatement : Cond.instanceMethod mX11_runStatement.1 ∈ lw_tbl := List.mem_of_getElem? (i := 385) (by decide +kernel)
theorem se_X11_runStatement : Cond.selects mX11_runStatement.1.cls mX11_runStatement.1 mX11_runStatement.1 ∈ lw_tbl := List.mem_of_getElem? (i := 6) (by decide +kernel)
theorem mk_X12_refused : ab_mk mX12_refused 1 := ⟨List.mem_of_getElem? (i := 1075) (by decide +kernel), it_X12, ⟨by decide +kernel, by decide +kernel, by decide +kernel⟩, Nat.le_of_ble_eq_true rfl⟩
theorem im_X12_refused : Cond.instanceMethod mX12_refused.1 ∈ lw_tbl := List.mem_of_getElem? (i := 1074) (by decide +kernel)
theorem se_X12_refused : Cond.selects mX12_refused.1.cls mX12_refused.1 mX12_refused.1 ∈ lw_tbl := List.mem_of_getElem? (i := 19) (by decide +kernel)
theorem mk_X12_refusedFar : ab_mk mX12_refusedFar 1 := ⟨List.mem_of_getElem? (i := 1140) (by decide +kernel), it_X12, ⟨by decide +kernel, by decide +kernel, by decide +kernel⟩, Nat.le_of_ble_eq_true rfl⟩
theorem im_X12_refusedFar : Cond.instanceMethod mX12_refusedFar.1 ∈ lw_tbl := List.mem_of_getElem? (i := 1139) (by decide +kernel)
theorem se_X12_refusedFar : Cond.selects mX12_refusedFar.1.cls mX12_refusedFar.1 mX12_refusedFar.1 ∈ lw_tbl := List.mem_of_getElem? (i := 28) (by decide +kernel)
theorem mk_X12_isIn : ab_mk mX12_isIn 3 := ⟨List.mem_of_getElem? (i := 1078) (by decide +kernel), it_X12, ⟨by decide +kernel, by decide +kernel, by decide +kernel⟩, Nat.le_of_ble_eq_true rfl⟩
theorem st_X12_isIn : Cond.static mX12_isIn.1 ∈ lw_tbl := List.mem_of_getElem? (i := 1077) (by decide +kernel)
theorem mk_X12_has : ab_mk mX12_has 2 := ⟨List.mem_of_getElem? (i := 1187) (by decide +kernel), it_X12, ⟨by decide +kernel, by decide +kernel, by decide +kernel⟩, Nat.le_of_ble_eq_true rfl⟩
theorem st_X12_has : Cond.static mX12_has.1 ∈ lw_tbl := List.mem_of_getElem? (i := 1186) (by decide +kernel)
theorem mk_X12_divisor : ab_mk mX12_divisor 2 := ⟨List.mem_of_getElem? (i := 1147) (by decide +kernel), it_X12, ⟨by decide +kernel, by decide +kernel, by decide +kernel⟩, Nat.le_of_ble_eq_true rfl⟩
theorem st_X12_divisor : Cond.static mX12_divisor.1 ∈ lw_tbl := List.mem_of_getElem? (i := 1146) (by decide +kernel)
theorem mk_X12_part : ab_mk mX12_part 3 := ⟨List.mem_of_getElem? (i := 1144) (by decide +kernel), it_X12, ⟨by decide +kernel, by decide +kernel, by decide +kernel⟩, Nat.le_of_ble_eq_true rfl⟩
theorem st_X12_part : Cond.static mX12_part.1 ∈ lw_tbl := List.mem_of_getElem? (i := 1143) (by decide +kernel)
theorem mk_X12_init : ab_mk mX12_init 0 := ⟨List.mem_of_getElem? (i := 920) (by decide +kernel), it_X12, ⟨by decide +kernel, by decide +kernel, by decide +kernel⟩, Nat.le_of_ble_eq_true rfl⟩
theorem im_X12_init : Cond.instanceMethod mX12_init.1 ∈ lw_tbl := List.mem_of_getElem? (i := 919) (by decide +kernel)
theorem mk_X12_side : ab_mk mX12_side 0 := ⟨List.mem_of_getElem? (i := 929) (by decide +kernel), it_X12, ⟨by decide +kernel, by decide +kernel, by decide +kernel⟩, Nat.le_of_ble_eq_true rfl⟩
theorem im_X12_side : Cond.instanceMethod mX12_side.1 ∈ lw_tbl := List.mem_of_getElem? (i := 928) (by decide +kernel)
theorem se_X12_side : Cond.selects mX12_side.1.cls mX12_side.1 mX12_side.1 ∈ lw_tbl := List.mem_of_getElem? (i := 16) (by decide +kernel)
theorem mk_X12_isCell : ab_mk mX12_isCell 2 := ⟨List.mem_of_getElem? (i := 1086) (by decide +kernel), it_X12, ⟨by decide +kernel, by decide +kernel, by decide +kernel⟩, Nat.le_of_ble_eq_true rfl⟩
theorem im_X12_isCell : Cond.instanceMethod mX12_isCell.1 ∈ lw_tbl := List.mem_of_getElem? (i := 1085) (by decide +kernel)
theorem se_X12_isCell : Cond.selects mX12_isCell.1.cls mX12_isCell.1 mX12_isCell.1 ∈ lw_tbl := List.mem_of_getElem? (i := 20) (by decide +kernel)
theorem mk_X12_lays : ab_mk mX12_lays 3 := ⟨List.mem_of_getElem? (i := 925) (by decide +kernel), it_X12, ⟨by decide +kernel, by decide +kernel, by decide +kernel⟩, Nat.le_of_ble_eq_true rfl⟩
theorem im_X12_lays : Cond.instanceMethod mX12_lays.1 ∈ lw_tbl := List.mem_of_getElem? (i := 924) (by decide +kernel)
theorem se_X12_lays : Cond.selects mX12_lays.1.cls mX12_lays.1 mX12_lays.1 ∈ lw_tbl := List.mem_of_getElem? (i := 15) (by decide +kernel)
theorem mk_X12_cuts : ab_mk mX12_cuts 5 := ⟨List.mem_of_getElem? (i := 933) (by decide +kernel), it_X12, ⟨by decide +kernel, by decide +kernel, by decide +kernel⟩, Nat.le_of_ble_eq_true rfl⟩
theorem im_X12_cuts : Cond.instanceMethod mX12_cuts.1 ∈ lw_tbl := List.mem_of_getElem? (i := 932) (by decide +kernel)
theorem se_X12_cuts : Cond.selects mX12_cuts.1.cls mX12_cuts.1 mX12_cuts.1 ∈ lw_tbl := List.mem_of_getElem? (i := 17) (by decide +kernel)
theorem mk_X12_cell : ab_mk mX12_cell 2 := ⟨List.mem_of_getElem? (i := 1090) (by decide +kernel), it_X12, ⟨by decide +kernel, by decide +kernel, by decide +kernel⟩, Nat.le_of_ble_eq_true rfl⟩
theorem im_X12_cell : Cond.instanceMethod mX12_cell.1 ∈ lw_tbl := List.mem_of_getElem? (i := 1089) (by decide +kernel)
theorem se_X12_cell : Cond.selects mX12_cell.1.cls mX12_cell.1 mX12_cell.1 ∈ lw_tbl := List.mem_of_getElem? (i := 21) (by decide +kernel)
theorem mk_X12_board : ab_mk mX12_board 3 := ⟨List.mem_of_getElem? (i := 1071) (by decide +kernel), it_X12, ⟨by decide +kernel, by decide +kernel, by decide +kernel⟩, Nat.le_of_ble_eq_true rfl⟩
theorem im_X12_board : Cond.instanceMethod mX12_board.1 ∈ lw_tbl := List.mem_of_getElem? (i := 1069) (by decide +kernel)
theorem se_X12_board : Cond.selects mX12_board.1.cls mX12_board.1 mX12_board.1 ∈ lw_tbl := List.mem_of_getElem? (i := 1070) (by decide +kernel)
theorem mk_X12_piece : ab_mk mX12_piece 2 := ⟨List.mem_of_getElem? (i := 1082) (by decide +kernel), it_X12, ⟨by decide +kernel, by decide +kernel, by decide +kernel⟩, Nat.le_of_ble_eq_true rfl⟩
theorem im_X12_piece : Cond.instanceMethod mX12_piece.1 ∈ lw_tbl := List.mem_of_getElem? (i := 1080) (by decide +kernel)
theorem se_X12_piece : Cond.selects mX12_piece.1.cls mX12_piece.1 mX12_piece.1 ∈ lw_tbl := List.mem_of_getElem? (i := 1081) (by decide +kernel)
theorem mk_X12_areBeside : ab_mk mX12_areBeside 6 := ⟨List.mem_of_getElem? (i := 1106) (by decide +kernel), it_X12, ⟨by decide +kernel, by decide +kernel, by decide +kernel⟩, Nat.le_of_ble_eq_true rfl⟩
theorem im_X12_areBeside : Cond.instanceMethod mX12_areBeside.1 ∈ lw_tbl := List.mem_of_getElem? (i := 1105) (by decide +kernel)
theorem se_X12_areBeside : Cond.selects mX12_areBeside.1.cls mX12_areBeside.1 mX12_areBeside.1 ∈ lw_tbl := List.mem_of_getElem? (i := 24) (by decide +kernel)
theorem mk_X12_isTouching : ab_mk mX12_isTouching 2 := ⟨List.mem_of_getElem? (i := 1102) (by decide +kernel), it_X12, ⟨by decide +kernel, by decide +kernel, by decide +kernel⟩, Nat.le_of_ble_eq_true rfl⟩
theorem im_X12_isTouching : Cond.instanceMethod mX12_isTouching.1 ∈ lw_tbl := List.mem_of_getElem? (i := 1101) (by decide +kernel)
theorem se_X12_isTouching : Cond.selects mX12_isTouching.1.cls mX12_isTouching.1 mX12_isTouching.1 ∈ lw_tbl := List.mem_of_getElem? (i := 23) (by decide +kernel)
theorem mk_X12_touching : ab_mk mX12_touching 1 := ⟨List.mem_of_getElem? (i := 1098) (by decide +kernel), it_X12, ⟨by decide +kernel, by decide +kernel, by decide +kernel⟩, Nat.le_of_ble_eq_true rfl⟩
theorem im_X12_touching : Cond.instanceMethod mX12_touching.1 ∈ lw_tbl := List.mem_of_getElem? (i := 1097) (by decide +kernel)
theorem se_X12_touching : Cond.selects mX12_touching.1.cls mX12_touching.1 mX12_touching.1 ∈ lw_tbl := List.mem_of_getElem? (i := 22) (by decide +kernel)
theorem mk_X12_of : ab_mk mX12_of 2 := ⟨List.mem_of_getElem? (i := 1094) (by decide +kernel), it_X12, ⟨by decide +kernel, by decide +kernel, by decide +kernel⟩, Nat.le_of_ble_eq_true rfl⟩
theorem im_X12_of : Cond.instanceMethod mX12_of.1 ∈ lw_tbl := List.mem_of_getElem? (i := 1092) (by decide +kernel)
theorem se_X12_of : Cond.selects mX12_of.1.cls mX12_of.1 mX12_of.1 ∈ lw_tbl := List.mem_of_getElem? (i := 1093) (by decide +kernel)
theorem mk_X12_isWithin : ab_mk mX12_isWithin 5 := ⟨List.mem_of_getElem? (i := 1114) (by decide +kernel), it_X12, ⟨by decide +kernel, by decide +kernel, by decide +kernel⟩, Nat.le_of_ble_eq_true rfl⟩
theorem im_X12_isWithin : Cond.instanceMethod mX12_isWithin.1 ∈ lw_tbl := List.mem_of_getElem? (i := 1113) (by decide +kernel)
theorem se_X12_isWithin : Cond.selects mX12_isWithin.1.cls mX12_isWithin.1 mX12_isWithin.1 ∈ lw_tbl := List.mem_of_getElem? (i := 25) (by decide +kernel)
theorem mk_X12_within : ab_mk mX12_within 4 := ⟨List.mem_of_getElem? (i := 1110) (by decide +kernel), it_X12, ⟨by decide +kernel, by decide +kernel, by decide +kernel⟩, Nat.le_of_ble_eq_true rfl⟩
theorem im_X12_within : Cond.instanceMethod mX12_within.1 ∈ lw_tbl := List.mem_of_getElem? (i := 1108) (by decide +kernel)
theorem se_X12_within : Cond.selects mX12_within.1.cls mX12_within.1 mX12_within.1 ∈ lw_tbl := List.mem_of_getElem? (i := 1109) (by decide +kernel)
theorem mk_X12_edge : ab_mk mX12_edge 0 := ⟨List.mem_of_getElem? (i := 1128) (by decide +kernel), it_X12, ⟨by decide +kernel, by decide +kernel, by decide +kernel⟩, Nat.le_of_ble_eq_true rfl⟩
theorem im_X12_edge : Cond.instanceMethod mX12_edge.1 ∈ lw_tbl := List.mem_of_getElem? (i := 1127) (by decide +kernel)
theorem se_X12_edge : Cond.selects mX12_edge.1.cls mX12_edge.1 mX12_edge.1 ∈ lw_tbl := List.mem_of_getElem? (i := 27) (by decide +kernel)
theorem mk_X12_inWay : ab_mk mX12_inWay 1 := ⟨List.mem_of_getElem? (i := 1124) (by decide +kernel), it_X12, ⟨by decide +kernel, by decide +kernel, by decide +kernel⟩, Nat.le_of_ble_eq_true rfl⟩
theorem im_X12_inWay : Cond.instanceMethod mX12_inWay.1 ∈ lw_tbl := List.mem_of_getElem? (i := 1123) (by decide +kernel)
theorem se_X12_inWay : Cond.selects mX12_inWay.1.cls mX12_inWay.1 mX12_inWay.1 ∈ lw_tbl := List.mem_of_getElem? (i := 26) (by decide +kernel)
theorem mk_X12_pieces : ab_mk mX12_pieces 1 := ⟨List.mem_of_getElem? (i := 1118) (by decide +kernel), it_X12, ⟨by decide +kernel, by decide +kernel, by decide +kernel⟩, Nat.le_of_ble_eq_true rfl⟩
theorem im_X12_pieces : Cond.instanceMethod mX12_pieces.1 ∈ lw_tbl := List.mem_of_getElem? (i := 1116) (by decide +kernel)
theorem se_X12_pieces : Cond.selects mX12_pieces.1.cls mX12_pieces.1 mX12_pieces.1 ∈ lw_tbl := List.mem_of_getElem? (i := 1117) (by decide +kernel)
theorem mk_X12_isWay : ab_mk mX12_isWay 1 := ⟨List.mem_of_getElem? (i := 1135) (by decide +kernel), it_X12, ⟨by decide +kernel, by decide +kernel, by decide +kernel⟩, Nat.le_of_ble_eq_true rfl⟩
theorem st_X12_isWay : Cond.static mX12_isWay.1 ∈ lw_tbl := List.mem_of_getElem? (i := 1134) (by decide +kernel)
theorem mk_X12_odds : ab_mk mX12_odds 2 := ⟨List.mem_of_getElem? (i := 1132) (by decide +kernel), it_X12, ⟨by decide +kernel, by decide +kernel, by decide +kernel⟩, Nat.le_of_ble_eq_true rfl⟩
theorem im_X12_odds : Cond.instanceMethod mX12_odds.1 ∈ lw_tbl := List.mem_of_getElem? (i := 1130) (by decide +kernel)
theorem se_X12_odds : Cond.selects mX12_odds.1.cls mX12_odds.1 mX12_odds.1 ∈ lw_tbl := List.mem_of_getElem? (i := 1131) (by decide +kernel)
theorem mk_X12_rulesAtFirst : ab_mk mX12_rulesAtFirst 0 := ⟨List.mem_of_getElem? (i := 937) (by decide +kernel), it_X12, ⟨by decide +kernel, by decide +kernel, by decide +kernel⟩, Nat.le_of_ble_eq_true rfl⟩
theorem im_X12_rulesAtFirst : Cond.instanceMethod mX12_rulesAtFirst.1 ∈ lw_tbl := List.mem_of_getElem? (i := 936) (by decide +kernel)
theorem se_X12_rulesAtFirst : Cond.selects mX12_rulesAtFirst.1.cls mX12_rulesAtFirst.1 mX12_rulesAtFirst.1 ∈ lw_tbl := List.mem_of_getElem? (i := 18) (by decide +kernel)
theorem mk_X12_rule : ab_mk mX12_rule 3 := ⟨List.mem_of_getElem? (i := 1152) (by decide +kernel), it_X12, ⟨by decide +kernel, by decide +kernel, by decide +kernel⟩, Nat.le_of_ble_eq_true rfl⟩
theorem im_X12_rule : Cond.instanceMethod mX12_rule.1 ∈ lw_tbl := List.mem_of_getElem? (i := 1150) (by decide +kernel)
theorem se_X12_rule : Cond.selects mX12_rule.1.cls mX12_rule.1 mX12_rule.1 ∈ lw_tbl := List.mem_of_getElem? (i := 1151) (by decide +kernel)
theorem mk_X12_begins : ab_mk mX12_begins 1 := ⟨List.mem_of_getElem? (i := 1160) (by decide +kernel), it_X12, ⟨by decide +kernel, by decide +kernel, by decide +kernel⟩, Nat.le_of_ble_eq_true rfl⟩
theorem im_X12_begins : Cond.instanceMethod mX12_begins.1 ∈ lw_tbl := List.mem_of_getElem? (i := 1159) (by decide +kernel)
theorem se_X12_begins : Cond.selects mX12_begins.1.cls mX12_begins.1 mX12_begins.1 ∈ lw_tbl := List.mem_of_getElem? (i := 29) (by decide +kernel)
theorem mk_X12_fallsAll : ab_mk mX12_fallsAll 0 := ⟨List.mem_of_getElem? (i := 1164) (by decide +kernel), it_X12, ⟨by decide +kernel, by decide +kernel, by decide +kernel⟩, Nat.le_of_ble_eq_true rfl⟩
theorem im_X12_fallsAll : Cond.instanceMethod mX12_fallsAll.1 ∈ lw_tbl := List.mem_of_getElem? (i := 1163) (by decide +kernel)
theorem se_X12_fallsAll : Cond.selects mX12_fallsAll.1.cls mX12_fallsAll.1 mX12_fallsAll.1 ∈ lw_tbl := List.mem_of_getElem? (i := 30) (by decide +kernel)
theorem mk_X12_behind : ab_mk mX12_behind 3 := ⟨List.mem_of_getElem? (i := 1156) (by decide +kernel), it_X12, ⟨by decide +kernel, by decide +kernel, by decide +kernel⟩, Nat.le_of_ble_eq_true rfl⟩
theorem im_X12_behind : Cond.instanceMethod mX12_behind.1 ∈ lw_tbl := List.mem_of_getElem? (i := 1154) (by decide +kernel)
theorem se_X12_behind : Cond.selects mX12_behind.1.cls mX12_behind.1 mX12_behind.1 ∈ lw_tbl := List.mem_of_getElem? (i := 1155) (by decide +kernel)
theorem mk_X12_address : ab_mk mX12_address 3 := ⟨List.mem_of_getElem? (i := 1168) (by decide +kernel), it_X12, ⟨by decide +kernel, by decide +kernel, by decide +kernel⟩, Nat.le_of_ble_eq_true rfl⟩
theorem im_X12_address : Cond.instanceMethod mX12_address.1 ∈ lw_tbl := List.mem_of_getElem? (i := 1166) (by decide +kernel)
theorem se_X12_address : Cond.selects mX12_address.1.cls mX12_address.1 mX12_address.1 ∈ lw_tbl := List.mem_of_getElem? (i := 1167) (by decide +kernel)
theorem mk_X12_leads : ab_mk mX12_leads 1 := ⟨List.mem_of_getElem? (i := 1180) (by decide +kernel), it_X12, ⟨by decide +kernel, by decide +kernel, by decide +kernel⟩, Nat.le_of_ble_eq_true rfl⟩
theorem im_X12_leads : Cond.instanceMethod mX12_leads.1 ∈ lw_tbl := List.mem_of_getElem? (i := 1179) (by decide +kernel)
theorem se_X12_leads : Cond.selects mX12_leads.1.cls mX12_leads.1 mX12_leads.1 ∈ lw_tbl := List.mem_of_getElem? (i := 32) (by decide +kernel)
theorem mk_X12_leastAlike : ab_mk mX12_leastAlike 0 := ⟨List.mem_of_getElem? (i := 1176) (by decide +kernel), it_X12, ⟨by decide +kernel, by decide +kernel, by decide +kernel⟩, Nat.le_of_ble_eq_true rfl⟩
theorem im_X12_leastAlike : Cond.instanceMethod mX12_leastAlike.1 ∈ lw_tbl := List.mem_of_getElem? (i := 1175) (by decide +kernel)
theorem se_X12_leastAlike : Cond.selects mX12_leastAlike.1.cls mX12_leastAlike.1 mX12_leastAlike.1 ∈ lw_tbl := List.mem_of_getElem? (i := 31) (by decide +kernel)
theorem mk_X12_meet : ab_mk mX12_meet 3 := ⟨List.mem_of_getElem? (i := 1172) (by decide +kernel), it_X12, ⟨by decide +kernel, by decide +kernel, by decide +kernel⟩, Nat.le_of_ble_eq_true rfl⟩
theorem im_X12_meet : Cond.instanceMethod mX12_meet.1 ∈ lw_tbl := List.mem_of_getElem? (i := 1170) (by decide +kernel)
theorem se_X12_meet : Cond.selects mX12_meet.1.cls mX12_meet.1 mX12_meet.1 ∈ lw_tbl := List.mem_of_getElem? (i := 1171) (by decide +kernel)
theorem mk_X12_steady : ab_mk mX12_steady 1 := ⟨List.mem_of_getElem? (i := 1184) (by decide +kernel), it_X12, ⟨by decide +kernel, by decide +kernel, by decide +kernel⟩, Nat.le_of_ble_eq_true rfl⟩
theorem im_X12_steady : Cond.instanceMethod mX12_steady.1 ∈ lw_tbl := List.mem_of_getElem? (i := 1182) (by decide +kernel)
theorem se_X12_steady : Cond.selects mX12_steady.1.cls mX12_steady.1 mX12_steady.1 ∈ lw_tbl := List.mem_of_getElem? (i := 1183) (by decide +kernel)
theorem mk_X12_falls : ab_mk mX12_falls 1 := ⟨List.mem_of_getElem? (i := 1191) (by decide +kernel), it_X12, ⟨by decide +kernel, by decide +kernel, by decide +kernel⟩, Nat.le_of_ble_eq_true rfl⟩
theorem im_X12_falls : Cond.instanceMethod mX12_falls.1 ∈ lw_tbl := List.mem_of_getElem? (i := 1189) (by decide +kernel)
theorem se_X12_falls : Cond.selects mX12_falls.1.cls mX12_falls.1 mX12_falls.1 ∈ lw_tbl := List.mem_of_getElem? (i := 1190) (by decide +kernel)
theorem mk_X12_lots : ab_mk mX12_lots 4 := ⟨List.mem_of_getElem? (i := 1195) (by decide +kernel), it_X12, ⟨by decide +kernel, by decide +kernel, by decide +kernel⟩, Nat.le_of_ble_eq_true rfl⟩
theorem im_X12_lots : Cond.instanceMethod mX12_lots.1 ∈ lw_tbl := List.mem_of_getElem? (i := 1193) (by decide +kernel)
theorem se_X12_lots : Cond.selects mX12_lots.1.cls mX12_lots.1 mX12_lots.1 ∈ lw_tbl := List.mem_of_getElem? (i := 1194) (by decide +kernel)
theorem mk_X12_comesPoint : ab_mk mX12_comesPoint 4 := ⟨List.mem_of_getElem? (i := 1206) (by decide +kernel), it_X12, ⟨by decide +kernel, by decide +kernel, by decide +kernel⟩, Nat.le_of_ble_eq_true rfl⟩
theorem im_X12_comesPoint : Cond.instanceMethod mX12_comesPoint.1 ∈ lw_tbl := List.mem_of_getElem? (i := 1205) (by decide +kernel)
theorem se_X12_comesPoint : Cond.selects mX12_comesPoint.1.cls mX12_comesPoint.1 mX12_comesPoint.1 ∈ lw_tbl := List.mem_of_getElem? (i := 33) (by decide +kernel)
theorem mk_X12_point : ab_mk mX12_point 2 := ⟨List.mem_of_getElem? (i := 1202) (by decide +kernel), it_X12, ⟨by decide +kernel, by decide +kernel, by decide +kernel⟩, Nat.le_of_ble_eq_true rfl⟩
theorem im_X12_point : Cond.instanceMethod mX12_point.1 ∈ lw_tbl := List.mem_of_getElem? (i := 1200) (by decide +kernel)
theorem se_X12_point : Cond.selects mX12_point.1.cls mX12_point.1 mX12_point.1 ∈ lw_tbl := List.mem_of_getElem? (i := 1201) (by decide +kernel)
theorem mk_X12_twos : ab_mk mX12_twos 1 := ⟨List.mem_of_getElem? (i := 1225) (by decide +kernel), it_X12, ⟨by decide +kernel, by decide +kernel, by decide +kernel⟩, Nat.le_of_ble_eq_true rfl⟩
theorem st_X12_twos : Cond.static mX12_twos.1 ∈ lw_tbl := List.mem_of_getElem? (i := 1224) (by decide +kernel)
theorem mk_X12_valuation : ab_mk mX12_valuation 2 := ⟨List.mem_of_getElem? (i := 1222) (by decide +kernel), it_X12, ⟨by decide +kernel, by decide +kernel, by decide +kernel⟩, Nat.le_of_ble_eq_true rfl⟩
theorem st_X12_valuation : Cond.static mX12_valuation.1 ∈ lw_tbl := List.mem_of_getElem? (i := 1221) (by decide +kernel)
theorem mk_X12_valuationOf : ab_mk mX12_valuationOf 2 := ⟨List.mem_of_getElem? (i := 1219) (by decide +kernel), it_X12, ⟨by decide +kernel, by decide +kernel, by decide +kernel⟩, Nat.le_of_ble_eq_true rfl⟩
theorem im_X12_valuationOf : Cond.instanceMethod mX12_valuationOf.1 ∈ lw_tbl := List.mem_of_getElem? (i := 1218) (by decide +kernel)
theorem se_X12_valuationOf : Cond.selects mX12_valuationOf.1.cls mX12_valuationOf.1 mX12_valuationOf.1 ∈ lw_tbl := List.mem_of_getElem? (i := 35) (by decide +kernel)
theorem mk_X12_colourBy : ab_mk mX12_colourBy 2 := ⟨List.mem_of_getElem? (i := 1235) (by decide +kernel), it_X12, ⟨by decide +kernel, by decide +kernel, by decide +kernel⟩, Nat.le_of_ble_eq_true rfl⟩
theorem st_X12_colourBy : Cond.static mX12_colourBy.1 ∈ lw_tbl := List.mem_of_getElem? (i := 1234) (by decide +kernel)
theorem mk_X12_isPoint : ab_mk mX12_isPoint 1 := ⟨List.mem_of_getElem? (i := 1214) (by decide +kernel), it_X12, ⟨by decide +kernel, by decide +kernel, by decide +kernel⟩, Nat.le_of_ble_eq_true rfl⟩
theorem im_X12_isPoint : Cond.instanceMethod mX12_isPoint.1 ∈ lw_tbl := List.mem_of_getElem? (i := 1213) (by decide +kernel)
theorem se_X12_isPoint : Cond.selects mX12_isPoint.1.cls mX12_isPoint.1 mX12_isPoint.1 ∈ lw_tbl := List.mem_of_getElem? (i := 34) (by decide +kernel)
theorem mk_X12_colour : ab_mk mX12_colour 2 := ⟨List.mem_of_getElem? (i := 1210) (by decide +kernel), it_X12, ⟨by decide +kernel, by decide +kernel, by decide +kernel⟩, Nat.le_of_ble_eq_true rfl⟩
theorem im_X12_colour : Cond.instanceMethod mX12_colour.1 ∈ lw_tbl := List.mem_of_getElem? (i := 1208) (by decide +kernel)
theorem se_X12_colour : Cond.selects mX12_colour.1.cls mX12_colour.1 mX12_colour.1 ∈ lw_tbl := List.mem_of_getElem? (i := 1209) (by decide +kernel)
theorem mk_X12_comesTriangle : ab_mk mX12_comesTriangle 4 := ⟨List.mem_of_getElem? (i := 1248) (by decide +kernel), it_X12, ⟨by decide +kernel, by decide +kernel, by decide +kernel⟩, Nat.le_of_ble_eq_true rfl⟩
theorem im_X12_comesTriangle : Cond.instanceMethod mX12_comesTriangle.1 ∈ lw_tbl := List.mem_of_getElem? (i := 1247) (by decide +kernel)
theorem se_X12_comesTriangle : Cond.selects mX12_comesTriangle.1.cls mX12_comesTriangle.1 mX12_comesTriangle.1 ∈ lw_tbl := List.mem_of_getElem? (i := 37) (by decide +kernel)
theorem mk_X12_areThree : ab_mk mX12_areThree 3 := ⟨List.mem_of_getElem? (i := 1244) (by decide +kernel), it_X12, ⟨by decide +kernel, by decide +kernel, by decide +kernel⟩, Nat.le_of_ble_eq_true rfl⟩
theorem im_X12_areThree : Cond.instanceMethod mX12_areThree.1 ∈ lw_tbl := List.mem_of_getElem? (i := 1243) (by decide +kernel)
theorem se_X12_areThree : Cond.selects mX12_areThree.1.cls mX12_areThree.1 mX12_areThree.1 ∈ lw_tbl := List.mem_of_getElem? (i := 36) (by decide +kernel)
theorem mk_X12_triangle : ab_mk mX12_triangle 4 := ⟨List.mem_of_getElem? (i := 1239) (by decide +kernel), it_X12, ⟨by decide +kernel, by decide +kernel, by decide +kernel⟩, Nat.le_of_ble_eq_true rfl⟩
theorem im_X12_triangle : Cond.instanceMethod mX12_triangle.1 ∈ lw_tbl := List.mem_of_getElem? (i := 1237) (by decide +kernel)
theorem se_X12_triangle : Cond.selects mX12_triangle.1.cls mX12_triangle.1 mX12_triangle.1 ∈ lw_tbl := List.mem_of_getElem? (i := 1238) (by decide +kernel)
theorem mk_X12_isUnder : ab_mk mX12_isUnder 2 := ⟨List.mem_of_getElem? (i := 1263) (by decide +kernel), it_X12, ⟨by decide +kernel, by decide +kernel, by decide +kernel⟩, Nat.le_of_ble_eq_true rfl⟩
theorem st_X12_isUnder : Cond.static mX12_isUnder.1 ∈ lw_tbl := List.mem_of_getElem? (i := 1262) (by decide +kernel)
theorem mk_X12_tells : ab_mk mX12_tells 2 := ⟨List.mem_of_getElem? (i := 1291) (by decide +kernel), it_X12, ⟨by decide +kernel, by decide +kernel, by decide +kernel⟩, Nat.le_of_ble_eq_true rfl⟩
theorem im_X12_tells : Cond.instanceMethod mX12_tells.1 ∈ lw_tbl := List.mem_of_getElem? (i := 1290) (by decide +kernel)
theorem se_X12_tells : Cond.selects mX12_tells.1.cls mX12_tells.1 mX12_tells.1 ∈ lw_tbl := List.mem_of_getElem? (i := 46) (by decide +kernel)
theorem mk_X12_over : ab_mk mX12_over 2 := ⟨List.mem_of_getElem? (i := 1279) (by decide +kernel), it_X12, ⟨by decide +kernel, by decide +kernel, by decide +kernel⟩, Nat.le_of_ble_eq_true rfl⟩
theorem im_X12_over : Cond.instanceMethod mX12_over.1 ∈ lw_tbl := List.mem_of_getElem? (i := 1278) (by decide +kernel)
theorem se_X12_over : Cond.selects mX12_over.1.cls mX12_over.1 mX12_over.1 ∈ lw_tbl := List.mem_of_getElem? (i := 43) (by decide +kernel)
theorem mk_X12_under : ab_mk mX12_under 2 := ⟨List.mem_of_getElem? (i := 1283) (by decide +kernel), it_X12, ⟨by decide +kernel, by decide +kernel, by decide +kernel⟩, Nat.le_of_ble_eq_true rfl⟩
theorem im_X12_under : Cond.instanceMethod mX12_under.1 ∈ lw_tbl := List.mem_of_getElem? (i := 1282) (by decide +kernel)
theorem se_X12_under : Cond.selects mX12_under.1.cls mX12_under.1 mX12_under.1 ∈ lw_tbl := List.mem_of_getElem? (i := 44) (by decide +kernel)
theorem mk_X12_more : ab_mk mX12_more 3 := ⟨List.mem_of_getElem? (i := 1275) (by decide +kernel), it_X12, ⟨by decide +kernel, by decide +kernel, by decide +kernel⟩, Nat.le_of_ble_eq_true rfl⟩
theorem im_X12_more : Cond.instanceMethod mX12_more.1 ∈ lw_tbl := List.mem_of_getElem? (i := 1274) (by decide +kernel)
theorem se_X12_more : Cond.selects mX12_more.1.cls mX12_more.1 mX12_more.1 ∈ lw_tbl := List.mem_of_getElem? (i := 42) (by decide +kernel)
theorem mk_X12_belowOf : ab_mk mX12_belowOf 3 := ⟨List.mem_of_getElem? (i := 1287) (by decide +kernel), it_X12, ⟨by decide +kernel, by decide +kernel, by decide +kernel⟩, Nat.le_of_ble_eq_true rfl⟩
theorem im_X12_belowOf : Cond.instanceMethod mX12_belowOf.1 ∈ lw_tbl := List.mem_of_getElem? (i := 1286) (by decide +kernel)
theorem se_X12_belowOf : Cond.selects mX12_belowOf.1.cls mX12_belowOf.1 mX12_belowOf.1 ∈ lw_tbl := List.mem_of_getElem? (i := 45) (by decide +kernel)
theorem mk_X12_areaOf : ab_mk mX12_areaOf 1 := ⟨List.mem_of_getElem? (i := 1271) (by decide +kernel), it_X12, ⟨by decide +kernel, by decide +kernel, by decide +kernel⟩, Nat.le_of_ble_eq_true rfl⟩
theorem im_X12_areaOf : Cond.instanceMethod mX12_areaOf.1 ∈ lw_tbl := List.mem_of_getElem? (i := 1270) (by decide +kernel)
theorem se_X12_areaOf : Cond.selects mX12_areaOf.1.cls mX12_areaOf.1 mX12_areaOf.1 ∈ lw_tbl := List.mem_of_getElem? (i := 41) (by decide +kernel)
theorem mk_X12_coloursOf : ab_mk mX12_coloursOf 1 := ⟨List.mem_of_getElem? (i := 1260) (by decide +kernel), it_X12, ⟨by decide +kernel, by decide +kernel, by decide +kernel⟩, Nat.le_of_ble_eq_true rfl⟩
theorem im_X12_coloursOf : Cond.instanceMethod mX12_coloursOf.1 ∈ lw_tbl := List.mem_of_getElem? (i := 1259) (by decide +kernel)
theorem se_X12_coloursOf : Cond.selects mX12_coloursOf.1.cls mX12_coloursOf.1 mX12_coloursOf.1 ∈ lw_tbl := List.mem_of_getElem? (i := 39) (by decide +kernel)
theorem mk_X12_areaValuation : ab_mk mX12_areaValuation 1 := ⟨List.mem_of_getElem? (i := 1267) (by decide +kernel), it_X12, ⟨by decide +kernel, by decide +kernel, by decide +kernel⟩, Nat.le_of_ble_eq_true rfl⟩
theorem im_X12_areaValuation : Cond.instanceMethod mX12_areaValuation.1 ∈ lw_tbl := List.mem_of_getElem? (i := 1266) (by decide +kernel)
theorem se_X12_areaValuation : Cond.selects mX12_areaValuation.1.cls mX12_areaValuation.1 mX12_areaValuation.1 ∈ lw_tbl := List.mem_of_getElem? (i := 40) (by decide +kernel)
theorem mk_X12_isTriangle : ab_mk mX12_isTriangle 1 := ⟨List.mem_of_getElem? (i := 1256) (by decide +kernel), it_X12, ⟨by decide +kernel, by decide +kernel, by decide +kernel⟩, Nat.le_of_ble_eq_true rfl⟩
theorem im_X12_isTriangle : Cond.instanceMethod mX12_isTriangle.1 ∈ lw_tbl := List.mem_of_getElem? (i := 1255) (by decide +kernel)
theorem se_X12_isTriangle : Cond.selects mX12_isTriangle.1.cls mX12_isTriangle.1 mX12_isTriangle.1 ∈ lw_tbl := List.mem_of_getElem? (i := 38) (by decide +kernel)
theorem mk_X12_tri : ab_mk mX12_tri 2 := ⟨List.mem_of_getElem? (i := 1252) (by decide +kernel), it_X12, ⟨by decide +kernel, by decide +kernel, by decide +kernel⟩, Nat.le_of_ble_eq_true rfl⟩
theorem im_X12_tri : Cond.instanceMethod mX12_tri.1 ∈ lw_tbl := List.mem_of_getElem? (i := 1250) (by decide +kernel)
theorem se_X12_tri : Cond.selects mX12_tri.1.cls mX12_tri.1 mX12_tri.1 ∈ lw_tbl := List.mem_of_getElem? (i := 1251) (by decide +kernel)
theorem mk_X12_area : ab_mk mX12_area 2 := ⟨List.mem_of_getElem? (i := 1297) (by decide +kernel), it_X12, ⟨by decide +kernel, by decide +kernel, by decide +kernel⟩, Nat.le_of_ble_eq_true rfl⟩
theorem im_X12_area : Cond.instanceMethod mX12_area.1 ∈ lw_tbl := List.mem_of_getElem? (i := 1295) (by decide +kernel)
theorem se_X12_area : Cond.selects mX12_area.1.cls mX12_area.1 mX12_area.1 ∈ lw_tbl := List.mem_of_getElem? (i := 1296) (by decide +kernel)
theorem mk_X12_isSet : ab_mk mX12_isSet 1 := ⟨List.mem_of_getElem? (i := 1305) (by decide +kernel), it_X12, ⟨by decide +kernel, by decide +kernel, by decide +kernel⟩, Nat.le_of_ble_eq_true rfl⟩
theorem im_X12_isSet : Cond.instanceMethod mX12_isSet.1 ∈ lw_tbl := List.mem_of_getElem? (i := 1304) (by decide +kernel)
theorem se_X12_isSet : Cond.selects mX12_isSet.1.cls mX12_isSet.1 mX12_isSet.1 ∈ lw_tbl := List.mem_of_getElem? (i := 47) (by decide +kernel)
theorem mk_X12_isGreat : ab_mk mX12_isGreat 0 := ⟨List.mem_of_getElem? (i := 1309) (by decide +kernel), it_X12, ⟨by decide +kernel, by decide +kernel, by decide +kernel⟩, Nat.le_of_ble_eq_true rfl⟩
theorem im_X12_isGreat : Cond.instanceMethod mX12_isGreat.1 ∈ lw_tbl := List.mem_of_getElem? (i := 1308) (by decide +kernel)
theorem se_X12_isGreat : Cond.selects mX12_isGreat.1.cls mX12_isGreat.1 mX12_isGreat.1 ∈ lw_tbl := List.mem_of_getElem? (i := 48) (by decide +kernel)
theorem mk_X12_sum : ab_mk mX12_sum 2 := ⟨List.mem_of_getElem? (i := 1301) (by decide +kernel), it_X12, ⟨by decide +kernel, by decide +kernel, by decide +kernel⟩, Nat.le_of_ble_eq_true rfl⟩
theorem im_X12_sum : Cond.instanceMethod mX12_sum.1 ∈ lw_tbl := List.mem_of_getElem? (i := 1299) (by decide +kernel)
theorem se_X12_sum : Cond.selects mX12_sum.1.cls mX12_sum.1 mX12_sum.1 ∈ lw_tbl := List.mem_of_getElem? (i := 1300) (by decide +kernel)
theorem mk_X12_evens : ab_mk mX12_evens 1 := ⟨List.mem_of_getElem? (i := 1318) (by decide +kernel), it_X12, ⟨by decide +kernel, by decide +kernel, by decide +kernel⟩, Nat.le_of_ble_eq_true rfl⟩
theorem im_X12_evens : Cond.instanceMethod mX12_evens.1 ∈ lw_tbl := List.mem_of_getElem? (i := 1317) (by decide +kernel)
theorem se_X12_evens : Cond.selects mX12_evens.1.cls mX12_evens.1 mX12_evens.1 ∈ lw_tbl := List.mem_of_getElem? (i := 49) (by decide +kernel)
theorem mk_X12_rainbows : ab_mk mX12_rainbows 1 := ⟨List.mem_of_getElem? (i := 1322) (by decide +kernel), it_X12, ⟨by decide +kernel, by decide +kernel, by decide +kernel⟩, Nat.le_of_ble_eq_true rfl⟩
theorem im_X12_rainbows : Cond.instanceMethod mX12_rainbows.1 ∈ lw_tbl := List.mem_of_getElem? (i := 1321) (by decide +kernel)
theorem se_X12_rainbows : Cond.selects mX12_rainbows.1.cls mX12_rainbows.1 mX12_rainbows.1 ∈ lw_tbl := List.mem_of_getElem? (i := 50) (by decide +kernel)
theorem mk_X12_isAlike : ab_mk mX12_isAlike 1 := ⟨List.mem_of_getElem? (i := 1326) (by decide +kernel), it_X12, ⟨by decide +kernel, by decide +kernel, by decide +kernel⟩, Nat.le_of_ble_eq_true rfl⟩
theorem im_X12_isAlike : Cond.instanceMethod mX12_isAlike.1 ∈ lw_tbl := List.mem_of_getElem? (i := 1325) (by decide +kernel)
theorem se_X12_isAlike : Cond.selects mX12_isAlike.1.cls mX12_isAlike.1 mX12_isAlike.1 ∈ lw_tbl := List.mem_of_getElem? (i := 51) (by decide +kernel)
theorem mk_X12_even : ab_mk mX12_even 2 := ⟨List.mem_of_getElem? (i := 1314) (by decide +kernel), it_X12, ⟨by decide +kernel, by decide +kernel, by decide +kernel⟩, Nat.le_of_ble_eq_true rfl⟩
theorem im_X12_even : Cond.instanceMethod mX12_even.1 ∈ lw_tbl := List.mem_of_getElem? (i := 1312) (by decide +kernel)
theorem se_X12_even : Cond.selects mX12_even.1.cls mX12_even.1 mX12_even.1 ∈ lw_tbl := List.mem_of_getElem? (i := 1313) (by decide +kernel)
theorem mk_X12_floatOf : ab_mk mX12_floatOf 1 := ⟨List.mem_of_getElem? (i := 1334) (by decide +kernel), it_X12, ⟨by decide +kernel, by decide +kernel, by decide +kernel⟩, Nat.le_of_ble_eq_true rfl⟩
theorem im_X12_floatOf : Cond.instanceMethod mX12_floatOf.1 ∈ lw_tbl := List.mem_of_getElem? (i := 1333) (by decide +kernel)
theorem se_X12_floatOf : Cond.selects mX12_floatOf.1.cls mX12_floatOf.1 mX12_floatOf.1 ∈ lw_tbl := List.mem_of_getElem? (i := 52) (by decide +kernel)
theorem mk_X12_bits : ab_mk mX12_bits 1 := ⟨List.mem_of_getElem? (i := 1330) (by decide +kernel), it_X12, ⟨by decide +kernel, by decide +kernel, by decide +kernel⟩, Nat.le_of_ble_eq_true rfl⟩
theorem im_X12_bits : Cond.instanceMethod mX12_bits.1 ∈ lw_tbl := List.mem_of_getElem? (i := 1328) (by decide +kernel)
theorem se_X12_bits : Cond.selects mX12_bits.1.cls mX12_bits.1 mX12_bits.1 ∈ lw_tbl := List.mem_of_getElem? (i := 1329) (by decide +kernel)
theorem mk_X12_bitsOf : ab_mk mX12_bitsOf 2 := ⟨List.mem_of_getElem? (i := 1348) (by decide +kernel), it_X12, ⟨by decide +kernel, by decide +kernel, by decide +kernel⟩, Nat.le_of_ble_eq_true rfl⟩
theorem im_X12_bitsOf : Cond.instanceMethod mX12_bitsOf.1 ∈ lw_tbl := List.mem_of_getElem? (i := 1346) (by decide +kernel)
theorem se_X12_bitsOf : Cond.selects mX12_bitsOf.1.cls mX12_bitsOf.1 mX12_bitsOf.1 ∈ lw_tbl := List.mem_of_getElem? (i := 1347) (by decide +kernel)
theorem mk_X12_longBits : ab_mk mX12_longBits 1 := ⟨List.mem_of_getElem? (i := 1353) (by decide +kernel), it_X12, ⟨by decide +kernel, by decide +kernel, by decide +kernel⟩, Nat.le_of_ble_eq_true rfl⟩
theorem im_X12_longBits : Cond.instanceMethod mX12_longBits.1 ∈ lw_tbl := List.mem_of_getElem? (i := 1351) (by decide +kernel)
theorem se_X12_longBits : Cond.selects mX12_longBits.1.cls mX12_longBits.1 mX12_longBits.1 ∈ lw_tbl := List.mem_of_getElem? (i := 1352) (by decide +kernel)
theorem mk_X12_isRack : ab_mk mX12_isRack 1 := ⟨List.mem_of_getElem? (i := 1370) (by decide +kernel), it_X12, ⟨by decide +kernel, by decide +kernel, by decide +kernel⟩, Nat.le_of_ble_eq_true rfl⟩
theorem st_X12_isRack : Cond.static mX12_isRack.1 ∈ lw_tbl := List.mem_of_getElem? (i := 1369) (by decide +kernel)
theorem mk_X12_rack : ab_mk mX12_rack 3 := ⟨List.mem_of_getElem? (i := 1367) (by decide +kernel), it_X12, ⟨by decide +kernel, by decide +kernel, by decide +kernel⟩, Nat.le_of_ble_eq_true rfl⟩
theorem im_X12_rack : Cond.instanceMethod mX12_rack.1 ∈ lw_tbl := List.mem_of_getElem? (i := 1365) (by decide +kernel)
theorem se_X12_rack : Cond.selects mX12_rack.1.cls mX12_rack.1 mX12_rack.1 ∈ lw_tbl := List.mem_of_getElem? (i := 1366) (by decide +kernel)
theorem mk_X12_racks : ab_mk mX12_racks 3 := ⟨List.mem_of_getElem? (i := 1374) (by decide +kernel), it_X12, ⟨by decide +kernel, by decide +kernel, by decide +kernel⟩, Nat.le_of_ble_eq_true rfl⟩
theorem im_X12_racks : Cond.instanceMethod mX12_racks.1 ∈ lw_tbl := List.mem_of_getElem? (i := 1372) (by decide +kernel)
theorem se_X12_racks : Cond.selects mX12_racks.1.cls mX12_racks.1 mX12_racks.1 ∈ lw_tbl := List.mem_of_getElem? (i := 1373) (by decide +kernel)
theorem mk_X12_racked : ab_mk mX12_racked 3 := ⟨List.mem_of_getElem? (i := 1378) (by decide +kernel), it_X12, ⟨by decide +kernel, by decide +kernel, by decide +kernel⟩, Nat.le_of_ble_eq_true rfl⟩
theorem im_X12_racked : Cond.instanceMethod mX12_racked.1 ∈ lw_tbl := List.mem_of_getElem? (i := 1376) (by decide +kernel)
theorem se_X12_racked : Cond.selects mX12_racked.1.cls mX12_racked.1 mX12_racked.1 ∈ lw_tbl := List.mem_of_getElem? (i := 1377) (by decide +kernel)
theorem mk_X12_like : ab_mk mX12_like 2 := ⟨List.mem_of_getElem? (i := 1382) (by decide +kernel), it_X12, ⟨by decide +kernel, by decide +kernel, by decide +kernel⟩, Nat.le_of_ble_eq_true rfl⟩
theorem im_X12_like : Cond.instanceMethod mX12_like.1 ∈ lw_tbl := List.mem_of_getElem? (i := 1380) (by decide +kernel)
theorem se_X12_like : Cond.selects mX12_like.1.cls mX12_like.1 mX12_like.1 ∈ lw_tbl := List.mem_of_getElem? (i := 1381) (by decide +kernel)
theorem mk_X12_isList : ab_mk mX12_isList 1 := ⟨List.mem_of_getElem? (i := 1389) (by decide +kernel), it_X12, ⟨by decide +kernel, by decide +kernel, by decide +kernel⟩, Nat.le_of_ble_eq_true rfl⟩
theorem st_X12_isList : Cond.static mX12_isList.1 ∈ lw_tbl := List.mem_of_getElem? (i := 1388) (by decide +kernel)
theorem mk_X12_list : ab_mk mX12_list 2 := ⟨List.mem_of_getElem? (i := 1386) (by decide +kernel), it_X12, ⟨by decide +kernel, by decide +kernel, by decide +kernel⟩, Nat.le_of_ble_eq_true rfl⟩
theorem im_X12_list : Cond.instanceMethod mX12_list.1 ∈ lw_tbl := List.mem_of_getElem? (i := 1384) (by decide +kernel)
theorem se_X12_list : Cond.selects mX12_list.1.cls mX12_list.1 mX12_list.1 ∈ lw_tbl := List.mem_of_getElem? (i := 1385) (by decide +kernel)
theorem mk_X12_put : ab_mk mX12_put 3 := ⟨List.mem_of_getElem? (i := 1393) (by decide +kernel), it_X12, ⟨by decide +kernel, by decide +kernel, by decide +kernel⟩, Nat.le_of_ble_eq_true rfl⟩
theorem im_X12_put : Cond.instanceMethod mX12_put.1 ∈ lw_tbl := List.mem_of_getElem? (i := 1391) (by decide +kernel)
theorem se_X12_put : Cond.selects mX12_put.1.cls mX12_put.1 mX12_put.1 ∈ lw_tbl := List.mem_of_getElem? (i := 1392) (by decide +kernel)
theorem mk_X12_look : ab_mk mX12_look 2 := ⟨List.mem_of_getElem? (i := 1397) (by decide +kernel), it_X12, ⟨by decide +kernel, by decide +kernel, by decide +kernel⟩, Nat.le_of_ble_eq_true rfl⟩
theorem im_X12_look : Cond.instanceMethod mX12_look.1 ∈ lw_tbl := List.mem_of_getElem? (i := 1395) (by decide +kernel)
theorem se_X12_look : Cond.selects mX12_look.1.cls mX12_look.1 mX12_look.1 ∈ lw_tbl := List.mem_of_getElem? (i := 1396) (by decide +kernel)
theorem mk_X12_judge : ab_mk mX12_judge 1 := ⟨List.mem_of_getElem? (i := 1403) (by decide +kernel), it_X12, ⟨by decide +kernel, by decide +kernel, by decide +kernel⟩, Nat.le_of_ble_eq_true rfl⟩
theorem im_X12_judge : Cond.instanceMethod mX12_judge.1 ∈ lw_tbl := List.mem_of_getElem? (i := 1401) (by decide +kernel)
theorem se_X12_judge : Cond.selects mX12_judge.1.cls mX12_judge.1 mX12_judge.1 ∈ lw_tbl := List.mem_of_getElem? (i := 1402) (by decide +kernel)
theorem mk_X12_letter : ab_mk mX12_letter 1 := ⟨List.mem_of_getElem? (i := 1407) (by decide +kernel), it_X12, ⟨by decide +kernel, by decide +kernel, by decide +kernel⟩, Nat.le_of_ble_eq_true rfl⟩
theorem im_X12_letter : Cond.instanceMethod mX12_letter.1 ∈ lw_tbl := List.mem_of_getElem? (i := 1405) (by decide +kernel)
theorem se_X12_letter : Cond.selects mX12_letter.1.cls mX12_letter.1 mX12_letter.1 ∈ lw_tbl := List.mem_of_getElem? (i := 1406) (by decide +kernel)
theorem mk_X12_numbersOf : ab_mk mX12_numbersOf 1 := ⟨List.mem_of_getElem? (i := 1418) (by decide +kernel), it_X12, ⟨by decide +kernel, by decide +kernel, by decide +kernel⟩, Nat.le_of_ble_eq_true rfl⟩
theorem st_X12_numbersOf : Cond.static mX12_numbersOf.1 ∈ lw_tbl := List.mem_of_getElem? (i := 1417) (by decide +kernel)
theorem mk_X12_digitsOf : ab_mk mX12_digitsOf 2 := ⟨List.mem_of_getElem? (i := 1421) (by decide +kernel), it_X12, ⟨by decide +kernel, by decide +kernel, by decide +kernel⟩, Nat.le_of_ble_eq_true rfl⟩
theorem st_X12_digitsOf : Cond.static mX12_digitsOf.1 ∈ lw_tbl := List.mem_of_getElem? (i := 1420) (by decide +kernel)
theorem mk_X12_statement : ab_mk mX12_statement 0 := ⟨List.mem_of_getElem? (i := 1415) (by decide +kernel), it_X12, ⟨by decide +kernel, by decide +kernel, by decide +kernel⟩, Nat.le_of_ble_eq_true rfl⟩
theorem im_X12_statement : Cond.instanceMethod mX12_statement.1 ∈ lw_tbl := List.mem_of_getElem? (i := 1414) (by decide +kernel)
theorem se_X12_statement : Cond.selects mX12_statement.1.cls mX12_statement.1 mX12_statement.1 ∈ lw_tbl := List.mem_of_getElem? (i := 53) (by decide +kernel)
theorem mk_X12_isDone : ab_mk mX12_isDone 1 := ⟨List.mem_of_getElem? (i := 1431) (by decide +kernel), it_X12, ⟨by decide +kernel, by decide +kernel, by decide +kernel⟩, Nat.le_of_ble_eq_true rfl⟩
theorem im_X12_isDone : Cond.instanceMethod mX12_isDone.1 ∈ lw_tbl := List.mem_of_getElem? (i := 1430) (by decide +kernel)
theorem se_X12_isDone : Cond.selects mX12_isDone.1.cls mX12_isDone.1 mX12_isDone.1 ∈ lw_tbl := List.mem_of_getElem? (i := 55) (by decide +kernel)
theorem mk_X12_isRuled : ab_mk mX12_isRuled 0 := ⟨List.mem_of_getElem? (i := 1435) (by decide +kernel), it_X12, ⟨by decide +kernel, by decide +kernel, by decide +kernel⟩, Nat.le_of_ble_eq_true rfl⟩
theorem im_X12_isRuled : Cond.instanceMethod mX12_isRuled.1 ∈ lw_tbl := List.mem_of_getElem? (i := 1434) (by decide +kernel)
theorem se_X12_isRuled : Cond.selects mX12_isRuled.1.cls mX12_isRuled.1 mX12_isRuled.1 ∈ lw_tbl := List.mem_of_getElem? (i := 56) (by decide +kernel)
theorem mk_X12_text : ab_mk mX12_text 0 := ⟨List.mem_of_getElem? (i := 1411) (by decide +kernel), it_X12, ⟨by decide +kernel, by decide +kernel, by decide +kernel⟩, Nat.le_of_ble_eq_true rfl⟩
theorem im_X12_text : Cond.instanceMethod mX12_text.1 ∈ lw_tbl := List.mem_of_getElem? (i := 1409) (by decide +kernel)
theorem se_X12_text : Cond.selects mX12_text.1.cls mX12_text.1 mX12_text.1 ∈ lw_tbl := List.mem_of_getElem? (i := 1410) (by decide +kernel)
theorem mk_X12_done : ab_mk mX12_done 1 := ⟨List.mem_of_getElem? (i := 1427) (by decide +kernel), it_X12, ⟨by decide +kernel, by decide +kernel, by decide +kernel⟩, Nat.le_of_ble_eq_true rfl⟩
theorem im_X12_done : Cond.instanceMethod mX12_done.1 ∈ lw_tbl := List.mem_of_getElem? (i := 1426) (by decide +kernel)
theorem se_X12_done : Cond.selects mX12_done.1.cls mX12_done.1 mX12_done.1 ∈ lw_tbl := List.mem_of_getElem? (i := 54) (by decide +kernel)
theorem mk_X12_image : ab_mk mX12_image 0 := ⟨List.mem_of_getElem? (i := 1439) (by decide +kernel), it_X12, ⟨by decide +kernel, by decide +kernel, by decide +kernel⟩, Nat.le_of_ble_eq_true rfl⟩
theorem im_X12_image : Cond.instanceMethod mX12_image.1 ∈ lw_tbl := List.mem_of_getElem? (i := 1437) (by decide +kernel)
theorem se_X12_image : Cond.selects mX12_image.1.cls mX12_image.1 mX12_image.1 ∈ lw_tbl := List.mem_of_getElem? (i := 1438) (by decide +kernel)
theorem mk_X12_on : ab_mk mX12_on 0 := ⟨List.mem_of_getElem? (i := 1443) (by decide +kernel), it_X12, ⟨by decide +kernel, by decide +kernel, by decide +kernel⟩, Nat.le_of_ble_eq_true rfl⟩
theorem im_X12_on : Cond.instanceMethod mX12_on.1 ∈ lw_tbl := List.mem_of_getElem? (i := 1441) (by decide +kernel)
theorem se_X12_on : Cond.selects mX12_on.1.cls mX12_on.1 mX12_on.1 ∈ lw_tbl := List.mem_of_getElem? (i := 1442) (by decide +kernel)
theorem mk_X12_count : ab_mk mX12_count 1 := ⟨List.mem_of_getElem? (i := 1447) (by decide +kernel), it_X12, ⟨by decide +kernel, by decide +kernel, by decide +kernel⟩, Nat.le_of_ble_eq_true rfl⟩
theorem im_X12_count : Cond.instanceMethod mX12_count.1 ∈ lw_tbl := List.mem_of_getElem? (i := 1445) (by decide +kernel)
theorem se_X12_count : Cond.selects mX12_count.1.cls mX12_count.1 mX12_count.1 ∈ lw_tbl := List.mem_of_getElem? (i := 1446) (by decide +kernel)
theorem mk_Jxe99ae_isNaN_b9ae7 : ab_mk mJxe99ae_isNaN_b9ae7 1 := ⟨List.mem_of_getElem? (i := 1359) (by decide +kernel), it_Jxe99ae, ⟨by decide +kernel, by decide +kernel, by decide +kernel⟩, Nat.le_of_ble_eq_true rfl⟩
theorem st_Jxe99ae_isNaN_b9ae7 : Cond.static mJxe99ae_isNaN_b9ae7.1 ∈ lw_tbl := List.mem_of_getElem? (i := 1358) (by decide +kernel)
theorem mk_Jxe99ae_doubleToLongBits_ccdee : ab_mk mJxe99ae_doubleToLongBits_ccdee 1 := ⟨List.mem_of_getElem? (i := 1356) (by decide +kernel), it_Jxe99ae, ⟨by decide +kernel, by decide +kernel, by decide +kernel⟩, Nat.le_of_ble_eq_true rfl⟩
theorem st_Jxe99ae_doubleToLongBits_ccdee : Cond.static mJxe99ae_doubleToLongBits_ccdee.1 ∈ lw_tbl := List.mem_of_getElem? (i := 1355) (by decide +kernel)
theorem mk_Jxf58ca_isNaN_12338 : ab_mk mJxf58ca_isNaN_12338 1 := ⟨List.mem_of_getElem? (i := 1340) (by decide +kernel), it_Jxf58ca, ⟨by decide +kernel, by decide +kernel, by decide +kernel⟩, Nat.le_of_ble_eq_true rfl⟩
theorem st_Jxf58ca_isNaN_12338 : Cond.static mJxf58ca_isNaN_12338.1 ∈ lw_tbl := List.mem_of_getElem? (i := 1339) (by decide +kernel)
theorem mk_Jxf58ca_floatToIntBits_5c35a : ab_mk mJxf58ca_floatToIntBits_5c35a 1 := ⟨List.mem_of_getElem? (i := 1337) (by decide +kernel), it_Jxf58ca, ⟨by decide +kernel, by decide +kernel, by decide +kernel⟩, Nat.le_of_ble_eq_true rfl⟩
theorem st_Jxf58ca_floatToIntBits_5c35a : Cond.static mJxf58ca_floatToIntBits_5c35a.1 ∈ lw_tbl := List.mem_of_getElem? (i := 1336) (by decide +kernel)
theorem mk_J6_numberOfTrailingZeros_0f7a4 : ab_mk mJ6_numberOfTrailingZeros_0f7a4 1 := ⟨List.mem_of_getElem? (i := 1231) (by decide +kernel), it_J6, ⟨by decide +kernel, by decide +kernel, by decide +kernel⟩, Nat.le_of_ble_eq_true rfl⟩
theorem st_J6_numberOfTrailingZeros_0f7a4 : Cond.static mJ6_numberOfTrailingZeros_0f7a4.1 ∈ lw_tbl := List.mem_of_getElem? (i := 1230) (by decide +kernel)
theorem mk_J13_numberOfTrailingZeros_95d88 : ab_mk mJ13_numberOfTrailingZeros_95d88 1 := ⟨List.mem_of_getElem? (i := 1228) (by decide +kernel), it_J13, ⟨by decide +kernel, by decide +kernel, by decide +kernel⟩, Nat.le_of_ble_eq_true rfl⟩
theorem st_J13_numberOfTrailingZeros_95d88 : Cond.static mJ13_numberOfTrailingZeros_95d88.1 ∈ lw_tbl := List.mem_of_getElem? (i := 1227) (by decide +kernel)
theorem mk_J9_abs_067f4 : ab_mk mJ9_abs_067f4 1 := ⟨List.mem_of_getElem? (i := 409) (by decide +kernel), it_J9, ⟨by decide +kernel, by decide +kernel, by decide +kernel⟩, Nat.le_of_ble_eq_true rfl⟩
theorem st_J9_abs_067f4 : Cond.static mJ9_abs_067f4.1 ∈ lw_tbl := List.mem_of_getElem? (i := 408) (by decide +kernel)
theorem ml_L_9 : ab_ki RL 9 mX11_init := ⟨List.mem_of_getElem? (i := 79) (by decide +kernel), im_X11_init, by decide +kernel⟩
theorem ml_X11_1 : Cond.methodLink RX11 1 ⟨"java/lang/Object", "<init>", "()V"⟩ ∈ lw_tbl := List.mem_of_getElem? (i := 82) (by decide +kernel)
theorem ml_X11_9 : ab_ki RX11 9 mX0_init := ⟨List.mem_of_getElem? (i := 87) (by decide +kernel), im_X0_init, by decide +kernel⟩
theorem ml_X0_5 : Cond.methodLink RX0 5 ⟨"java/lang/Object", "<init>", "()V"⟩ ∈ lw_tbl := List.mem_of_getElem? (i := 90) (by decide +kernel)
theorem ml_X11_18 : ab_ki RX11 18 mX8_init := ⟨List.mem_of_getElem? (i := 136) (by decide +kernel), im_X8_init, by decide +kernel⟩
theorem ml_X8_3 : Cond.methodLink RX8 3 ⟨"java/lang/Object", "<init>", "()V"⟩ ∈ lw_tbl := List.mem_of_getElem? (i := 139) (by decide +kernel)
theorem ml_X11_25 : ab_ki RX11 25 mX9_init := ⟨List.mem_of_getElem? (i := 159) (by decide +kernel), im_X9_init, by decide +kernel⟩
theorem ml_X9_1 : Cond.methodLink RX9 1 ⟨"java/lang/Object", "<init>", "()V"⟩ ∈ lw_tbl := List.mem_of_getElem? (i := 162) (by decide +kernel)
theorem ml_X11_32 : ab_ki RX11 32 mX4_init := ⟨List.mem_of_getElem? (i := 186) (by decide +kernel), im_X4_init, by decide +kernel⟩
theorem ml_X4_5 : Cond.methodLink RX4 5 ⟨"java/lang/Object", "<init>", "()V"⟩ ∈ lw_tbl := List.mem_of_getElem? (i := 189) (by decide +kernel)
theorem ml_X11_39 : ab_ki RX11 39 mX3_init := ⟨List.mem_of_getElem? (i := 209) (by decide +kernel), im_X3_init, by decide +kernel⟩
theorem ml_X3_1 : Cond.methodLink RX3 1 ⟨"java/lang/Object", "<init>", "()V"⟩ ∈ lw_tbl := List.mem_of_getElem? (i := 212) (by decide +kernel)
theorem ml_X3_9 : ab_ki RX3 9 mX8_init := ⟨List.mem_of_getElem? (i := 214) (by decide +kernel), im_X8_init, by decide +kernel⟩
theorem ml_X3_18 : ab_ki RX3 18 mX9_init := ⟨List.mem_of_getElem? (i := 216) (by decide +kernel), im_X9_init, by decide +kernel⟩
theorem ml_X11_60 : ab_ki RX11 60 mX7_init := ⟨List.mem_of_getElem? (i := 242) (by decide +kernel), im_X7_init, by decide +kernel⟩
theorem ml_X7_1 : Cond.methodLink RX7 1 ⟨"java/lang/Object", "<init>", "()V"⟩ ∈ lw_tbl := List.mem_of_getElem? (i := 245) (by decide +kernel)
theorem ml_X11_61 : ab_ki RX11 61 mX5_init := ⟨List.mem_of_getElem? (i := 260) (by decide +kernel), im_X5_init, by decide +kernel⟩
theorem ml_X5_1 : Cond.methodLink RX5 1 ⟨"java/lang/Object", "<init>", "()V"⟩ ∈ lw_tbl := List.mem_of_getElem? (i := 263) (by decide +kernel)
theorem ml_X11_62 : ab_kv RX11 62 mX0_cutAnew := ⟨List.mem_of_getElem? (i := 273) (by decide +kernel), im_X0_cutAnew, se_X0_cutAnew⟩
theorem ml_X0_47 : ab_ks RX0 47 mX0_cutBlock := ⟨List.mem_of_getElem? (i := 277) (by decide +kernel), st_X0_cutBlock⟩
theorem ml_X0_51 : ab_kv RX0 51 mX0_lay := ⟨List.mem_of_getElem? (i := 280) (by decide +kernel), im_X0_lay, se_X0_lay⟩
theorem ml_X0_55 : ab_kv RX0 55 mX0_has := ⟨List.mem_of_getElem? (i := 284) (by decide +kernel), im_X0_has, se_X0_has⟩
theorem ml_X0_59 : ab_ks RX0 59 mX0_isCell := ⟨List.mem_of_getElem? (i := 288) (by decide +kernel), st_X0_isCell⟩
theorem ml_L_13 : ab_kv RL 13 mX11_letter := ⟨List.mem_of_getElem? (i := 316) (by decide +kernel), im_X11_letter, se_X11_letter⟩
theorem ml_X11_66 : ab_kv RX11 66 mX11_refuse := ⟨List.mem_of_getElem? (i := 320) (by decide +kernel), im_X11_refuse, se_X11_refuse⟩
theorem ml_X11_70 : ab_kv RX11 70 mX4_isFull := ⟨List.mem_of_getElem? (i := 324) (by decide +kernel), im_X4_isFull, se_X4_isFull⟩
theorem ml_X11_74 : ab_kv RX11 74 mX4_append := ⟨List.mem_of_getElem? (i := 328) (by decide +kernel), im_X4_append, se_X4_append⟩
theorem ml_L_18 : ab_kv RL 18 mX11_text := ⟨List.mem_of_getElem? (i := 332) (by decide +kernel), im_X11_text, se_X11_text⟩
theorem ml_X11_82 : ab_kv RX11 82 mX11_faultOfLetters := ⟨List.mem_of_getElem? (i := 336) (by decide +kernel), im_X11_faultOfLetters, se_X11_faultOfLetters⟩
theorem ml_X11_359 : ab_kv RX11 359 mX4_read := ⟨List.mem_of_getElem? (i := 340) (by decide +kernel), im_X4_read, se_X4_read⟩
theorem ml_X4_26 : ab_kv RX4 26 mX4_firstWrongFrom := ⟨List.mem_of_getElem? (i := 344) (by decide +kernel), im_X4_firstWrongFrom, se_X4_firstWrongFrom⟩
theorem ml_X4_30 : ab_kv RX4 30 mX4_letterAt := ⟨List.mem_of_getElem? (i := 348) (by decide +kernel), im_X4_letterAt, se_X4_letterAt⟩
theorem ml_X4_34 : ab_ks RX4 34 mX4_digitsBehind := ⟨List.mem_of_getElem? (i := 352) (by decide +kernel), st_X4_digitsBehind⟩
theorem ml_X11_362 : ab_kv RX11 362 mX11_canBe := ⟨List.mem_of_getElem? (i := 355) (by decide +kernel), im_X11_canBe, se_X11_canBe⟩
theorem ml_X11_365 : ab_kv RX11 365 mX4_letterAt := ⟨List.mem_of_getElem? (i := 359) (by decide +kernel), im_X4_letterAt, se_X4_letterAt⟩
theorem ml_X11_369 : ab_kv RX11 369 mX4_digit := ⟨List.mem_of_getElem? (i := 360) (by decide +kernel), im_X4_digit, se_X4_digit⟩
theorem ml_X11_372 : ab_kv RX11 372 mX4_twoDigits := ⟨List.mem_of_getElem? (i := 364) (by decide +kernel), im_X4_twoDigits, se_X4_twoDigits⟩
theorem ml_X4_38 : ab_kv RX4 38 mX4_digit := ⟨List.mem_of_getElem? (i := 368) (by decide +kernel), im_X4_digit, se_X4_digit⟩
theorem ml_X11_98 : ab_ks RX11 98 mX0_isCell := ⟨List.mem_of_getElem? (i := 369) (by decide +kernel), st_X0_isCell⟩
theorem ml_X11_375 : ab_kv RX11 375 mX11_areWays := ⟨List.mem_of_getElem? (i := 370) (by decide +kernel), im_X11_areWays, se_X11_areWays⟩
theorem ml_X11_139 : ab_ks RX11 139 mX11_isWay := ⟨List.mem_of_getElem? (i := 374) (by decide +kernel), st_X11_isWay⟩
theorem ml_X11_219 : ab_ks RX11 219 mX10_isKind := ⟨List.mem_of_getElem? (i := 377) (by decide +kernel), st_X10_isKind⟩
theorem ml_X11_224 : ab_ks RX11 224 mX9_areThree := ⟨List.mem_of_getElem? (i := 380) (by decide +kernel), st_X9_areThree⟩
theorem ml_X11_92 : ab_kv RX11 92 mX11_runStatement := ⟨List.mem_of_getElem? (i := 383) (by decide +kernel), im_X11_runStatement, se_X11_runStatement⟩
theorem ml_X11_164 : ab_kv RX11 164 mX8_become := ⟨List.mem_of_getElem? (i := 387) (by decide +kernel), im_X8_become, se_X8_become⟩
theorem ml_X11_378 : ab_kv RX11 378 mX4_fourDigits := ⟨List.mem_of_getElem? (i := 391) (by decide +kernel), im_X4_fourDigits, se_X4_fourDigits⟩
theorem ml_X4_41 : ab_kv RX4 41 mX4_twoDigits := ⟨List.mem_of_getElem? (i := 395) (by decide +kernel), im_X4_twoDigits, se_X4_twoDigits⟩
theorem ml_X11_192 : ab_kv RX11 192 mX9_addPoint := ⟨List.mem_of_getElem? (i := 396) (by decide +kernel), im_X9_addPoint, se_X9_addPoint⟩
theorem ml_X9_28 : ab_ks RX9 28 mX9_fractionOf := ⟨List.mem_of_getElem? (i := 401) (by decide +kernel), st_X9_fractionOf⟩
theorem ml_X9_35 : ab_ks RX9 35 mX2_inLeastTerms := ⟨List.mem_of_getElem? (i := 404) (by decide +kernel), st_X2_inLeastTerms⟩
theorem ml_X2_16 : ab_ks RX2 16 mJ9_abs_067f4 := ⟨List.mem_of_getElem? (i := 407) (by decide +kernel), st_J9_abs_067f4⟩
theorem ml_X2_22 : ab_ks RX2 22 mX2_greatestDivisor := ⟨List.mem_of_getElem? (i := 410) (by decide +kernel), st_X2_greatestDivisor⟩
theorem ml_X2_26 : ab_ki RX2 26 mX2_init := ⟨List.mem_of_getElem? (i := 415) (by decide +kernel), im_X2_init, by decide +kernel⟩
theorem ml_X2_1 : Cond.methodLink RX2 1 ⟨"java/lang/Object", "<init>", "()V"⟩ ∈ lw_tbl := List.mem_of_getElem? (i := 418) (by decide +kernel)
theorem ml_X9_32 : ab_ki RX9 32 mX6_init := ⟨List.mem_of_getElem? (i := 428) (by decide +kernel), im_X6_init, by decide +kernel⟩
theorem ml_X6_1 : Cond.methodLink RX6 1 ⟨"java/lang/Object", "<init>", "()V"⟩ ∈ lw_tbl := List.mem_of_getElem? (i := 431) (by decide +kernel)
theorem ml_X11_231 : ab_kv RX11 231 mX9_addTriangle := ⟨List.mem_of_getElem? (i := 443) (by decide +kernel), im_X9_addTriangle, se_X9_addTriangle⟩
theorem ml_X9_41 : ab_ks RX9 41 mX9_areThree := ⟨List.mem_of_getElem? (i := 447) (by decide +kernel), st_X9_areThree⟩
theorem ml_X9_45 : ab_ks RX9 45 mX10_lyingOn := ⟨List.mem_of_getElem? (i := 448) (by decide +kernel), st_X10_lyingOn⟩
theorem ml_X10_29 : ab_ks RX10 29 mX10_isUnder := ⟨List.mem_of_getElem? (i := 451) (by decide +kernel), st_X10_isUnder⟩
theorem ml_X10_83 : ab_ks RX10 83 mX10_isKind := ⟨List.mem_of_getElem? (i := 454) (by decide +kernel), st_X10_isKind⟩
theorem ml_X10_33 : ab_kv RX10 33 mX6_shade := ⟨List.mem_of_getElem? (i := 457) (by decide +kernel), im_X6_shade, se_X6_shade⟩
theorem ml_X6_16 : ab_kv RX6 16 mX2_valuation := ⟨List.mem_of_getElem? (i := 461) (by decide +kernel), im_X2_valuation, se_X2_valuation⟩
theorem ml_X2_33 : ab_ks RX2 33 mX2_twosIn := ⟨List.mem_of_getElem? (i := 465) (by decide +kernel), st_X2_twosIn⟩
theorem ml_X10_42 : ab_kv RX10 42 mX2_minus := ⟨List.mem_of_getElem? (i := 468) (by decide +kernel), im_X2_minus, se_X2_minus⟩
theorem ml_X2_29 : ab_ks RX2 29 mX2_inLeastTerms := ⟨List.mem_of_getElem? (i := 472) (by decide +kernel), st_X2_inLeastTerms⟩
theorem ml_X10_51 : ab_kv RX10 51 mX2_times := ⟨List.mem_of_getElem? (i := 473) (by decide +kernel), im_X2_times, se_X2_times⟩
theorem ml_X10_58 : ab_ks RX10 58 mJ9_abs_067f4 := ⟨List.mem_of_getElem? (i := 477) (by decide +kernel), st_J9_abs_067f4⟩
theorem ml_X10_76 : ab_ks RX10 76 mX2_inLeastTerms := ⟨List.mem_of_getElem? (i := 483) (by decide +kernel), st_X2_inLeastTerms⟩
theorem ml_X10_80 : ab_ki RX10 80 mX10_init := ⟨List.mem_of_getElem? (i := 486) (by decide +kernel), im_X10_init, by decide +kernel⟩
theorem ml_X10_1 : Cond.methodLink RX10 1 ⟨"java/lang/Object", "<init>", "()V"⟩ ∈ lw_tbl := List.mem_of_getElem? (i := 489) (by decide +kernel)
theorem ml_X11_95 : ab_kv RX11 95 mX4_clear := ⟨List.mem_of_getElem? (i := 517) (by decide +kernel), im_X4_clear, se_X4_clear⟩
theorem ml_L_23 : ab_kv RL 23 mX11_board := ⟨List.mem_of_getElem? (i := 521) (by decide +kernel), im_X11_board, se_X11_board⟩
theorem ml_L_28 : ab_kv RL 28 mX11_piece := ⟨List.mem_of_getElem? (i := 525) (by decide +kernel), im_X11_piece, se_X11_piece⟩
theorem ml_X11_105 : ab_kv RX11 105 mX0_has := ⟨List.mem_of_getElem? (i := 529) (by decide +kernel), im_X0_has, se_X0_has⟩
theorem ml_X11_109 : ab_kv RX11 109 mX0_pieceAt := ⟨List.mem_of_getElem? (i := 530) (by decide +kernel), im_X0_pieceAt, se_X0_pieceAt⟩
theorem ml_L_33 : ab_kv RL 33 mX11_of := ⟨List.mem_of_getElem? (i := 534) (by decide +kernel), im_X11_of, se_X11_of⟩
theorem ml_X11_113 : ab_kv RX11 113 mX0_hasPiece := ⟨List.mem_of_getElem? (i := 538) (by decide +kernel), im_X0_hasPiece, se_X0_hasPiece⟩
theorem ml_X11_117 : ab_kv RX11 117 mX0_wayOf := ⟨List.mem_of_getElem? (i := 542) (by decide +kernel), im_X0_wayOf, se_X0_wayOf⟩
theorem ml_X11_120 : ab_kv RX11 120 mX0_sizeOf := ⟨List.mem_of_getElem? (i := 546) (by decide +kernel), im_X0_sizeOf, se_X0_sizeOf⟩
theorem ml_X11_123 : ab_kv RX11 123 mX0_cornerX := ⟨List.mem_of_getElem? (i := 550) (by decide +kernel), im_X0_cornerX, se_X0_cornerX⟩
theorem ml_X11_126 : ab_kv RX11 126 mX0_cornerY := ⟨List.mem_of_getElem? (i := 554) (by decide +kernel), im_X0_cornerY, se_X0_cornerY⟩
theorem ml_X11_129 : ab_kv RX11 129 mX0_touching := ⟨List.mem_of_getElem? (i := 558) (by decide +kernel), im_X0_touching, se_X0_touching⟩
theorem ml_X0_63 : ab_kv RX0 63 mX0_touchAround := ⟨List.mem_of_getElem? (i := 562) (by decide +kernel), im_X0_touchAround, se_X0_touchAround⟩
theorem ml_X0_67 : ab_kv RX0 67 mX0_touch := ⟨List.mem_of_getElem? (i := 566) (by decide +kernel), im_X0_touch, se_X0_touch⟩
theorem ml_X0_70 : ab_kv RX0 70 mX0_pieceAt := ⟨List.mem_of_getElem? (i := 570) (by decide +kernel), im_X0_pieceAt, se_X0_pieceAt⟩
theorem ml_X0_74 : ab_kv RX0 74 mX0_hasPiece := ⟨List.mem_of_getElem? (i := 571) (by decide +kernel), im_X0_hasPiece, se_X0_hasPiece⟩
theorem ml_L_37 : ab_kv RL 37 mX11_within := ⟨List.mem_of_getElem? (i := 572) (by decide +kernel), im_X11_within, se_X11_within⟩
theorem ml_X11_132 : ab_kv RX11 132 mX0_inWindow := ⟨List.mem_of_getElem? (i := 576) (by decide +kernel), im_X0_inWindow, se_X0_inWindow⟩
theorem ml_L_42 : ab_kv RL 42 mX11_pieces := ⟨List.mem_of_getElem? (i := 580) (by decide +kernel), im_X11_pieces, se_X11_pieces⟩
theorem ml_X11_136 : ab_kv RX11 136 mX0_atBorder := ⟨List.mem_of_getElem? (i := 584) (by decide +kernel), im_X0_atBorder, se_X0_atBorder⟩
theorem ml_X0_78 : ab_kv RX0 78 mX0_inWindow := ⟨List.mem_of_getElem? (i := 588) (by decide +kernel), im_X0_inWindow, se_X0_inWindow⟩
theorem ml_X11_142 : ab_kv RX11 142 mX0_lyingIn := ⟨List.mem_of_getElem? (i := 589) (by decide +kernel), im_X0_lyingIn, se_X0_lyingIn⟩
theorem ml_L_46 : ab_kv RL 46 mX11_odds := ⟨List.mem_of_getElem? (i := 593) (by decide +kernel), im_X11_odds, se_X11_odds⟩
theorem ml_X11_145 : ab_ks RX11 145 mX11_isPartOfFraction := ⟨List.mem_of_getElem? (i := 597) (by decide +kernel), st_X11_isPartOfFraction⟩
theorem ml_X11_148 : ab_kv RX11 148 mX11_refuseFar := ⟨List.mem_of_getElem? (i := 600) (by decide +kernel), im_X11_refuseFar, se_X11_refuseFar⟩
theorem ml_X11_152 : ab_kv RX11 152 mX0_likelihood := ⟨List.mem_of_getElem? (i := 605) (by decide +kernel), im_X0_likelihood, se_X0_likelihood⟩
theorem ml_X0_82 : ab_ks RX0 82 mX2_inLeastTerms := ⟨List.mem_of_getElem? (i := 609) (by decide +kernel), st_X2_inLeastTerms⟩
theorem ml_X0_88 : ab_kv RX0 88 mX0_lyingIn := ⟨List.mem_of_getElem? (i := 610) (by decide +kernel), im_X0_lyingIn, se_X0_lyingIn⟩
theorem ml_X11_156 : ab_kv RX11 156 mX2_told := ⟨List.mem_of_getElem? (i := 611) (by decide +kernel), im_X2_told, se_X2_told⟩
theorem ml_L_51 : ab_kv RL 51 mX11_rule := ⟨List.mem_of_getElem? (i := 615) (by decide +kernel), im_X11_rule, se_X11_rule⟩
theorem ml_X11_161 : ab_kv RX11 161 mX8_wayOfPart := ⟨List.mem_of_getElem? (i := 619) (by decide +kernel), im_X8_wayOfPart, se_X8_wayOfPart⟩
theorem ml_L_55 : ab_kv RL 55 mX11_behind := ⟨List.mem_of_getElem? (i := 623) (by decide +kernel), im_X11_behind, se_X11_behind⟩
theorem ml_X11_167 : ab_kv RX11 167 mX8_lyingBehind := ⟨List.mem_of_getElem? (i := 627) (by decide +kernel), im_X8_lyingBehind, se_X8_lyingBehind⟩
theorem ml_X8_34 : ab_kv RX8 34 mX8_startWith := ⟨List.mem_of_getElem? (i := 631) (by decide +kernel), im_X8_startWith, se_X8_startWith⟩
theorem ml_X8_38 : ab_kv RX8 38 mX8_cutOnce := ⟨List.mem_of_getElem? (i := 635) (by decide +kernel), im_X8_cutOnce, se_X8_cutOnce⟩
theorem ml_X8_41 : ab_kv RX8 41 mX8_wayOfPart := ⟨List.mem_of_getElem? (i := 639) (by decide +kernel), im_X8_wayOfPart, se_X8_wayOfPart⟩
theorem ml_X8_28 : Cond.methodLink RX8 28 ⟨"java/lang/System", "arraycopy", "(Ljava/lang/Object;ILjava/lang/Object;II)V"⟩ ∈ lw_tbl := List.mem_of_getElem? (i := 640) (by decide +kernel)
theorem ml_L_60 : ab_kv RL 60 mX11_address := ⟨List.mem_of_getElem? (i := 643) (by decide +kernel), im_X11_address, se_X11_address⟩
theorem ml_X11_171 : ab_kv RX11 171 mX8_wayAt := ⟨List.mem_of_getElem? (i := 647) (by decide +kernel), im_X8_wayAt, se_X8_wayAt⟩
theorem ml_L_64 : ab_kv RL 64 mX11_meet := ⟨List.mem_of_getElem? (i := 651) (by decide +kernel), im_X11_meet, se_X11_meet⟩
theorem ml_X11_175 : ab_kv RX11 175 mX8_meeting := ⟨List.mem_of_getElem? (i := 655) (by decide +kernel), im_X8_meeting, se_X8_meeting⟩
theorem ml_X8_45 : ab_kv RX8 45 mX8_addFirstDigit := ⟨List.mem_of_getElem? (i := 659) (by decide +kernel), im_X8_addFirstDigit, se_X8_addFirstDigit⟩
theorem ml_L_68 : ab_kv RL 68 mX11_steady := ⟨List.mem_of_getElem? (i := 663) (by decide +kernel), im_X11_steady, se_X11_steady⟩
theorem ml_X11_179 : ab_kv RX11 179 mX8_steadyWays := ⟨List.mem_of_getElem? (i := 667) (by decide +kernel), im_X8_steadyWays, se_X8_steadyWays⟩
theorem ml_X8_48 : ab_kv RX8 48 mX8_waysBehind := ⟨List.mem_of_getElem? (i := 671) (by decide +kernel), im_X8_waysBehind, se_X8_waysBehind⟩
theorem ml_L_72 : ab_kv RL 72 mX11_falls := ⟨List.mem_of_getElem? (i := 675) (by decide +kernel), im_X11_falls, se_X11_falls⟩
theorem ml_X11_182 : ab_kv RX11 182 mX8_cutsToAlike := ⟨List.mem_of_getElem? (i := 679) (by decide +kernel), im_X8_cutsToAlike, se_X8_cutsToAlike⟩
theorem ml_L_76 : ab_kv RL 76 mX11_lots := ⟨List.mem_of_getElem? (i := 683) (by decide +kernel), im_X11_lots, se_X11_lots⟩
theorem ml_X11_185 : ab_kv RX11 185 mX8_drawLots := ⟨List.mem_of_getElem? (i := 687) (by decide +kernel), im_X8_drawLots, se_X8_drawLots⟩
theorem ml_L_80 : ab_kv RL 80 mX11_point := ⟨List.mem_of_getElem? (i := 694) (by decide +kernel), im_X11_point, se_X11_point⟩
theorem ml_L_84 : ab_kv RL 84 mX11_colour := ⟨List.mem_of_getElem? (i := 698) (by decide +kernel), im_X11_colour, se_X11_colour⟩
theorem ml_X11_196 : ab_kv RX11 196 mX9_hasPoint := ⟨List.mem_of_getElem? (i := 702) (by decide +kernel), im_X9_hasPoint, se_X9_hasPoint⟩
theorem ml_X11_203 : ab_kv RX11 203 mX6_shade := ⟨List.mem_of_getElem? (i := 706) (by decide +kernel), im_X6_shade, se_X6_shade⟩
theorem ml_X11_213 : ab_kv RX11 213 mX2_valuation := ⟨List.mem_of_getElem? (i := 707) (by decide +kernel), im_X2_valuation, se_X2_valuation⟩
theorem ml_L_88 : ab_kv RL 88 mX11_triangle := ⟨List.mem_of_getElem? (i := 708) (by decide +kernel), im_X11_triangle, se_X11_triangle⟩
theorem ml_L_92 : ab_kv RL 92 mX11_tri := ⟨List.mem_of_getElem? (i := 712) (by decide +kernel), im_X11_tri, se_X11_tri⟩
theorem ml_X11_235 : ab_kv RX11 235 mX9_hasTriangle := ⟨List.mem_of_getElem? (i := 716) (by decide +kernel), im_X9_hasTriangle, se_X9_hasTriangle⟩
theorem ml_X11_257 : ab_kv RX11 257 mX10_isRainbow := ⟨List.mem_of_getElem? (i := 720) (by decide +kernel), im_X10_isRainbow, se_X10_isRainbow⟩
theorem ml_L_96 : ab_kv RL 96 mX11_area := ⟨List.mem_of_getElem? (i := 724) (by decide +kernel), im_X11_area, se_X11_area⟩
theorem ml_L_100 : ab_kv RL 100 mX11_sum := ⟨List.mem_of_getElem? (i := 728) (by decide +kernel), im_X11_sum, se_X11_sum⟩
theorem ml_X11_263 : ab_kv RX11 263 mX9_hasSet := ⟨List.mem_of_getElem? (i := 732) (by decide +kernel), im_X9_hasSet, se_X9_hasSet⟩
theorem ml_X11_266 : ab_kv RX11 266 mX9_exactSum := ⟨List.mem_of_getElem? (i := 736) (by decide +kernel), im_X9_exactSum, se_X9_exactSum⟩
theorem ml_X9_49 : ab_kv RX9 49 mX9_isIn := ⟨List.mem_of_getElem? (i := 740) (by decide +kernel), im_X9_isIn, se_X9_isIn⟩
theorem ml_X9_59 : ab_kv RX9 59 mX2_isAbove := ⟨List.mem_of_getElem? (i := 745) (by decide +kernel), im_X2_isAbove, se_X2_isAbove⟩
theorem ml_X9_63 : ab_kv RX9 63 mX2_plus := ⟨List.mem_of_getElem? (i := 749) (by decide +kernel), im_X2_plus, se_X2_plus⟩
theorem ml_L_104 : ab_kv RL 104 mX11_even := ⟨List.mem_of_getElem? (i := 753) (by decide +kernel), im_X11_even, se_X11_even⟩
theorem ml_X11_269 : ab_kv RX11 269 mX9_evenOnes := ⟨List.mem_of_getElem? (i := 757) (by decide +kernel), im_X9_evenOnes, se_X9_evenOnes⟩
theorem ml_X9_67 : ab_kv RX9 67 mX2_valuation := ⟨List.mem_of_getElem? (i := 761) (by decide +kernel), im_X2_valuation, se_X2_valuation⟩
theorem ml_X11_272 : ab_kv RX11 272 mX9_rainbows := ⟨List.mem_of_getElem? (i := 762) (by decide +kernel), im_X9_rainbows, se_X9_rainbows⟩
theorem ml_X9_71 : ab_kv RX9 71 mX10_isRainbow := ⟨List.mem_of_getElem? (i := 766) (by decide +kernel), im_X10_isRainbow, se_X10_isRainbow⟩
theorem ml_X11_275 : ab_kv RX11 275 mX9_areAlike := ⟨List.mem_of_getElem? (i := 767) (by decide +kernel), im_X9_areAlike, se_X9_areAlike⟩
theorem ml_X9_75 : ab_kv RX9 75 mX2_equalTo := ⟨List.mem_of_getElem? (i := 771) (by decide +kernel), im_X2_equalTo, se_X2_equalTo⟩
theorem ml_L_108 : ab_kv RL 108 mX11_bits := ⟨List.mem_of_getElem? (i := 775) (by decide +kernel), im_X11_bits, se_X11_bits⟩
theorem ml_X11_278 : ab_kv RX11 278 mX2_asFloat := ⟨List.mem_of_getElem? (i := 779) (by decide +kernel), im_X2_asFloat, se_X2_asFloat⟩
theorem ml_X11_282 : ab_ks RX11 282 mX1_intBits := ⟨List.mem_of_getElem? (i := 783) (by decide +kernel), st_X1_intBits⟩
theorem ml_L_112 : ab_kv RL 112 mX11_bitsOf := ⟨List.mem_of_getElem? (i := 788) (by decide +kernel), im_X11_bitsOf, se_X11_bitsOf⟩
theorem ml_X11_288 : ab_kv RX11 288 mX9_floatSum := ⟨List.mem_of_getElem? (i := 792) (by decide +kernel), im_X9_floatSum, se_X9_floatSum⟩
theorem ml_X9_79 : ab_kv RX9 79 mX2_asFloat := ⟨List.mem_of_getElem? (i := 796) (by decide +kernel), im_X2_asFloat, se_X2_asFloat⟩
theorem ml_L_116 : ab_kv RL 116 mX11_longBits := ⟨List.mem_of_getElem? (i := 798) (by decide +kernel), im_X11_longBits, se_X11_longBits⟩
theorem ml_X11_293 : ab_kv RX11 293 mX9_doubleSum := ⟨List.mem_of_getElem? (i := 802) (by decide +kernel), im_X9_doubleSum, se_X9_doubleSum⟩
theorem ml_X9_83 : ab_kv RX9 83 mX2_asDouble := ⟨List.mem_of_getElem? (i := 806) (by decide +kernel), im_X2_asDouble, se_X2_asDouble⟩
theorem ml_X11_297 : ab_ks RX11 297 mX1_longBitsOfDouble := ⟨List.mem_of_getElem? (i := 810) (by decide +kernel), st_X1_longBitsOfDouble⟩
theorem ml_L_121 : ab_kv RL 121 mX11_rack := ⟨List.mem_of_getElem? (i := 817) (by decide +kernel), im_X11_rack, se_X11_rack⟩
theorem ml_X11_301 : ab_ks RX11 301 mX11_isRow := ⟨List.mem_of_getElem? (i := 821) (by decide +kernel), st_X11_isRow⟩
theorem ml_X11_304 : ab_kv RX11 304 mX7_makeFor := ⟨List.mem_of_getElem? (i := 824) (by decide +kernel), im_X7_makeFor, se_X7_makeFor⟩
theorem ml_L_125 : ab_kv RL 125 mX11_racks := ⟨List.mem_of_getElem? (i := 828) (by decide +kernel), im_X11_racks, se_X11_racks⟩
theorem ml_X11_307 : ab_kv RX11 307 mX7_isMissing := ⟨List.mem_of_getElem? (i := 832) (by decide +kernel), im_X7_isMissing, se_X7_isMissing⟩
theorem ml_X11_310 : ab_kv RX11 310 mX7_hasPlace := ⟨List.mem_of_getElem? (i := 836) (by decide +kernel), im_X7_hasPlace, se_X7_hasPlace⟩
theorem ml_X11_313 : ab_kv RX11 313 mX7_takes := ⟨List.mem_of_getElem? (i := 840) (by decide +kernel), im_X7_takes, se_X7_takes⟩
theorem ml_X7_25 : ab_ks RX7 25 mX10_isUnder := ⟨List.mem_of_getElem? (i := 844) (by decide +kernel), st_X10_isUnder⟩
theorem ml_L_129 : ab_kv RL 129 mX11_racked := ⟨List.mem_of_getElem? (i := 845) (by decide +kernel), im_X11_racked, se_X11_racked⟩
theorem ml_L_133 : ab_kv RL 133 mX11_like := ⟨List.mem_of_getElem? (i := 849) (by decide +kernel), im_X11_like, se_X11_like⟩
theorem ml_X11_320 : ab_kv RX11 320 mX7_copyFrom := ⟨List.mem_of_getElem? (i := 853) (by decide +kernel), im_X7_copyFrom, se_X7_copyFrom⟩
theorem ml_L_137 : ab_kv RL 137 mX11_list := ⟨List.mem_of_getElem? (i := 857) (by decide +kernel), im_X11_list, se_X11_list⟩
theorem ml_X11_325 : ab_kv RX11 325 mX5_makeZeros := ⟨List.mem_of_getElem? (i := 861) (by decide +kernel), im_X5_makeZeros, se_X5_makeZeros⟩
theorem ml_L_141 : ab_kv RL 141 mX11_put := ⟨List.mem_of_getElem? (i := 865) (by decide +kernel), im_X11_put, se_X11_put⟩
theorem ml_X11_328 : ab_kv RX11 328 mX5_isMissing := ⟨List.mem_of_getElem? (i := 869) (by decide +kernel), im_X5_isMissing, se_X5_isMissing⟩
theorem ml_X11_329 : ab_kv RX11 329 mX5_hasPlace := ⟨List.mem_of_getElem? (i := 873) (by decide +kernel), im_X5_hasPlace, se_X5_hasPlace⟩
theorem ml_L_145 : ab_kv RL 145 mX11_look := ⟨List.mem_of_getElem? (i := 877) (by decide +kernel), im_X11_look, se_X11_look⟩
theorem ml_L_149 : ab_kv RL 149 mX11_judge := ⟨List.mem_of_getElem? (i := 883) (by decide +kernel), im_X11_judge, se_X11_judge⟩
theorem ml_L_153 : ab_kv RL 153 mX11_image := ⟨List.mem_of_getElem? (i := 887) (by decide +kernel), im_X11_image, se_X11_image⟩
theorem ml_X11_337 : ab_kv RX11 337 mX3_take := ⟨List.mem_of_getElem? (i := 891) (by decide +kernel), im_X3_take, se_X3_take⟩
theorem ml_X3_38 : ab_kv RX3 38 mX8_copyFrom := ⟨List.mem_of_getElem? (i := 895) (by decide +kernel), im_X8_copyFrom, se_X8_copyFrom⟩
theorem ml_X3_42 : ab_kv RX3 42 mX9_copyFrom := ⟨List.mem_of_getElem? (i := 899) (by decide +kernel), im_X9_copyFrom, se_X9_copyFrom⟩
theorem ml_L_157 : ab_kv RL 157 mX11_on := ⟨List.mem_of_getElem? (i := 903) (by decide +kernel), im_X11_on, se_X11_on⟩
theorem ml_X11_345 : ab_kv RX11 345 mX3_giveBack := ⟨List.mem_of_getElem? (i := 907) (by decide +kernel), im_X3_giveBack, se_X3_giveBack⟩
theorem ml_X3_49 : ab_kv RX3 49 mX0_cutAnew := ⟨List.mem_of_getElem? (i := 911) (by decide +kernel), im_X0_cutAnew, se_X0_cutAnew⟩
theorem ml_L_161 : ab_kv RL 161 mX11_count := ⟨List.mem_of_getElem? (i := 912) (by decide +kernel), im_X11_count, se_X11_count⟩
theorem ml_L_12 : ab_ki RL 12 mX12_init := ⟨List.mem_of_getElem? (i := 918) (by decide +kernel), im_X12_init, by decide +kernel⟩
theorem ml_X12_23 : Cond.methodLink RX12 23 ⟨"java/lang/Object", "<init>", "()V"⟩ ∈ lw_tbl := List.mem_of_getElem? (i := 921) (by decide +kernel)
theorem ml_X12_112 : ab_kv RX12 112 mX12_lays := ⟨List.mem_of_getElem? (i := 922) (by decide +kernel), im_X12_lays, se_X12_lays⟩
theorem ml_X12_119 : ab_kv RX12 119 mX12_side := ⟨List.mem_of_getElem? (i := 926) (by decide +kernel), im_X12_side, se_X12_side⟩
theorem ml_X12_136 : ab_kv RX12 136 mX12_cuts := ⟨List.mem_of_getElem? (i := 930) (by decide +kernel), im_X12_cuts, se_X12_cuts⟩
theorem ml_X12_116 : ab_kv RX12 116 mX12_rulesAtFirst := ⟨List.mem_of_getElem? (i := 934) (by decide +kernel), im_X12_rulesAtFirst, se_X12_rulesAtFirst⟩
theorem ml_L_27 : ab_kv RL 27 mX12_board := ⟨List.mem_of_getElem? (i := 1068) (by decide +kernel), im_X12_board, se_X12_board⟩
theorem ml_X12_9 : ab_kv RX12 9 mX12_refused := ⟨List.mem_of_getElem? (i := 1072) (by decide +kernel), im_X12_refused, se_X12_refused⟩
theorem ml_X12_123 : ab_ks RX12 123 mX12_isIn := ⟨List.mem_of_getElem? (i := 1076) (by decide +kernel), st_X12_isIn⟩
theorem ml_L_32 : ab_kv RL 32 mX12_piece := ⟨List.mem_of_getElem? (i := 1079) (by decide +kernel), im_X12_piece, se_X12_piece⟩
theorem ml_X12_140 : ab_kv RX12 140 mX12_isCell := ⟨List.mem_of_getElem? (i := 1083) (by decide +kernel), im_X12_isCell, se_X12_isCell⟩
theorem ml_X12_144 : ab_kv RX12 144 mX12_cell := ⟨List.mem_of_getElem? (i := 1087) (by decide +kernel), im_X12_cell, se_X12_cell⟩
theorem ml_L_36 : ab_kv RL 36 mX12_of := ⟨List.mem_of_getElem? (i := 1091) (by decide +kernel), im_X12_of, se_X12_of⟩
theorem ml_X12_155 : ab_kv RX12 155 mX12_touching := ⟨List.mem_of_getElem? (i := 1095) (by decide +kernel), im_X12_touching, se_X12_touching⟩
theorem ml_X12_152 : ab_kv RX12 152 mX12_isTouching := ⟨List.mem_of_getElem? (i := 1099) (by decide +kernel), im_X12_isTouching, se_X12_isTouching⟩
theorem ml_X12_148 : ab_kv RX12 148 mX12_areBeside := ⟨List.mem_of_getElem? (i := 1103) (by decide +kernel), im_X12_areBeside, se_X12_areBeside⟩
theorem ml_L_41 : ab_kv RL 41 mX12_within := ⟨List.mem_of_getElem? (i := 1107) (by decide +kernel), im_X12_within, se_X12_within⟩
theorem ml_X12_158 : ab_kv RX12 158 mX12_isWithin := ⟨List.mem_of_getElem? (i := 1111) (by decide +kernel), im_X12_isWithin, se_X12_isWithin⟩
theorem ml_L_45 : ab_kv RL 45 mX12_pieces := ⟨List.mem_of_getElem? (i := 1115) (by decide +kernel), im_X12_pieces, se_X12_pieces⟩
theorem ml_X12_166 : ab_kv RX12 166 mX12_inWay := ⟨List.mem_of_getElem? (i := 1121) (by decide +kernel), im_X12_inWay, se_X12_inWay⟩
theorem ml_X12_169 : ab_kv RX12 169 mX12_edge := ⟨List.mem_of_getElem? (i := 1125) (by decide +kernel), im_X12_edge, se_X12_edge⟩
theorem ml_L_50 : ab_kv RL 50 mX12_odds := ⟨List.mem_of_getElem? (i := 1129) (by decide +kernel), im_X12_odds, se_X12_odds⟩
theorem ml_X12_174 : ab_ks RX12 174 mX12_isWay := ⟨List.mem_of_getElem? (i := 1133) (by decide +kernel), st_X12_isWay⟩
theorem ml_X12_178 : ab_kv RX12 178 mX12_refusedFar := ⟨List.mem_of_getElem? (i := 1137) (by decide +kernel), im_X12_refusedFar, se_X12_refusedFar⟩
theorem ml_X12_182 : ab_ks RX12 182 mX12_part := ⟨List.mem_of_getElem? (i := 1142) (by decide +kernel), st_X12_part⟩
theorem ml_X12_19 : ab_ks RX12 19 mX12_divisor := ⟨List.mem_of_getElem? (i := 1145) (by decide +kernel), st_X12_divisor⟩
theorem ml_X12_13 : ab_ks RX12 13 mJ9_abs_067f4 := ⟨List.mem_of_getElem? (i := 1148) (by decide +kernel), st_J9_abs_067f4⟩
theorem ml_L_54 : ab_kv RL 54 mX12_rule := ⟨List.mem_of_getElem? (i := 1149) (by decide +kernel), im_X12_rule, se_X12_rule⟩
theorem ml_L_59 : ab_kv RL 59 mX12_behind := ⟨List.mem_of_getElem? (i := 1153) (by decide +kernel), im_X12_behind, se_X12_behind⟩
theorem ml_X12_186 : ab_kv RX12 186 mX12_begins := ⟨List.mem_of_getElem? (i := 1157) (by decide +kernel), im_X12_begins, se_X12_begins⟩
theorem ml_X12_190 : ab_kv RX12 190 mX12_fallsAll := ⟨List.mem_of_getElem? (i := 1161) (by decide +kernel), im_X12_fallsAll, se_X12_fallsAll⟩
theorem ml_L_63 : ab_kv RL 63 mX12_address := ⟨List.mem_of_getElem? (i := 1165) (by decide +kernel), im_X12_address, se_X12_address⟩
theorem ml_L_67 : ab_kv RL 67 mX12_meet := ⟨List.mem_of_getElem? (i := 1169) (by decide +kernel), im_X12_meet, se_X12_meet⟩
theorem ml_X12_193 : ab_kv RX12 193 mX12_leastAlike := ⟨List.mem_of_getElem? (i := 1173) (by decide +kernel), im_X12_leastAlike, se_X12_leastAlike⟩
theorem ml_X12_196 : ab_kv RX12 196 mX12_leads := ⟨List.mem_of_getElem? (i := 1177) (by decide +kernel), im_X12_leads, se_X12_leads⟩
theorem ml_L_71 : ab_kv RL 71 mX12_steady := ⟨List.mem_of_getElem? (i := 1181) (by decide +kernel), im_X12_steady, se_X12_steady⟩
theorem ml_X12_199 : ab_ks RX12 199 mX12_has := ⟨List.mem_of_getElem? (i := 1185) (by decide +kernel), st_X12_has⟩
theorem ml_L_75 : ab_kv RL 75 mX12_falls := ⟨List.mem_of_getElem? (i := 1188) (by decide +kernel), im_X12_falls, se_X12_falls⟩
theorem ml_L_79 : ab_kv RL 79 mX12_lots := ⟨List.mem_of_getElem? (i := 1192) (by decide +kernel), im_X12_lots, se_X12_lots⟩
theorem ml_L_83 : ab_kv RL 83 mX12_point := ⟨List.mem_of_getElem? (i := 1199) (by decide +kernel), im_X12_point, se_X12_point⟩
theorem ml_X12_210 : ab_kv RX12 210 mX12_comesPoint := ⟨List.mem_of_getElem? (i := 1203) (by decide +kernel), im_X12_comesPoint, se_X12_comesPoint⟩
theorem ml_L_87 : ab_kv RL 87 mX12_colour := ⟨List.mem_of_getElem? (i := 1207) (by decide +kernel), im_X12_colour, se_X12_colour⟩
theorem ml_X12_227 : ab_kv RX12 227 mX12_isPoint := ⟨List.mem_of_getElem? (i := 1211) (by decide +kernel), im_X12_isPoint, se_X12_isPoint⟩
theorem ml_X12_232 : ab_kv RX12 232 mX12_valuationOf := ⟨List.mem_of_getElem? (i := 1216) (by decide +kernel), im_X12_valuationOf, se_X12_valuationOf⟩
theorem ml_X12_223 : ab_ks RX12 223 mX12_valuation := ⟨List.mem_of_getElem? (i := 1220) (by decide +kernel), st_X12_valuation⟩
theorem ml_X12_220 : ab_ks RX12 220 mX12_twos := ⟨List.mem_of_getElem? (i := 1223) (by decide +kernel), st_X12_twos⟩
theorem ml_X12_214 : ab_ks RX12 214 mJ13_numberOfTrailingZeros_95d88 := ⟨List.mem_of_getElem? (i := 1226) (by decide +kernel), st_J13_numberOfTrailingZeros_95d88⟩
theorem ml_J13_311 : ab_ks RJ13 311 mJ6_numberOfTrailingZeros_0f7a4 := ⟨List.mem_of_getElem? (i := 1229) (by decide +kernel), st_J6_numberOfTrailingZeros_0f7a4⟩
theorem ml_X12_235 : ab_ks RX12 235 mX12_colourBy := ⟨List.mem_of_getElem? (i := 1233) (by decide +kernel), st_X12_colourBy⟩
theorem ml_L_91 : ab_kv RL 91 mX12_triangle := ⟨List.mem_of_getElem? (i := 1236) (by decide +kernel), im_X12_triangle, se_X12_triangle⟩
theorem ml_X12_243 : ab_kv RX12 243 mX12_areThree := ⟨List.mem_of_getElem? (i := 1241) (by decide +kernel), im_X12_areThree, se_X12_areThree⟩
theorem ml_X12_247 : ab_kv RX12 247 mX12_comesTriangle := ⟨List.mem_of_getElem? (i := 1245) (by decide +kernel), im_X12_comesTriangle, se_X12_comesTriangle⟩
theorem ml_L_95 : ab_kv RL 95 mX12_tri := ⟨List.mem_of_getElem? (i := 1249) (by decide +kernel), im_X12_tri, se_X12_tri⟩
theorem ml_X12_285 : ab_kv RX12 285 mX12_isTriangle := ⟨List.mem_of_getElem? (i := 1253) (by decide +kernel), im_X12_isTriangle, se_X12_isTriangle⟩
theorem ml_X12_288 : ab_kv RX12 288 mX12_coloursOf := ⟨List.mem_of_getElem? (i := 1257) (by decide +kernel), im_X12_coloursOf, se_X12_coloursOf⟩
theorem ml_X12_279 : ab_ks RX12 279 mX12_isUnder := ⟨List.mem_of_getElem? (i := 1261) (by decide +kernel), st_X12_isUnder⟩
theorem ml_X12_291 : ab_kv RX12 291 mX12_areaValuation := ⟨List.mem_of_getElem? (i := 1264) (by decide +kernel), im_X12_areaValuation, se_X12_areaValuation⟩
theorem ml_X12_282 : ab_kv RX12 282 mX12_areaOf := ⟨List.mem_of_getElem? (i := 1268) (by decide +kernel), im_X12_areaOf, se_X12_areaOf⟩
theorem ml_X12_264 : ab_kv RX12 264 mX12_more := ⟨List.mem_of_getElem? (i := 1272) (by decide +kernel), im_X12_more, se_X12_more⟩
theorem ml_X12_257 : ab_kv RX12 257 mX12_over := ⟨List.mem_of_getElem? (i := 1276) (by decide +kernel), im_X12_over, se_X12_over⟩
theorem ml_X12_261 : ab_kv RX12 261 mX12_under := ⟨List.mem_of_getElem? (i := 1280) (by decide +kernel), im_X12_under, se_X12_under⟩
theorem ml_X12_268 : ab_kv RX12 268 mX12_belowOf := ⟨List.mem_of_getElem? (i := 1284) (by decide +kernel), im_X12_belowOf, se_X12_belowOf⟩
theorem ml_X12_271 : ab_kv RX12 271 mX12_tells := ⟨List.mem_of_getElem? (i := 1288) (by decide +kernel), im_X12_tells, se_X12_tells⟩
theorem ml_L_99 : ab_kv RL 99 mX12_area := ⟨List.mem_of_getElem? (i := 1294) (by decide +kernel), im_X12_area, se_X12_area⟩
theorem ml_L_103 : ab_kv RL 103 mX12_sum := ⟨List.mem_of_getElem? (i := 1298) (by decide +kernel), im_X12_sum, se_X12_sum⟩
theorem ml_X12_296 : ab_kv RX12 296 mX12_isSet := ⟨List.mem_of_getElem? (i := 1302) (by decide +kernel), im_X12_isSet, se_X12_isSet⟩
theorem ml_X12_299 : ab_kv RX12 299 mX12_isGreat := ⟨List.mem_of_getElem? (i := 1306) (by decide +kernel), im_X12_isGreat, se_X12_isGreat⟩
theorem ml_L_107 : ab_kv RL 107 mX12_even := ⟨List.mem_of_getElem? (i := 1311) (by decide +kernel), im_X12_even, se_X12_even⟩
theorem ml_X12_303 : ab_kv RX12 303 mX12_evens := ⟨List.mem_of_getElem? (i := 1315) (by decide +kernel), im_X12_evens, se_X12_evens⟩
theorem ml_X12_306 : ab_kv RX12 306 mX12_rainbows := ⟨List.mem_of_getElem? (i := 1319) (by decide +kernel), im_X12_rainbows, se_X12_rainbows⟩
theorem ml_X12_309 : ab_kv RX12 309 mX12_isAlike := ⟨List.mem_of_getElem? (i := 1323) (by decide +kernel), im_X12_isAlike, se_X12_isAlike⟩
theorem ml_L_111 : ab_kv RL 111 mX12_bits := ⟨List.mem_of_getElem? (i := 1327) (by decide +kernel), im_X12_bits, se_X12_bits⟩
theorem ml_X12_312 : ab_kv RX12 312 mX12_floatOf := ⟨List.mem_of_getElem? (i := 1331) (by decide +kernel), im_X12_floatOf, se_X12_floatOf⟩
theorem ml_X12_316 : ab_ks RX12 316 mJxf58ca_floatToIntBits_5c35a := ⟨List.mem_of_getElem? (i := 1335) (by decide +kernel), st_Jxf58ca_floatToIntBits_5c35a⟩
theorem ml_Jxf58ca_59 : ab_ks RJxf58ca 59 mJxf58ca_isNaN_12338 := ⟨List.mem_of_getElem? (i := 1338) (by decide +kernel), st_Jxf58ca_isNaN_12338⟩
theorem ml_Jxf58ca_74 : Cond.methodLink RJxf58ca 74 ⟨"java/lang/Float", "floatToRawIntBits", "(F)I"⟩ ∈ lw_tbl := List.mem_of_getElem? (i := 1341) (by decide +kernel)
theorem ml_L_115 : ab_kv RL 115 mX12_bitsOf := ⟨List.mem_of_getElem? (i := 1345) (by decide +kernel), im_X12_bitsOf, se_X12_bitsOf⟩
theorem ml_L_120 : ab_kv RL 120 mX12_longBits := ⟨List.mem_of_getElem? (i := 1350) (by decide +kernel), im_X12_longBits, se_X12_longBits⟩
theorem ml_X12_323 : ab_ks RX12 323 mJxe99ae_doubleToLongBits_ccdee := ⟨List.mem_of_getElem? (i := 1354) (by decide +kernel), st_Jxe99ae_doubleToLongBits_ccdee⟩
theorem ml_Jxe99ae_122 : ab_ks RJxe99ae 122 mJxe99ae_isNaN_b9ae7 := ⟨List.mem_of_getElem? (i := 1357) (by decide +kernel), st_Jxe99ae_isNaN_b9ae7⟩
theorem ml_Jxe99ae_134 : Cond.methodLink RJxe99ae 134 ⟨"java/lang/Double", "doubleToRawLongBits", "(D)J"⟩ ∈ lw_tbl := List.mem_of_getElem? (i := 1360) (by decide +kernel)
theorem ml_L_124 : ab_kv RL 124 mX12_rack := ⟨List.mem_of_getElem? (i := 1364) (by decide +kernel), im_X12_rack, se_X12_rack⟩
theorem ml_X12_329 : ab_ks RX12 329 mX12_isRack := ⟨List.mem_of_getElem? (i := 1368) (by decide +kernel), st_X12_isRack⟩
theorem ml_L_128 : ab_kv RL 128 mX12_racks := ⟨List.mem_of_getElem? (i := 1371) (by decide +kernel), im_X12_racks, se_X12_racks⟩
theorem ml_L_132 : ab_kv RL 132 mX12_racked := ⟨List.mem_of_getElem? (i := 1375) (by decide +kernel), im_X12_racked, se_X12_racked⟩
theorem ml_L_136 : ab_kv RL 136 mX12_like := ⟨List.mem_of_getElem? (i := 1379) (by decide +kernel), im_X12_like, se_X12_like⟩
theorem ml_L_140 : ab_kv RL 140 mX12_list := ⟨List.mem_of_getElem? (i := 1383) (by decide +kernel), im_X12_list, se_X12_list⟩
theorem ml_X12_332 : ab_ks RX12 332 mX12_isList := ⟨List.mem_of_getElem? (i := 1387) (by decide +kernel), st_X12_isList⟩
theorem ml_L_144 : ab_kv RL 144 mX12_put := ⟨List.mem_of_getElem? (i := 1390) (by decide +kernel), im_X12_put, se_X12_put⟩
theorem ml_L_148 : ab_kv RL 148 mX12_look := ⟨List.mem_of_getElem? (i := 1394) (by decide +kernel), im_X12_look, se_X12_look⟩
theorem ml_L_152 : ab_kv RL 152 mX12_judge := ⟨List.mem_of_getElem? (i := 1400) (by decide +kernel), im_X12_judge, se_X12_judge⟩
theorem ml_L_17 : ab_kv RL 17 mX12_letter := ⟨List.mem_of_getElem? (i := 1404) (by decide +kernel), im_X12_letter, se_X12_letter⟩
theorem ml_L_22 : ab_kv RL 22 mX12_text := ⟨List.mem_of_getElem? (i := 1408) (by decide +kernel), im_X12_text, se_X12_text⟩
theorem ml_X12_358 : ab_kv RX12 358 mX12_statement := ⟨List.mem_of_getElem? (i := 1412) (by decide +kernel), im_X12_statement, se_X12_statement⟩
theorem ml_X12_345 : ab_ks RX12 345 mX12_numbersOf := ⟨List.mem_of_getElem? (i := 1416) (by decide +kernel), st_X12_numbersOf⟩
theorem ml_X12_348 : ab_ks RX12 348 mX12_digitsOf := ⟨List.mem_of_getElem? (i := 1419) (by decide +kernel), st_X12_digitsOf⟩
theorem ml_X12_361 : ab_kv RX12 361 mX12_done := ⟨List.mem_of_getElem? (i := 1424) (by decide +kernel), im_X12_done, se_X12_done⟩
theorem ml_X12_364 : ab_kv RX12 364 mX12_isDone := ⟨List.mem_of_getElem? (i := 1428) (by decide +kernel), im_X12_isDone, se_X12_isDone⟩
theorem ml_X12_355 : ab_kv RX12 355 mX12_isRuled := ⟨List.mem_of_getElem? (i := 1432) (by decide +kernel), im_X12_isRuled, se_X12_isRuled⟩
theorem ml_L_156 : ab_kv RL 156 mX12_image := ⟨List.mem_of_getElem? (i := 1436) (by decide +kernel), im_X12_image, se_X12_image⟩
theorem ml_L_160 : ab_kv RL 160 mX12_on := ⟨List.mem_of_getElem? (i := 1440) (by decide +kernel), im_X12_on, se_X12_on⟩
theorem ml_L_164 : ab_kv RL 164 mX12_count := ⟨List.mem_of_getElem? (i := 1444) (by decide +kernel), im_X12_count, se_X12_count⟩

theorem ab_in_all : ∀ ci, ∀ w ∈ u_ws (ab_C ci) (ab_T ci) (ab_N ci), w ∈ lw_tbl := by
  intro ci
  match ci with
  | 0 => exact ab_inRX0
  | 1 => exact ab_inRX2
  | 2 => exact ab_inRX3
  | 3 => exact ab_inRX4
  | 4 => exact ab_inRX5
  | 5 => exact ab_inRX6
  | 6 => exact ab_inRX7
  | 7 => exact ab_inRX8
  | 8 => exact ab_inRX9
  | 9 => exact ab_inRX10
  | 10 => exact ab_inRX11
  | _ + 11 => exact ab_inRX12
