/-! the good words of the tables, by their places; nest words apart -/
def gw : List Cond := lw_tbl.filter goodWord
theorem gw_t {w : Cond} (n : Nat) (h : tables_1[n]? = some w) (g : goodWord w = true) : w ∈ gw := List.mem_filter.mpr ⟨List.mem_append_right _ (List.mem_of_getElem? h), g⟩
theorem gw_s {w : Cond} (n : Nat) (h : (k2_sels lw_privs)[n]? = some w) (g : goodWord w = true) : w ∈ gw := List.mem_filter.mpr ⟨List.mem_append_left _ (List.mem_of_getElem? h), g⟩
theorem gw_in {w : Cond} (h : w ∈ gw) : w ∈ lw_tbl ∧ ((w.onTables && w.keeps) = true ∨ ∃ ty, w = .arrayClass ty) := ⟨(List.mem_filter.mp h).1, good_of_word (List.mem_filter.mp h).2⟩
theorem gw_of {ws : List Cond} (ps : List Nat) (hp : ws = ps.filterMap (fun i => tables_1[i]?)) (h : ws.all goodWord = true) : ∀ w ∈ ws, w ∈ gw := fun w hw => by
  have hw2 := hw
  rw [hp] at hw2
  obtain ⟨i, -, hi⟩ := List.mem_filterMap.mp hw2
  exact gw_t i hi (List.all_eq_true.mp h w hw)
def zNf : List (String × Nat × String × String × String × String) := [("MoireEncoder", 191, "MoireEncoder$Dirt", "starts", "LMoireEncoder$Row;", "MoireEncoder"), ("MoireEncoder", 197, "MoireEncoder$Dirt", "lengths", "LMoireEncoder$Row;", "MoireEncoder"), ("MoireEncoder", 109, "MoireEncoder$Setup", "marks", "LMoireEncoder$Row;", "MoireEncoder"), ("MoireEncoder$State", 36, "MoireEncoder$Setup", "dirt", "LMoireEncoder$Dirt;", "MoireEncoder"), ("MoireEncoder", 85, "MoireEncoder$Setup", "pitch", "I", "MoireEncoder"), ("MoireEncoder$State", 54, "MoireEncoder$Setup", "indexPitch", "I", "MoireEncoder"), ("MoireEncoder$State", 58, "MoireEncoder$Setup", "indexOffset", "I", "MoireEncoder"), ("MoireEncoder$State", 50, "MoireEncoder$Setup", "mode", "I", "MoireEncoder"), ("MoireEncoder", 158, "MoireEncoder$Decoder", "counter", "J", "MoireEncoder"), ("MoireEncoder", 132, "MoireEncoder$Decoder", "misses", "I", "MoireEncoder"), ("MoireEncoder", 267, "MoireEncoder$Log", "kinds", "LMoireEncoder$Row;", "MoireEncoder"), ("MoireEncoder", 270, "MoireEncoder$Log", "positions", "LMoireEncoder$Row;", "MoireEncoder"), ("MoireEncoder", 206, "MoireEncoder$Log", "counters", "LMoireEncoder$Row;", "MoireEncoder"), ("MoireEncoder", 129, "MoireEncoder$State", "decoder", "LMoireEncoder$Decoder;", "MoireEncoder"), ("MoireEncoder", 162, "MoireEncoder$State", "log", "LMoireEncoder$Log;", "MoireEncoder"), ("MoireEncoder", 181, "MoireEncoder$State", "dirt", "LMoireEncoder$Dirt;", "MoireEncoder"), ("MoireEncoder", 135, "MoireEncoder$State", "head", "I", "MoireEncoder"), ("MoireEncoder", 235, "MoireEncoder$State", "samples", "I", "MoireEncoder"), ("MoireEncoder", 152, "MoireEncoder$State", "mode", "I", "MoireEncoder"), ("MoireEncoder", 172, "MoireEncoder$State", "indexPitch", "I", "MoireEncoder"), ("MoireEncoder", 175, "MoireEncoder$State", "indexOffset", "I", "MoireEncoder"), ("MoireEncoder", 223, "MoireEncoder$History", "size", "I", "MoireEncoder")]
def zNm : List (String × Nat × MethodName × String) := [("MoireEncoder", 20, yX5_init, "MoireEncoder"), ("MoireEncoder$Setup", 22, yX1_init, "MoireEncoder"), ("MoireEncoder$History", 17, yX6_init, "MoireEncoder"), ("MoireEncoder$State", 9, yX0_init, "MoireEncoder"), ("MoireEncoder$State", 18, yX3_init, "MoireEncoder"), ("MoireEncoder$State", 25, yX1_init, "MoireEncoder"), ("MoireEncoder", 37, yX0_init, "MoireEncoder"), ("MoireEncoder", 44, yX6_init, "MoireEncoder"), ("MoireEncoder$Setup", 44, yX7_isScalePitch, "MoireEncoder"), ("MoireEncoder$Setup", 48, yX7_isIndexGrating, "MoireEncoder"), ("MoireEncoder$Setup", 52, yX7_isMode, "MoireEncoder"), ("MoireEncoder$Setup", 73, yX7_isPosition, "MoireEncoder"), ("MoireEncoder$Setup", 81, yX7_isDirt, "MoireEncoder")]
/-- a field's words: link of a place in the pool, and the class's lays -/
def ZF (own : String) (index ci k : Nat) : Prop := ∃ (C : String) (T : u_T) (N : Nat), vwCl[ci]? = some (C, T, N) ∧ k < N ∧ (∀ w ∈ u_ws C T N, w ∈ gw) ∧ Cond.fieldLink own index (T k).1 (T k).2.1 (T k).2.2.1 ∈ gw
def ZFN (own : String) (index ci k : Nat) : Prop := ∃ (C : String) (T : u_T) (N : Nat) (host : String), vwCl[ci]? = some (C, T, N) ∧ k < N ∧ (∀ w ∈ u_ws C T N, w ∈ gw) ∧ (own, index, (T k).1, (T k).2.1, (T k).2.2.1, host) ∈ zNf
def ZT (ci k : Nat) (ty : FieldType) (fin : Bool) : Prop := ∃ (C : String) (T : u_T) (N : Nat) (ty0 : Nat → FieldType), vwCl[ci]? = some (C, T, N) ∧ (∀ k, k < N → parseFieldDescriptor (T k).2.2.1 = some (ty0 k)) ∧ (∀ a, a < N → ∀ b, b < N → a ≠ b → (T a).2.1 ≠ (T b).2.1) ∧ parseFieldDescriptor (T k).2.2.1 = some ty ∧ (T k).2.2.2 = fin
abbrev ZM : Type := MethodName × ByteArray × Nat × Option FieldType
def ZY (Y : ZM) (n : Nat) : Prop := Cond.initialized Y.1.cls ∈ gw ∧ Cond.code Y.1 Y.2.1 Y.2.2.1 Y.2.2.2 ∈ gw ∧ (Y.1.cls ≠ "java/lang/invoke/MethodHandle" ∧ Y.1.cls ≠ "java/lang/invoke/VarHandle" ∧ (parseMethodDescriptor Y.1.desc).map (fun d => d.parameters.length) = some n) ∧ Y.2.2.1 ≤ 12
def ZYv (Y : ZM) (n : Nat) : Prop := ZY Y n ∧ Cond.instanceMethod Y.1 ∈ gw ∧ Cond.selects Y.1.cls Y.1 Y.1 ∈ gw
def ZYs (Y : ZM) (n : Nat) : Prop := ZY Y n ∧ Cond.static Y.1 ∈ gw
def ZYi (Y : ZM) (n : Nat) : Prop := ZY Y n ∧ Cond.instanceMethod Y.1 ∈ gw ∧ Y.1.name = "<init>" ∧ Y.2.2.2 = none
def ZN (own : String) (index ci N : Nat) (fs : List Value) : Prop := ∃ (C : String) (T : u_T) (ty : Nat → FieldType), vwCl[ci]? = some (C, T, N) ∧ (∀ w ∈ u_ws C T N, w ∈ gw) ∧ (∀ k, k < N → parseFieldDescriptor (T k).2.2.1 = some (ty k)) ∧ Cond.classLink own index C ∈ gw ∧ Cond.instantiable C N ∈ gw ∧ Cond.initialized C ∈ gw ∧ (∀ j, j < N → defaultValue (ty j) = vp_V fs j)
theorem iwX0 : ∀ w ∈ u_ws RX0 TX0 3, w ∈ gw := gw_of [115, 117, 119] (by decide +kernel) (by decide +kernel)
theorem tX0_0 : ZT 0 0 .int false := ⟨RX0, TX0, 3, tyX0, rfl, tyX0_ok, nmX0, by decide +kernel, rfl⟩
theorem tX0_1 : ZT 0 1 .long false := ⟨RX0, TX0, 3, tyX0, rfl, tyX0_ok, nmX0, by decide +kernel, rfl⟩
theorem tX0_2 : ZT 0 2 .int false := ⟨RX0, TX0, 3, tyX0, rfl, tyX0_ok, nmX0, by decide +kernel, rfl⟩
theorem iwX1 : ∀ w ∈ u_ws RX1 TX1 2, w ∈ gw := gw_of [61, 63] (by decide +kernel) (by decide +kernel)
theorem tX1_0 : ZT 1 0 (.object "MoireEncoder$Row") true := ⟨RX1, TX1, 2, tyX1, rfl, tyX1_ok, nmX1, by decide +kernel, rfl⟩
theorem tX1_1 : ZT 1 1 (.object "MoireEncoder$Row") true := ⟨RX1, TX1, 2, tyX1, rfl, tyX1_ok, nmX1, by decide +kernel, rfl⟩
theorem iwX2 : ∀ w ∈ u_ws RX2 TX2 2, w ∈ gw := gw_of [181, 183] (by decide +kernel) (by decide +kernel)
theorem tX2_0 : ZT 2 0 (.array (.object "MoireEncoder$State")) true := ⟨RX2, TX2, 2, tyX2, rfl, tyX2_ok, nmX2, by decide +kernel, rfl⟩
theorem tX2_1 : ZT 2 1 .int false := ⟨RX2, TX2, 2, tyX2, rfl, tyX2_ok, nmX2, by decide +kernel, rfl⟩
theorem iwX3 : ∀ w ∈ u_ws RX3 TX3 3, w ∈ gw := gw_of [136, 138, 140] (by decide +kernel) (by decide +kernel)
theorem tX3_0 : ZT 3 0 (.object "MoireEncoder$Row") true := ⟨RX3, TX3, 3, tyX3, rfl, tyX3_ok, nmX3, by decide +kernel, rfl⟩
theorem tX3_1 : ZT 3 1 (.object "MoireEncoder$Row") true := ⟨RX3, TX3, 3, tyX3, rfl, tyX3_ok, nmX3, by decide +kernel, rfl⟩
theorem tX3_2 : ZT 3 2 (.object "MoireEncoder$Row") true := ⟨RX3, TX3, 3, tyX3, rfl, tyX3_ok, nmX3, by decide +kernel, rfl⟩
theorem iwX4 : ∀ w ∈ u_ws RX4 TX4 2, w ∈ gw := gw_of [35, 37] (by decide +kernel) (by decide +kernel)
theorem tX4_0 : ZT 4 0 (.array .long) true := ⟨RX4, TX4, 2, tyX4, rfl, tyX4_ok, nmX4, by decide +kernel, rfl⟩
theorem tX4_1 : ZT 4 1 .int false := ⟨RX4, TX4, 2, tyX4, rfl, tyX4_ok, nmX4, by decide +kernel, rfl⟩
theorem iwX5 : ∀ w ∈ u_ws RX5 TX5 6, w ∈ gw := gw_of [78, 80, 82, 84, 86, 88] (by decide +kernel) (by decide +kernel)
theorem tX5_0 : ZT 5 0 (.object "MoireEncoder$Row") true := ⟨RX5, TX5, 6, tyX5, rfl, tyX5_ok, nmX5, by decide +kernel, rfl⟩
theorem tX5_1 : ZT 5 1 (.object "MoireEncoder$Dirt") true := ⟨RX5, TX5, 6, tyX5, rfl, tyX5_ok, nmX5, by decide +kernel, rfl⟩
theorem tX5_2 : ZT 5 2 .int false := ⟨RX5, TX5, 6, tyX5, rfl, tyX5_ok, nmX5, by decide +kernel, rfl⟩
theorem tX5_3 : ZT 5 3 .int false := ⟨RX5, TX5, 6, tyX5, rfl, tyX5_ok, nmX5, by decide +kernel, rfl⟩
theorem tX5_4 : ZT 5 4 .int false := ⟨RX5, TX5, 6, tyX5, rfl, tyX5_ok, nmX5, by decide +kernel, rfl⟩
theorem tX5_5 : ZT 5 5 .int false := ⟨RX5, TX5, 6, tyX5, rfl, tyX5_ok, nmX5, by decide +kernel, rfl⟩
theorem iwX6 : ∀ w ∈ u_ws RX6 TX6 8, w ∈ gw := gw_of [161, 163, 165, 167, 169, 171, 173, 175] (by decide +kernel) (by decide +kernel)
theorem tX6_0 : ZT 6 0 (.object "MoireEncoder$Decoder") true := ⟨RX6, TX6, 8, tyX6, rfl, tyX6_ok, nmX6, by decide +kernel, rfl⟩
theorem tX6_1 : ZT 6 1 (.object "MoireEncoder$Log") true := ⟨RX6, TX6, 8, tyX6, rfl, tyX6_ok, nmX6, by decide +kernel, rfl⟩
theorem tX6_2 : ZT 6 2 (.object "MoireEncoder$Dirt") true := ⟨RX6, TX6, 8, tyX6, rfl, tyX6_ok, nmX6, by decide +kernel, rfl⟩
theorem tX6_3 : ZT 6 3 .int false := ⟨RX6, TX6, 8, tyX6, rfl, tyX6_ok, nmX6, by decide +kernel, rfl⟩
theorem tX6_4 : ZT 6 4 .int false := ⟨RX6, TX6, 8, tyX6, rfl, tyX6_ok, nmX6, by decide +kernel, rfl⟩
theorem tX6_5 : ZT 6 5 .int false := ⟨RX6, TX6, 8, tyX6, rfl, tyX6_ok, nmX6, by decide +kernel, rfl⟩
theorem tX6_6 : ZT 6 6 .int false := ⟨RX6, TX6, 8, tyX6, rfl, tyX6_ok, nmX6, by decide +kernel, rfl⟩
theorem tX6_7 : ZT 6 7 .int false := ⟨RX6, TX6, 8, tyX6, rfl, tyX6_ok, nmX6, by decide +kernel, rfl⟩
theorem iwX7 : ∀ w ∈ u_ws RX7 TX7 7, w ∈ gw := gw_of [375, 377, 379, 381, 383, 385, 387] (by decide +kernel) (by decide +kernel)
theorem tX7_0 : ZT 7 0 (.object "MoireEncoder$Row") true := ⟨RX7, TX7, 7, tyX7, rfl, tyX7_ok, nmX7, by decide +kernel, rfl⟩
theorem tX7_1 : ZT 7 1 (.object "MoireEncoder$Setup") true := ⟨RX7, TX7, 7, tyX7, rfl, tyX7_ok, nmX7, by decide +kernel, rfl⟩
theorem tX7_2 : ZT 7 2 (.object "MoireEncoder$Row") true := ⟨RX7, TX7, 7, tyX7, rfl, tyX7_ok, nmX7, by decide +kernel, rfl⟩
theorem tX7_3 : ZT 7 3 (.object "MoireEncoder$History") true := ⟨RX7, TX7, 7, tyX7, rfl, tyX7_ok, nmX7, by decide +kernel, rfl⟩
theorem tX7_4 : ZT 7 4 (.object "MoireEncoder$Decoder") true := ⟨RX7, TX7, 7, tyX7, rfl, tyX7_ok, nmX7, by decide +kernel, rfl⟩
theorem tX7_5 : ZT 7 5 (.object "MoireEncoder$State") false := ⟨RX7, TX7, 7, tyX7, rfl, tyX7_ok, nmX7, by decide +kernel, rfl⟩
theorem tX7_6 : ZT 7 6 .int false := ⟨RX7, TX7, 7, tyX7, rfl, tyX7_ok, nmX7, by decide +kernel, rfl⟩
theorem iwX8 : ∀ w ∈ u_ws RX8 TX8 15, w ∈ gw := gw_of [694, 696, 698, 700, 702, 704, 706, 708, 710, 712, 714, 716, 718, 720, 722] (by decide +kernel) (by decide +kernel)
theorem tX8_0 : ZT 8 0 (.array .int) true := ⟨RX8, TX8, 15, tyX8, rfl, tyX8_ok, nmX8, by decide +kernel, rfl⟩
theorem tX8_1 : ZT 8 1 .int false := ⟨RX8, TX8, 15, tyX8, rfl, tyX8_ok, nmX8, by decide +kernel, rfl⟩
theorem tX8_2 : ZT 8 2 .int false := ⟨RX8, TX8, 15, tyX8, rfl, tyX8_ok, nmX8, by decide +kernel, rfl⟩
theorem tX8_3 : ZT 8 3 .int false := ⟨RX8, TX8, 15, tyX8, rfl, tyX8_ok, nmX8, by decide +kernel, rfl⟩
theorem tX8_4 : ZT 8 4 .int false := ⟨RX8, TX8, 15, tyX8, rfl, tyX8_ok, nmX8, by decide +kernel, rfl⟩
theorem tX8_5 : ZT 8 5 .int false := ⟨RX8, TX8, 15, tyX8, rfl, tyX8_ok, nmX8, by decide +kernel, rfl⟩
theorem tX8_6 : ZT 8 6 (.array .int) true := ⟨RX8, TX8, 15, tyX8, rfl, tyX8_ok, nmX8, by decide +kernel, rfl⟩
theorem tX8_7 : ZT 8 7 (.array .int) true := ⟨RX8, TX8, 15, tyX8, rfl, tyX8_ok, nmX8, by decide +kernel, rfl⟩
theorem tX8_8 : ZT 8 8 .int false := ⟨RX8, TX8, 15, tyX8, rfl, tyX8_ok, nmX8, by decide +kernel, rfl⟩
theorem tX8_9 : ZT 8 9 .int false := ⟨RX8, TX8, 15, tyX8, rfl, tyX8_ok, nmX8, by decide +kernel, rfl⟩
theorem tX8_10 : ZT 8 10 (.array .int) true := ⟨RX8, TX8, 15, tyX8, rfl, tyX8_ok, nmX8, by decide +kernel, rfl⟩
theorem tX8_11 : ZT 8 11 (.array .int) false := ⟨RX8, TX8, 15, tyX8, rfl, tyX8_ok, nmX8, by decide +kernel, rfl⟩
theorem tX8_12 : ZT 8 12 (.array .int) false := ⟨RX8, TX8, 15, tyX8, rfl, tyX8_ok, nmX8, by decide +kernel, rfl⟩
theorem tX8_13 : ZT 8 13 (.array .int) true := ⟨RX8, TX8, 15, tyX8, rfl, tyX8_ok, nmX8, by decide +kernel, rfl⟩
theorem tX8_14 : ZT 8 14 .int false := ⟨RX8, TX8, 15, tyX8, rfl, tyX8_ok, nmX8, by decide +kernel, rfl⟩
theorem fX4_13 : ZF RX4 13 4 0 := ⟨RX4, TX4, 2, rfl, by decide, iwX4, gw_t 33 (by decide +kernel) rfl⟩
theorem fX4_19 : ZF RX4 19 4 1 := ⟨RX4, TX4, 2, rfl, by decide, iwX4, gw_t 34 (by decide +kernel) rfl⟩
theorem fX1_14 : ZF RX1 14 1 0 := ⟨RX1, TX1, 2, rfl, by decide, iwX1, gw_t 57 (by decide +kernel) rfl⟩
theorem fX7_191 : ZFN RX7 191 1 0 := ⟨RX1, TX1, 2, "MoireEncoder", rfl, by decide, iwX1, by decide +kernel⟩
theorem fX1_20 : ZF RX1 20 1 1 := ⟨RX1, TX1, 2, rfl, by decide, iwX1, gw_t 59 (by decide +kernel) rfl⟩
theorem fX7_197 : ZFN RX7 197 1 1 := ⟨RX1, TX1, 2, "MoireEncoder", rfl, by decide, iwX1, by decide +kernel⟩
theorem fX5_14 : ZF RX5 14 5 0 := ⟨RX5, TX5, 6, rfl, by decide, iwX5, gw_t 66 (by decide +kernel) rfl⟩
theorem fX7_109 : ZFN RX7 109 5 0 := ⟨RX5, TX5, 6, "MoireEncoder", rfl, by decide, iwX5, by decide +kernel⟩
theorem fX5_23 : ZF RX5 23 5 1 := ⟨RX5, TX5, 6, rfl, by decide, iwX5, gw_t 68 (by decide +kernel) rfl⟩
theorem fX6_36 : ZFN RX6 36 5 1 := ⟨RX5, TX5, 6, "MoireEncoder", rfl, by decide, iwX5, by decide +kernel⟩
theorem fX5_31 : ZF RX5 31 5 2 := ⟨RX5, TX5, 6, rfl, by decide, iwX5, gw_t 70 (by decide +kernel) rfl⟩
theorem fX7_85 : ZFN RX7 85 5 2 := ⟨RX5, TX5, 6, "MoireEncoder", rfl, by decide, iwX5, by decide +kernel⟩
theorem fX5_35 : ZF RX5 35 5 3 := ⟨RX5, TX5, 6, rfl, by decide, iwX5, gw_t 72 (by decide +kernel) rfl⟩
theorem fX6_54 : ZFN RX6 54 5 3 := ⟨RX5, TX5, 6, "MoireEncoder", rfl, by decide, iwX5, by decide +kernel⟩
theorem fX5_38 : ZF RX5 38 5 4 := ⟨RX5, TX5, 6, rfl, by decide, iwX5, gw_t 74 (by decide +kernel) rfl⟩
theorem fX6_58 : ZFN RX6 58 5 4 := ⟨RX5, TX5, 6, "MoireEncoder", rfl, by decide, iwX5, by decide +kernel⟩
theorem fX5_41 : ZF RX5 41 5 5 := ⟨RX5, TX5, 6, rfl, by decide, iwX5, gw_t 76 (by decide +kernel) rfl⟩
theorem fX6_50 : ZFN RX6 50 5 5 := ⟨RX5, TX5, 6, "MoireEncoder", rfl, by decide, iwX5, by decide +kernel⟩
theorem fX0_7 : ZF RX0 7 0 0 := ⟨RX0, TX0, 3, rfl, by decide, iwX0, gw_t 110 (by decide +kernel) rfl⟩
theorem fX0_17 : ZF RX0 17 0 1 := ⟨RX0, TX0, 3, rfl, by decide, iwX0, gw_t 111 (by decide +kernel) rfl⟩
theorem fX7_158 : ZFN RX7 158 0 1 := ⟨RX0, TX0, 3, "MoireEncoder", rfl, by decide, iwX0, by decide +kernel⟩
theorem fX0_21 : ZF RX0 21 0 2 := ⟨RX0, TX0, 3, rfl, by decide, iwX0, gw_t 113 (by decide +kernel) rfl⟩
theorem fX7_132 : ZFN RX7 132 0 2 := ⟨RX0, TX0, 3, "MoireEncoder", rfl, by decide, iwX0, by decide +kernel⟩
theorem fX3_14 : ZF RX3 14 3 0 := ⟨RX3, TX3, 3, rfl, by decide, iwX3, gw_t 130 (by decide +kernel) rfl⟩
theorem fX7_267 : ZFN RX7 267 3 0 := ⟨RX3, TX3, 3, "MoireEncoder", rfl, by decide, iwX3, by decide +kernel⟩
theorem fX3_20 : ZF RX3 20 3 1 := ⟨RX3, TX3, 3, rfl, by decide, iwX3, gw_t 132 (by decide +kernel) rfl⟩
theorem fX7_270 : ZFN RX7 270 3 1 := ⟨RX3, TX3, 3, "MoireEncoder", rfl, by decide, iwX3, by decide +kernel⟩
theorem fX3_23 : ZF RX3 23 3 2 := ⟨RX3, TX3, 3, rfl, by decide, iwX3, gw_t 134 (by decide +kernel) rfl⟩
theorem fX7_206 : ZFN RX7 206 3 2 := ⟨RX3, TX3, 3, "MoireEncoder", rfl, by decide, iwX3, by decide +kernel⟩
theorem fX6_10 : ZF RX6 10 6 0 := ⟨RX6, TX6, 8, rfl, by decide, iwX6, gw_t 145 (by decide +kernel) rfl⟩
theorem fX7_129 : ZFN RX7 129 6 0 := ⟨RX6, TX6, 8, "MoireEncoder", rfl, by decide, iwX6, by decide +kernel⟩
theorem fX6_19 : ZF RX6 19 6 1 := ⟨RX6, TX6, 8, rfl, by decide, iwX6, gw_t 147 (by decide +kernel) rfl⟩
theorem fX7_162 : ZFN RX7 162 6 1 := ⟨RX6, TX6, 8, "MoireEncoder", rfl, by decide, iwX6, by decide +kernel⟩
theorem fX6_26 : ZF RX6 26 6 2 := ⟨RX6, TX6, 8, rfl, by decide, iwX6, gw_t 149 (by decide +kernel) rfl⟩
theorem fX7_181 : ZFN RX7 181 6 2 := ⟨RX6, TX6, 8, "MoireEncoder", rfl, by decide, iwX6, by decide +kernel⟩
theorem fX6_43 : ZF RX6 43 6 3 := ⟨RX6, TX6, 8, rfl, by decide, iwX6, gw_t 151 (by decide +kernel) rfl⟩
theorem fX7_135 : ZFN RX7 135 6 3 := ⟨RX6, TX6, 8, "MoireEncoder", rfl, by decide, iwX6, by decide +kernel⟩
theorem fX6_47 : ZF RX6 47 6 4 := ⟨RX6, TX6, 8, rfl, by decide, iwX6, gw_t 153 (by decide +kernel) rfl⟩
theorem fX7_235 : ZFN RX7 235 6 4 := ⟨RX6, TX6, 8, "MoireEncoder", rfl, by decide, iwX6, by decide +kernel⟩
theorem fX6_53 : ZF RX6 53 6 5 := ⟨RX6, TX6, 8, rfl, by decide, iwX6, gw_t 155 (by decide +kernel) rfl⟩
theorem fX7_152 : ZFN RX7 152 6 5 := ⟨RX6, TX6, 8, "MoireEncoder", rfl, by decide, iwX6, by decide +kernel⟩
theorem fX6_57 : ZF RX6 57 6 6 := ⟨RX6, TX6, 8, rfl, by decide, iwX6, gw_t 157 (by decide +kernel) rfl⟩
theorem fX7_172 : ZFN RX7 172 6 6 := ⟨RX6, TX6, 8, "MoireEncoder", rfl, by decide, iwX6, by decide +kernel⟩
theorem fX6_61 : ZF RX6 61 6 7 := ⟨RX6, TX6, 8, rfl, by decide, iwX6, gw_t 159 (by decide +kernel) rfl⟩
theorem fX7_175 : ZFN RX7 175 6 7 := ⟨RX6, TX6, 8, "MoireEncoder", rfl, by decide, iwX6, by decide +kernel⟩
theorem fX2_11 : ZF RX2 11 2 0 := ⟨RX2, TX2, 2, rfl, by decide, iwX2, gw_t 178 (by decide +kernel) rfl⟩
theorem fX2_18 : ZF RX2 18 2 1 := ⟨RX2, TX2, 2, rfl, by decide, iwX2, gw_t 179 (by decide +kernel) rfl⟩
theorem fX7_223 : ZFN RX7 223 2 1 := ⟨RX2, TX2, 2, "MoireEncoder", rfl, by decide, iwX2, by decide +kernel⟩
theorem fX7_14 : ZF RX7 14 7 0 := ⟨RX7, TX7, 7, rfl, by decide, iwX7, gw_t 368 (by decide +kernel) rfl⟩
theorem fX7_21 : ZF RX7 21 7 1 := ⟨RX7, TX7, 7, rfl, by decide, iwX7, gw_t 369 (by decide +kernel) rfl⟩
theorem fX7_25 : ZF RX7 25 7 2 := ⟨RX7, TX7, 7, rfl, by decide, iwX7, gw_t 370 (by decide +kernel) rfl⟩
theorem fX7_31 : ZF RX7 31 7 3 := ⟨RX7, TX7, 7, rfl, by decide, iwX7, gw_t 371 (by decide +kernel) rfl⟩
theorem fX7_38 : ZF RX7 38 7 4 := ⟨RX7, TX7, 7, rfl, by decide, iwX7, gw_t 372 (by decide +kernel) rfl⟩
theorem fX7_45 : ZF RX7 45 7 5 := ⟨RX7, TX7, 7, rfl, by decide, iwX7, gw_t 373 (by decide +kernel) rfl⟩
theorem fX7_108 : ZF RX7 108 7 6 := ⟨RX7, TX7, 7, rfl, by decide, iwX7, gw_t 374 (by decide +kernel) rfl⟩
theorem fX8_7 : ZF RX8 7 8 0 := ⟨RX8, TX8, 15, rfl, by decide, iwX8, gw_t 679 (by decide +kernel) rfl⟩
theorem fX8_61 : ZF RX8 61 8 1 := ⟨RX8, TX8, 15, rfl, by decide, iwX8, gw_t 680 (by decide +kernel) rfl⟩
theorem fX8_64 : ZF RX8 64 8 2 := ⟨RX8, TX8, 15, rfl, by decide, iwX8, gw_t 681 (by decide +kernel) rfl⟩
theorem fX8_67 : ZF RX8 67 8 3 := ⟨RX8, TX8, 15, rfl, by decide, iwX8, gw_t 682 (by decide +kernel) rfl⟩
theorem fX8_34 : ZF RX8 34 8 4 := ⟨RX8, TX8, 15, rfl, by decide, iwX8, gw_t 683 (by decide +kernel) rfl⟩
theorem fX8_38 : ZF RX8 38 8 5 := ⟨RX8, TX8, 15, rfl, by decide, iwX8, gw_t 684 (by decide +kernel) rfl⟩
theorem fX8_13 : ZF RX8 13 8 6 := ⟨RX8, TX8, 15, rfl, by decide, iwX8, gw_t 685 (by decide +kernel) rfl⟩
theorem fX8_16 : ZF RX8 16 8 7 := ⟨RX8, TX8, 15, rfl, by decide, iwX8, gw_t 686 (by decide +kernel) rfl⟩
theorem fX8_44 : ZF RX8 44 8 8 := ⟨RX8, TX8, 15, rfl, by decide, iwX8, gw_t 687 (by decide +kernel) rfl⟩
theorem fX8_47 : ZF RX8 47 8 9 := ⟨RX8, TX8, 15, rfl, by decide, iwX8, gw_t 688 (by decide +kernel) rfl⟩
theorem fX8_19 : ZF RX8 19 8 10 := ⟨RX8, TX8, 15, rfl, by decide, iwX8, gw_t 689 (by decide +kernel) rfl⟩
theorem fX8_22 : ZF RX8 22 8 11 := ⟨RX8, TX8, 15, rfl, by decide, iwX8, gw_t 690 (by decide +kernel) rfl⟩
theorem fX8_25 : ZF RX8 25 8 12 := ⟨RX8, TX8, 15, rfl, by decide, iwX8, gw_t 691 (by decide +kernel) rfl⟩
theorem fX8_28 : ZF RX8 28 8 13 := ⟨RX8, TX8, 15, rfl, by decide, iwX8, gw_t 692 (by decide +kernel) rfl⟩
theorem fX8_50 : ZF RX8 50 8 14 := ⟨RX8, TX8, 15, rfl, by decide, iwX8, gw_t 693 (by decide +kernel) rfl⟩
abbrev YJxf58ca_floatToIntBits_5c35a : ZM := (yJxf58ca_floatToIntBits_5c35a, cJxf58ca_floatToIntBits_5c35a, 1, (some .int))
set_option maxRecDepth 40000 in
theorem gJxf58ca_floatToIntBits_5c35a : ZYs YJxf58ca_floatToIntBits_5c35a 1 := ⟨⟨gw_t 15 (by decide +kernel) rfl, gw_t 892 rfl rfl, ⟨by decide +kernel, by decide +kernel, by decide +kernel⟩, by decide⟩, gw_t 891 (by decide +kernel) rfl⟩
abbrev YJxf58ca_isNaN_12338 : ZM := (yJxf58ca_isNaN_12338, cJxf58ca_isNaN_12338, 1, (some .boolean))
set_option maxRecDepth 40000 in
theorem gJxf58ca_isNaN_12338 : ZYs YJxf58ca_isNaN_12338 1 := ⟨⟨gw_t 15 (by decide +kernel) rfl, gw_t 895 rfl rfl, ⟨by decide +kernel, by decide +kernel, by decide +kernel⟩, by decide⟩, gw_t 894 (by decide +kernel) rfl⟩
abbrev YX0_copyFrom : ZM := (yX0_copyFrom, cX0_copyFrom, 2, none)
set_option maxRecDepth 40000 in
theorem gX0_copyFrom : ZYv YX0_copyFrom 1 := ⟨⟨gw_t 8 (by decide +kernel) rfl, gw_t 430 rfl rfl, ⟨by decide +kernel, by decide +kernel, by decide +kernel⟩, by decide⟩, gw_t 428 (by decide +kernel) rfl, gw_t 429 (by decide +kernel) rfl⟩
abbrev YX0_counts : ZM := (yX0_counts, cX0_counts, 2, (some .boolean))
set_option maxRecDepth 40000 in
theorem gX0_counts : ZYs YX0_counts 2 := ⟨⟨gw_t 8 (by decide +kernel) rfl, gw_t 475 rfl rfl, ⟨by decide +kernel, by decide +kernel, by decide +kernel⟩, by decide⟩, gw_t 474 (by decide +kernel) rfl⟩
abbrev YX0_init : ZM := (yX0_init, cX0_init, 1, none)
set_option maxRecDepth 40000 in
theorem gX0_init : ZYi YX0_init 0 := ⟨⟨gw_t 8 (by decide +kernel) rfl, gw_t 108 rfl rfl, ⟨by decide +kernel, by decide +kernel, by decide +kernel⟩, by decide⟩, gw_t 107 (by decide +kernel) rfl, rfl, rfl⟩
abbrev YX0_read : ZM := (yX0_read, cX0_read, 5, (some .boolean))
set_option maxRecDepth 40000 in
theorem gX0_read : ZYv YX0_read 2 := ⟨⟨gw_t 8 (by decide +kernel) rfl, gw_t 472 rfl rfl, ⟨by decide +kernel, by decide +kernel, by decide +kernel⟩, by decide⟩, gw_t 470 (by decide +kernel) rfl, gw_t 471 (by decide +kernel) rfl⟩
abbrev YX0_reset : ZM := (yX0_reset, cX0_reset, 1, none)
set_option maxRecDepth 40000 in
theorem gX0_reset : ZYv YX0_reset 0 := ⟨⟨gw_t 8 (by decide +kernel) rfl, gw_t 352 rfl rfl, ⟨by decide +kernel, by decide +kernel, by decide +kernel⟩, by decide⟩, gw_t 350 (by decide +kernel) rfl, gw_t 351 (by decide +kernel) rfl⟩
abbrev YX1_add : ZM := (yX1_add, cX1_add, 3, none)
set_option maxRecDepth 40000 in
theorem gX1_add : ZYv YX1_add 2 := ⟨⟨gw_t 5 (by decide +kernel) rfl, gw_t 334 rfl rfl, ⟨by decide +kernel, by decide +kernel, by decide +kernel⟩, by decide⟩, gw_t 332 (by decide +kernel) rfl, gw_t 333 (by decide +kernel) rfl⟩
abbrev YX1_clear : ZM := (yX1_clear, cX1_clear, 1, none)
set_option maxRecDepth 40000 in
theorem gX1_clear : ZYv YX1_clear 0 := ⟨⟨gw_t 5 (by decide +kernel) rfl, gw_t 258 rfl rfl, ⟨by decide +kernel, by decide +kernel, by decide +kernel⟩, by decide⟩, gw_t 256 (by decide +kernel) rfl, gw_t 257 (by decide +kernel) rfl⟩
abbrev YX1_copyFrom : ZM := (yX1_copyFrom, cX1_copyFrom, 2, none)
set_option maxRecDepth 40000 in
theorem gX1_copyFrom : ZYv YX1_copyFrom 1 := ⟨⟨gw_t 5 (by decide +kernel) rfl, gw_t 361 rfl rfl, ⟨by decide +kernel, by decide +kernel, by decide +kernel⟩, by decide⟩, gw_t 359 (by decide +kernel) rfl, gw_t 360 (by decide +kernel) rfl⟩
abbrev YX1_covers : ZM := (yX1_covers, cX1_covers, 4, (some .boolean))
set_option maxRecDepth 40000 in
theorem gX1_covers : ZYv YX1_covers 1 := ⟨⟨gw_t 5 (by decide +kernel) rfl, gw_t 459 rfl rfl, ⟨by decide +kernel, by decide +kernel, by decide +kernel⟩, by decide⟩, gw_t 457 (by decide +kernel) rfl, gw_t 458 (by decide +kernel) rfl⟩
abbrev YX1_init : ZM := (yX1_init, cX1_init, 1, none)
set_option maxRecDepth 40000 in
theorem gX1_init : ZYi YX1_init 0 := ⟨⟨gw_t 5 (by decide +kernel) rfl, gw_t 53 rfl rfl, ⟨by decide +kernel, by decide +kernel, by decide +kernel⟩, by decide⟩, gw_t 52 (by decide +kernel) rfl, rfl, rfl⟩
abbrev YX1_isFull : ZM := (yX1_isFull, cX1_isFull, 1, (some .boolean))
set_option maxRecDepth 40000 in
theorem gX1_isFull : ZYv YX1_isFull 0 := ⟨⟨gw_t 5 (by decide +kernel) rfl, gw_t 325 rfl rfl, ⟨by decide +kernel, by decide +kernel, by decide +kernel⟩, by decide⟩, gw_t 323 (by decide +kernel) rfl, gw_t 324 (by decide +kernel) rfl⟩
abbrev YX1_removeAt : ZM := (yX1_removeAt, cX1_removeAt, 2, none)
set_option maxRecDepth 40000 in
theorem gX1_removeAt : ZYv YX1_removeAt 1 := ⟨⟨gw_t 5 (by decide +kernel) rfl, gw_t 524 rfl rfl, ⟨by decide +kernel, by decide +kernel, by decide +kernel⟩, by decide⟩, gw_t 522 (by decide +kernel) rfl, gw_t 523 (by decide +kernel) rfl⟩
abbrev YX2_dropOldest : ZM := (yX2_dropOldest, cX2_dropOldest, 3, none)
set_option maxRecDepth 40000 in
theorem gX2_dropOldest : ZYv YX2_dropOldest 0 := ⟨⟨gw_t 6 (by decide +kernel) rfl, gw_t 422 rfl rfl, ⟨by decide +kernel, by decide +kernel, by decide +kernel⟩, by decide⟩, gw_t 421 (by decide +kernel) rfl, gw_s 7 (by decide +kernel) rfl⟩
abbrev YX2_forgetAll : ZM := (yX2_forgetAll, cX2_forgetAll, 1, none)
set_option maxRecDepth 40000 in
theorem gX2_forgetAll : ZYv YX2_forgetAll 0 := ⟨⟨gw_t 6 (by decide +kernel) rfl, gw_t 366 rfl rfl, ⟨by decide +kernel, by decide +kernel, by decide +kernel⟩, by decide⟩, gw_t 364 (by decide +kernel) rfl, gw_t 365 (by decide +kernel) rfl⟩
abbrev YX2_init : ZM := (yX2_init, cX2_init, 2, none)
set_option maxRecDepth 40000 in
theorem gX2_init : ZYi YX2_init 0 := ⟨⟨gw_t 6 (by decide +kernel) rfl, gw_t 95 rfl rfl, ⟨by decide +kernel, by decide +kernel, by decide +kernel⟩, by decide⟩, gw_t 94 (by decide +kernel) rfl, rfl, rfl⟩
abbrev YX2_remember : ZM := (yX2_remember, cX2_remember, 2, none)
set_option maxRecDepth 40000 in
theorem gX2_remember : ZYv YX2_remember 1 := ⟨⟨gw_t 6 (by decide +kernel) rfl, gw_t 418 rfl rfl, ⟨by decide +kernel, by decide +kernel, by decide +kernel⟩, by decide⟩, gw_t 416 (by decide +kernel) rfl, gw_t 417 (by decide +kernel) rfl⟩
abbrev YX2_takeBack : ZM := (yX2_takeBack, cX2_takeBack, 4, (some (.object "MoireEncoder$State")))
set_option maxRecDepth 40000 in
theorem gX2_takeBack : ZYv YX2_takeBack 1 := ⟨⟨gw_t 6 (by decide +kernel) rfl, gw_t 556 rfl rfl, ⟨by decide +kernel, by decide +kernel, by decide +kernel⟩, by decide⟩, gw_t 554 (by decide +kernel) rfl, gw_t 555 (by decide +kernel) rfl⟩
abbrev YX3_add : ZM := (yX3_add, cX3_add, 5, none)
set_option maxRecDepth 40000 in
theorem gX3_add : ZYv YX3_add 3 := ⟨⟨gw_t 9 (by decide +kernel) rfl, gw_t 485 rfl rfl, ⟨by decide +kernel, by decide +kernel, by decide +kernel⟩, by decide⟩, gw_t 483 (by decide +kernel) rfl, gw_t 484 (by decide +kernel) rfl⟩
abbrev YX3_clear : ZM := (yX3_clear, cX3_clear, 1, none)
set_option maxRecDepth 40000 in
theorem gX3_clear : ZYv YX3_clear 0 := ⟨⟨gw_t 9 (by decide +kernel) rfl, gw_t 356 rfl rfl, ⟨by decide +kernel, by decide +kernel, by decide +kernel⟩, by decide⟩, gw_t 354 (by decide +kernel) rfl, gw_t 355 (by decide +kernel) rfl⟩
abbrev YX3_copyFrom : ZM := (yX3_copyFrom, cX3_copyFrom, 2, none)
set_option maxRecDepth 40000 in
theorem gX3_copyFrom : ZYv YX3_copyFrom 1 := ⟨⟨gw_t 9 (by decide +kernel) rfl, gw_t 434 rfl rfl, ⟨by decide +kernel, by decide +kernel, by decide +kernel⟩, by decide⟩, gw_t 432 (by decide +kernel) rfl, gw_t 433 (by decide +kernel) rfl⟩
abbrev YX3_init : ZM := (yX3_init, cX3_init, 1, none)
set_option maxRecDepth 40000 in
theorem gX3_init : ZYi YX3_init 0 := ⟨⟨gw_t 9 (by decide +kernel) rfl, gw_t 126 rfl rfl, ⟨by decide +kernel, by decide +kernel, by decide +kernel⟩, by decide⟩, gw_t 125 (by decide +kernel) rfl, rfl, rfl⟩
abbrev YX3_markEventFrom : ZM := (yX3_markEventFrom, cX3_markEventFrom, 3, (some .int))
set_option maxRecDepth 40000 in
theorem gX3_markEventFrom : ZYv YX3_markEventFrom 1 := ⟨⟨gw_t 9 (by decide +kernel) rfl, gw_t 540 rfl rfl, ⟨by decide +kernel, by decide +kernel, by decide +kernel⟩, by decide⟩, gw_t 538 (by decide +kernel) rfl, gw_t 539 (by decide +kernel) rfl⟩
abbrev YX3_wantsMiss : ZM := (yX3_wantsMiss, cX3_wantsMiss, 1, (some .boolean))
set_option maxRecDepth 40000 in
theorem gX3_wantsMiss : ZYv YX3_wantsMiss 0 := ⟨⟨gw_t 9 (by decide +kernel) rfl, gw_t 479 rfl rfl, ⟨by decide +kernel, by decide +kernel, by decide +kernel⟩, by decide⟩, gw_t 477 (by decide +kernel) rfl, gw_t 478 (by decide +kernel) rfl⟩
abbrev YX4_add : ZM := (yX4_add, cX4_add, 3, none)
set_option maxRecDepth 40000 in
theorem gX4_add : ZYv YX4_add 1 := ⟨⟨gw_t 2 (by decide +kernel) rfl, gw_t 242 rfl rfl, ⟨by decide +kernel, by decide +kernel, by decide +kernel⟩, by decide⟩, gw_t 240 (by decide +kernel) rfl, gw_t 241 (by decide +kernel) rfl⟩
abbrev YX4_addFirst : ZM := (yX4_addFirst, cX4_addFirst, 4, none)
set_option maxRecDepth 40000 in
theorem gX4_addFirst : ZYv YX4_addFirst 1 := ⟨⟨gw_t 2 (by decide +kernel) rfl, gw_t 489 rfl rfl, ⟨by decide +kernel, by decide +kernel, by decide +kernel⟩, by decide⟩, gw_t 487 (by decide +kernel) rfl, gw_t 488 (by decide +kernel) rfl⟩
abbrev YX4_clear : ZM := (yX4_clear, cX4_clear, 1, none)
set_option maxRecDepth 40000 in
theorem gX4_clear : ZYv YX4_clear 0 := ⟨⟨gw_t 2 (by decide +kernel) rfl, gw_t 254 rfl rfl, ⟨by decide +kernel, by decide +kernel, by decide +kernel⟩, by decide⟩, gw_t 252 (by decide +kernel) rfl, gw_t 253 (by decide +kernel) rfl⟩
abbrev YX4_copyFrom : ZM := (yX4_copyFrom, cX4_copyFrom, 3, none)
set_option maxRecDepth 40000 in
theorem gX4_copyFrom : ZYv YX4_copyFrom 1 := ⟨⟨gw_t 2 (by decide +kernel) rfl, gw_t 343 rfl rfl, ⟨by decide +kernel, by decide +kernel, by decide +kernel⟩, by decide⟩, gw_t 341 (by decide +kernel) rfl, gw_t 342 (by decide +kernel) rfl⟩
abbrev YX4_has : ZM := (yX4_has, cX4_has, 2, (some .boolean))
set_option maxRecDepth 40000 in
theorem gX4_has : ZYv YX4_has 1 := ⟨⟨gw_t 2 (by decide +kernel) rfl, gw_t 279 rfl rfl, ⟨by decide +kernel, by decide +kernel, by decide +kernel⟩, by decide⟩, gw_t 277 (by decide +kernel) rfl, gw_t 278 (by decide +kernel) rfl⟩
abbrev YX4_init : ZM := (yX4_init, cX4_init, 2, none)
set_option maxRecDepth 40000 in
theorem gX4_init : ZYi YX4_init 1 := ⟨⟨gw_t 2 (by decide +kernel) rfl, gw_t 28 rfl rfl, ⟨by decide +kernel, by decide +kernel, by decide +kernel⟩, by decide⟩, gw_t 27 (by decide +kernel) rfl, rfl, rfl⟩
abbrev YX4_intAt : ZM := (yX4_intAt, cX4_intAt, 2, (some .int))
set_option maxRecDepth 40000 in
theorem gX4_intAt : ZYv YX4_intAt 1 := ⟨⟨gw_t 2 (by decide +kernel) rfl, gw_t 271 rfl rfl, ⟨by decide +kernel, by decide +kernel, by decide +kernel⟩, by decide⟩, gw_t 269 (by decide +kernel) rfl, gw_t 270 (by decide +kernel) rfl⟩
abbrev YX4_isFull : ZM := (yX4_isFull, cX4_isFull, 1, (some .boolean))
set_option maxRecDepth 40000 in
theorem gX4_isFull : ZYv YX4_isFull 0 := ⟨⟨gw_t 2 (by decide +kernel) rfl, gw_t 313 rfl rfl, ⟨by decide +kernel, by decide +kernel, by decide +kernel⟩, by decide⟩, gw_t 311 (by decide +kernel) rfl, gw_t 312 (by decide +kernel) rfl⟩
abbrev YX4_longAt : ZM := (yX4_longAt, cX4_longAt, 2, (some .long))
set_option maxRecDepth 40000 in
theorem gX4_longAt : ZYv YX4_longAt 1 := ⟨⟨gw_t 2 (by decide +kernel) rfl, gw_t 275 rfl rfl, ⟨by decide +kernel, by decide +kernel, by decide +kernel⟩, by decide⟩, gw_t 273 (by decide +kernel) rfl, gw_t 274 (by decide +kernel) rfl⟩
abbrev YX4_removeAt : ZM := (yX4_removeAt, cX4_removeAt, 3, none)
set_option maxRecDepth 40000 in
theorem gX4_removeAt : ZYv YX4_removeAt 1 := ⟨⟨gw_t 2 (by decide +kernel) rfl, gw_t 528 rfl rfl, ⟨by decide +kernel, by decide +kernel, by decide +kernel⟩, by decide⟩, gw_t 526 (by decide +kernel) rfl, gw_t 527 (by decide +kernel) rfl⟩
abbrev YX4_size : ZM := (yX4_size, cX4_size, 1, (some .int))
set_option maxRecDepth 40000 in
theorem gX4_size : ZYv YX4_size 0 := ⟨⟨gw_t 2 (by decide +kernel) rfl, gw_t 263 rfl rfl, ⟨by decide +kernel, by decide +kernel, by decide +kernel⟩, by decide⟩, gw_t 261 (by decide +kernel) rfl, gw_t 262 (by decide +kernel) rfl⟩
abbrev YX5_init : ZM := (yX5_init, cX5_init, 1, none)
set_option maxRecDepth 40000 in
theorem gX5_init : ZYi YX5_init 0 := ⟨⟨gw_t 4 (by decide +kernel) rfl, gw_t 45 rfl rfl, ⟨by decide +kernel, by decide +kernel, by decide +kernel⟩, by decide⟩, gw_t 44 (by decide +kernel) rfl, rfl, rfl⟩
abbrev YX5_reset : ZM := (yX5_reset, cX5_reset, 1, none)
set_option maxRecDepth 40000 in
theorem gX5_reset : ZYv YX5_reset 0 := ⟨⟨gw_t 4 (by decide +kernel) rfl, gw_t 250 rfl rfl, ⟨by decide +kernel, by decide +kernel, by decide +kernel⟩, by decide⟩, gw_t 248 (by decide +kernel) rfl, gw_t 249 (by decide +kernel) rfl⟩
abbrev YX5_take : ZM := (yX5_take, cX5_take, 4, (some .boolean))
set_option maxRecDepth 40000 in
theorem gX5_take : ZYv YX5_take 3 := ⟨⟨gw_t 4 (by decide +kernel) rfl, gw_t 294 rfl rfl, ⟨by decide +kernel, by decide +kernel, by decide +kernel⟩, by decide⟩, gw_t 292 (by decide +kernel) rfl, gw_t 293 (by decide +kernel) rfl⟩
abbrev YX5_takeDirt : ZM := (yX5_takeDirt, cX5_takeDirt, 3, (some .boolean))
set_option maxRecDepth 40000 in
theorem gX5_takeDirt : ZYv YX5_takeDirt 2 := ⟨⟨gw_t 4 (by decide +kernel) rfl, gw_t 321 rfl rfl, ⟨by decide +kernel, by decide +kernel, by decide +kernel⟩, by decide⟩, gw_t 320 (by decide +kernel) rfl, gw_s 5 (by decide +kernel) rfl⟩
abbrev YX5_takeMark : ZM := (yX5_takeMark, cX5_takeMark, 3, (some .boolean))
set_option maxRecDepth 40000 in
theorem gX5_takeMark : ZYv YX5_takeMark 1 := ⟨⟨gw_t 4 (by decide +kernel) rfl, gw_t 307 rfl rfl, ⟨by decide +kernel, by decide +kernel, by decide +kernel⟩, by decide⟩, gw_t 306 (by decide +kernel) rfl, gw_s 4 (by decide +kernel) rfl⟩
abbrev YX6_copyFrom : ZM := (yX6_copyFrom, cX6_copyFrom, 2, none)
set_option maxRecDepth 40000 in
theorem gX6_copyFrom : ZYv YX6_copyFrom 1 := ⟨⟨gw_t 7 (by decide +kernel) rfl, gw_t 426 rfl rfl, ⟨by decide +kernel, by decide +kernel, by decide +kernel⟩, by decide⟩, gw_t 424 (by decide +kernel) rfl, gw_t 425 (by decide +kernel) rfl⟩
abbrev YX6_init : ZM := (yX6_init, cX6_init, 1, none)
set_option maxRecDepth 40000 in
theorem gX6_init : ZYi YX6_init 0 := ⟨⟨gw_t 7 (by decide +kernel) rfl, gw_t 102 rfl rfl, ⟨by decide +kernel, by decide +kernel, by decide +kernel⟩, by decide⟩, gw_t 101 (by decide +kernel) rfl, rfl, rfl⟩
abbrev YX6_startFrom : ZM := (yX6_startFrom, cX6_startFrom, 2, none)
set_option maxRecDepth 40000 in
theorem gX6_startFrom : ZYv YX6_startFrom 1 := ⟨⟨gw_t 7 (by decide +kernel) rfl, gw_t 348 rfl rfl, ⟨by decide +kernel, by decide +kernel, by decide +kernel⟩, by decide⟩, gw_t 346 (by decide +kernel) rfl, gw_t 347 (by decide +kernel) rfl⟩
abbrev YX7_addDirt : ZM := (yX7_addDirt, cX7_addDirt, 3, (some .int))
set_option maxRecDepth 40000 in
theorem gX7_addDirt : ZYv YX7_addDirt 2 := ⟨⟨gw_t 1 (by decide +kernel) rfl, gw_t 512 rfl rfl, ⟨by decide +kernel, by decide +kernel, by decide +kernel⟩, by decide⟩, gw_t 510 (by decide +kernel) rfl, gw_t 511 (by decide +kernel) rfl⟩
abbrev YX7_append : ZM := (yX7_append, cX7_append, 2, (some .int))
set_option maxRecDepth 40000 in
theorem gX7_append : ZYv YX7_append 1 := ⟨⟨gw_t 1 (by decide +kernel) rfl, gw_t 394 rfl rfl, ⟨by decide +kernel, by decide +kernel, by decide +kernel⟩, by decide⟩, gw_t 392 (by decide +kernel) rfl, gw_t 393 (by decide +kernel) rfl⟩
abbrev YX7_bitsOf : ZM := (yX7_bitsOf, cX7_bitsOf, 4, (some .int))
set_option maxRecDepth 40000 in
theorem gX7_bitsOf : ZYs YX7_bitsOf 1 := ⟨⟨gw_t 1 (by decide +kernel) rfl, gw_t 583 rfl rfl, ⟨by decide +kernel, by decide +kernel, by decide +kernel⟩, by decide⟩, gw_t 582 (by decide +kernel) rfl⟩
abbrev YX7_brightCells : ZM := (yX7_brightCells, cX7_brightCells, 5, (some .int))
set_option maxRecDepth 40000 in
theorem gX7_brightCells : ZYv YX7_brightCells 2 := ⟨⟨gw_t 1 (by decide +kernel) rfl, gw_t 626 rfl rfl, ⟨by decide +kernel, by decide +kernel, by decide +kernel⟩, by decide⟩, gw_t 625 (by decide +kernel) rfl, gw_s 15 (by decide +kernel) rfl⟩
abbrev YX7_brightestStart : ZM := (yX7_brightestStart, cX7_brightestStart, 6, (some .int))
set_option maxRecDepth 40000 in
theorem gX7_brightestStart : ZYv YX7_brightestStart 1 := ⟨⟨gw_t 1 (by decide +kernel) rfl, gw_t 633 rfl rfl, ⟨by decide +kernel, by decide +kernel, by decide +kernel⟩, by decide⟩, gw_t 631 (by decide +kernel) rfl, gw_t 632 (by decide +kernel) rfl⟩
abbrev YX7_brightness : ZM := (yX7_brightness, cX7_brightness, 3, (some .int))
set_option maxRecDepth 40000 in
theorem gX7_brightness : ZYv YX7_brightness 2 := ⟨⟨gw_t 1 (by decide +kernel) rfl, gw_t 622 rfl rfl, ⟨by decide +kernel, by decide +kernel, by decide +kernel⟩, by decide⟩, gw_t 620 (by decide +kernel) rfl, gw_t 621 (by decide +kernel) rfl⟩
abbrev YX7_clearText : ZM := (yX7_clearText, cX7_clearText, 2, (some .int))
set_option maxRecDepth 40000 in
theorem gX7_clearText : ZYv YX7_clearText 0 := ⟨⟨gw_t 1 (by decide +kernel) rfl, gw_t 399 rfl rfl, ⟨by decide +kernel, by decide +kernel, by decide +kernel⟩, by decide⟩, gw_t 397 (by decide +kernel) rfl, gw_t 398 (by decide +kernel) rfl⟩
abbrev YX7_commonDivisor : ZM := (yX7_commonDivisor, cX7_commonDivisor, 6, (some .int))
set_option maxRecDepth 40000 in
theorem gX7_commonDivisor : ZYs YX7_commonDivisor 2 := ⟨⟨gw_t 1 (by decide +kernel) rfl, gw_t 640 rfl rfl, ⟨by decide +kernel, by decide +kernel, by decide +kernel⟩, by decide⟩, gw_t 639 (by decide +kernel) rfl⟩
abbrev YX7_configure : ZM := (yX7_configure, cX7_configure, 1, (some .int))
set_option maxRecDepth 40000 in
theorem gX7_configure : ZYv YX7_configure 0 := ⟨⟨gw_t 1 (by decide +kernel) rfl, gw_t 407 rfl rfl, ⟨by decide +kernel, by decide +kernel, by decide +kernel⟩, by decide⟩, gw_t 405 (by decide +kernel) rfl, gw_t 406 (by decide +kernel) rfl⟩
abbrev YX7_countAt : ZM := (yX7_countAt, cX7_countAt, 2, (some .int))
set_option maxRecDepth 40000 in
theorem gX7_countAt : ZYv YX7_countAt 1 := ⟨⟨gw_t 1 (by decide +kernel) rfl, gw_t 502 rfl rfl, ⟨by decide +kernel, by decide +kernel, by decide +kernel⟩, by decide⟩, gw_t 501 (by decide +kernel) rfl, gw_s 12 (by decide +kernel) rfl⟩
abbrev YX7_counter : ZM := (yX7_counter, cX7_counter, 1, (some .long))
set_option maxRecDepth 40000 in
theorem gX7_counter : ZYv YX7_counter 0 := ⟨⟨gw_t 1 (by decide +kernel) rfl, gw_t 564 rfl rfl, ⟨by decide +kernel, by decide +kernel, by decide +kernel⟩, by decide⟩, gw_t 562 (by decide +kernel) rfl, gw_t 563 (by decide +kernel) rfl⟩
abbrev YX7_crossedSpacingBits : ZM := (yX7_crossedSpacingBits, cX7_crossedSpacingBits, 3, (some .int))
set_option maxRecDepth 40000 in
theorem gX7_crossedSpacingBits : ZYv YX7_crossedSpacingBits 2 := ⟨⟨gw_t 1 (by decide +kernel) rfl, gw_t 664 rfl rfl, ⟨by decide +kernel, by decide +kernel, by decide +kernel⟩, by decide⟩, gw_t 662 (by decide +kernel) rfl, gw_t 663 (by decide +kernel) rfl⟩
abbrev YX7_digitsFrom : ZM := (yX7_digitsFrom, cX7_digitsFrom, 3, (some .int))
set_option maxRecDepth 40000 in
theorem gX7_digitsFrom : ZYv YX7_digitsFrom 1 := ⟨⟨gw_t 1 (by decide +kernel) rfl, gw_t 287 rfl rfl, ⟨by decide +kernel, by decide +kernel, by decide +kernel⟩, by decide⟩, gw_t 286 (by decide +kernel) rfl, gw_s 3 (by decide +kernel) rfl⟩
abbrev YX7_eventCounter : ZM := (yX7_eventCounter, cX7_eventCounter, 2, (some .long))
set_option maxRecDepth 40000 in
theorem gX7_eventCounter : ZYv YX7_eventCounter 1 := ⟨⟨gw_t 1 (by decide +kernel) rfl, gw_t 604 rfl rfl, ⟨by decide +kernel, by decide +kernel, by decide +kernel⟩, by decide⟩, gw_t 602 (by decide +kernel) rfl, gw_t 603 (by decide +kernel) rfl⟩
abbrev YX7_eventKind : ZM := (yX7_eventKind, cX7_eventKind, 2, (some .int))
set_option maxRecDepth 40000 in
theorem gX7_eventKind : ZYv YX7_eventKind 1 := ⟨⟨gw_t 1 (by decide +kernel) rfl, gw_t 596 rfl rfl, ⟨by decide +kernel, by decide +kernel, by decide +kernel⟩, by decide⟩, gw_t 594 (by decide +kernel) rfl, gw_t 595 (by decide +kernel) rfl⟩
abbrev YX7_eventPosition : ZM := (yX7_eventPosition, cX7_eventPosition, 2, (some .int))
set_option maxRecDepth 40000 in
theorem gX7_eventPosition : ZYv YX7_eventPosition 1 := ⟨⟨gw_t 1 (by decide +kernel) rfl, gw_t 600 rfl rfl, ⟨by decide +kernel, by decide +kernel, by decide +kernel⟩, by decide⟩, gw_t 598 (by decide +kernel) rfl, gw_t 599 (by decide +kernel) rfl⟩
abbrev YX7_expectedCount : ZM := (yX7_expectedCount, cX7_expectedCount, 2, (some .int))
set_option maxRecDepth 40000 in
theorem gX7_expectedCount : ZYv YX7_expectedCount 1 := ⟨⟨gw_t 1 (by decide +kernel) rfl, gw_t 592 rfl rfl, ⟨by decide +kernel, by decide +kernel, by decide +kernel⟩, by decide⟩, gw_t 590 (by decide +kernel) rfl, gw_t 591 (by decide +kernel) rfl⟩
abbrev YX7_fastestSafeSpeed : ZM := (yX7_fastestSafeSpeed, cX7_fastestSafeSpeed, 3, (some .int))
set_option maxRecDepth 40000 in
theorem gX7_fastestSafeSpeed : ZYv YX7_fastestSafeSpeed 1 := ⟨⟨gw_t 1 (by decide +kernel) rfl, gw_t 614 rfl rfl, ⟨by decide +kernel, by decide +kernel, by decide +kernel⟩, by decide⟩, gw_t 612 (by decide +kernel) rfl, gw_t 613 (by decide +kernel) rfl⟩
abbrev YX7_firstError : ZM := (yX7_firstError, cX7_firstError, 1, (some .int))
set_option maxRecDepth 40000 in
theorem gX7_firstError : ZYv YX7_firstError 0 := ⟨⟨gw_t 1 (by decide +kernel) rfl, gw_t 403 rfl rfl, ⟨by decide +kernel, by decide +kernel, by decide +kernel⟩, by decide⟩, gw_t 401 (by decide +kernel) rfl, gw_t 402 (by decide +kernel) rfl⟩
abbrev YX7_fringePeriodDenominator : ZM := (yX7_fringePeriodDenominator, cX7_fringePeriodDenominator, 1, (some .int))
set_option maxRecDepth 40000 in
theorem gX7_fringePeriodDenominator : ZYv YX7_fringePeriodDenominator 0 := ⟨⟨gw_t 1 (by decide +kernel) rfl, gw_t 656 rfl rfl, ⟨by decide +kernel, by decide +kernel, by decide +kernel⟩, by decide⟩, gw_t 654 (by decide +kernel) rfl, gw_t 655 (by decide +kernel) rfl⟩
abbrev YX7_fringePeriodNumerator : ZM := (yX7_fringePeriodNumerator, cX7_fringePeriodNumerator, 1, (some .int))
set_option maxRecDepth 40000 in
theorem gX7_fringePeriodNumerator : ZYv YX7_fringePeriodNumerator 0 := ⟨⟨gw_t 1 (by decide +kernel) rfl, gw_t 644 rfl rfl, ⟨by decide +kernel, by decide +kernel, by decide +kernel⟩, by decide⟩, gw_t 642 (by decide +kernel) rfl, gw_t 643 (by decide +kernel) rfl⟩
abbrev YX7_inLowestTerms : ZM := (yX7_inLowestTerms, cX7_inLowestTerms, 3, (some .int))
set_option maxRecDepth 40000 in
theorem gX7_inLowestTerms : ZYv YX7_inLowestTerms 1 := ⟨⟨gw_t 1 (by decide +kernel) rfl, gw_t 648 rfl rfl, ⟨by decide +kernel, by decide +kernel, by decide +kernel⟩, by decide⟩, gw_t 647 (by decide +kernel) rfl, gw_s 16 (by decide +kernel) rfl⟩
abbrev YX7_init : ZM := (yX7_init, cX7_init, 2, none)
set_option maxRecDepth 40000 in
theorem gX7_init : ZYi YX7_init 0 := ⟨⟨gw_t 1 (by decide +kernel) rfl, gw_t 20 rfl rfl, ⟨by decide +kernel, by decide +kernel, by decide +kernel⟩, by decide⟩, gw_t 19 (by decide +kernel) rfl, rfl, rfl⟩
abbrev YX7_isClear : ZM := (yX7_isClear, cX7_isClear, 2, (some .boolean))
set_option maxRecDepth 40000 in
theorem gX7_isClear : ZYs YX7_isClear 2 := ⟨⟨gw_t 1 (by decide +kernel) rfl, gw_t 629 rfl rfl, ⟨by decide +kernel, by decide +kernel, by decide +kernel⟩, by decide⟩, gw_t 628 (by decide +kernel) rfl⟩
abbrev YX7_isDirt : ZM := (yX7_isDirt, cX7_isDirt, 2, (some .boolean))
set_option maxRecDepth 40000 in
theorem gX7_isDirt : ZYs YX7_isDirt 2 := ⟨⟨gw_t 1 (by decide +kernel) rfl, gw_t 329 rfl rfl, ⟨by decide +kernel, by decide +kernel, by decide +kernel⟩, by decide⟩, gw_t 328 (by decide +kernel) rfl⟩
abbrev YX7_isIndexGrating : ZM := (yX7_isIndexGrating, cX7_isIndexGrating, 2, (some .boolean))
set_option maxRecDepth 40000 in
theorem gX7_isIndexGrating : ZYs YX7_isIndexGrating 2 := ⟨⟨gw_t 1 (by decide +kernel) rfl, gw_t 300 rfl rfl, ⟨by decide +kernel, by decide +kernel, by decide +kernel⟩, by decide⟩, gw_t 299 (by decide +kernel) rfl⟩
abbrev YX7_isMode : ZM := (yX7_isMode, cX7_isMode, 1, (some .boolean))
set_option maxRecDepth 40000 in
theorem gX7_isMode : ZYs YX7_isMode 1 := ⟨⟨gw_t 1 (by decide +kernel) rfl, gw_t 303 rfl rfl, ⟨by decide +kernel, by decide +kernel, by decide +kernel⟩, by decide⟩, gw_t 302 (by decide +kernel) rfl⟩
abbrev YX7_isMove : ZM := (yX7_isMove, cX7_isMove, 2, (some .boolean))
set_option maxRecDepth 40000 in
theorem gX7_isMove : ZYs YX7_isMove 2 := ⟨⟨gw_t 1 (by decide +kernel) rfl, gw_t 414 rfl rfl, ⟨by decide +kernel, by decide +kernel, by decide +kernel⟩, by decide⟩, gw_t 413 (by decide +kernel) rfl⟩
abbrev YX7_isPosition : ZM := (yX7_isPosition, cX7_isPosition, 1, (some .boolean))
set_option maxRecDepth 40000 in
theorem gX7_isPosition : ZYs YX7_isPosition 1 := ⟨⟨gw_t 1 (by decide +kernel) rfl, gw_t 316 rfl rfl, ⟨by decide +kernel, by decide +kernel, by decide +kernel⟩, by decide⟩, gw_t 315 (by decide +kernel) rfl⟩
abbrev YX7_isSafe : ZM := (yX7_isSafe, cX7_isSafe, 5, (some .boolean))
set_option maxRecDepth 40000 in
theorem gX7_isSafe : ZYv YX7_isSafe 2 := ⟨⟨gw_t 1 (by decide +kernel) rfl, gw_t 618 rfl rfl, ⟨by decide +kernel, by decide +kernel, by decide +kernel⟩, by decide⟩, gw_t 617 (by decide +kernel) rfl, gw_s 14 (by decide +kernel) rfl⟩
abbrev YX7_isScalePitch : ZM := (yX7_isScalePitch, cX7_isScalePitch, 1, (some .boolean))
set_option maxRecDepth 40000 in
theorem gX7_isScalePitch : ZYs YX7_isScalePitch 1 := ⟨⟨gw_t 1 (by decide +kernel) rfl, gw_t 297 rfl rfl, ⟨by decide +kernel, by decide +kernel, by decide +kernel⟩, by decide⟩, gw_t 296 (by decide +kernel) rfl⟩
abbrev YX7_logPassedMarks : ZM := (yX7_logPassedMarks, cX7_logPassedMarks, 8, none)
set_option maxRecDepth 40000 in
theorem gX7_logPassedMarks : ZYv YX7_logPassedMarks 2 := ⟨⟨gw_t 1 (by decide +kernel) rfl, gw_t 493 rfl rfl, ⟨by decide +kernel, by decide +kernel, by decide +kernel⟩, by decide⟩, gw_t 492 (by decide +kernel) rfl, gw_s 11 (by decide +kernel) rfl⟩
abbrev YX7_magnificationBits : ZM := (yX7_magnificationBits, cX7_magnificationBits, 2, (some .int))
set_option maxRecDepth 40000 in
theorem gX7_magnificationBits : ZYv YX7_magnificationBits 0 := ⟨⟨gw_t 1 (by decide +kernel) rfl, gw_t 660 rfl rfl, ⟨by decide +kernel, by decide +kernel, by decide +kernel⟩, by decide⟩, gw_t 658 (by decide +kernel) rfl, gw_t 659 (by decide +kernel) rfl⟩
abbrev YX7_markPosition : ZM := (yX7_markPosition, cX7_markPosition, 2, (some .int))
set_option maxRecDepth 40000 in
theorem gX7_markPosition : ZYv YX7_markPosition 1 := ⟨⟨gw_t 1 (by decide +kernel) rfl, gw_t 588 rfl rfl, ⟨by decide +kernel, by decide +kernel, by decide +kernel⟩, by decide⟩, gw_t 586 (by decide +kernel) rfl, gw_t 587 (by decide +kernel) rfl⟩
abbrev YX7_matchingPair : ZM := (yX7_matchingPair, cX7_matchingPair, 7, (some .int))
set_option maxRecDepth 40000 in
theorem gX7_matchingPair : ZYv YX7_matchingPair 2 := ⟨⟨gw_t 1 (by decide +kernel) rfl, gw_t 548 rfl rfl, ⟨by decide +kernel, by decide +kernel, by decide +kernel⟩, by decide⟩, gw_t 547 (by decide +kernel) rfl, gw_s 13 (by decide +kernel) rfl⟩
abbrev YX7_missRateBits : ZM := (yX7_missRateBits, cX7_missRateBits, 1, (some .int))
set_option maxRecDepth 40000 in
theorem gX7_missRateBits : ZYv YX7_missRateBits 0 := ⟨⟨gw_t 1 (by decide +kernel) rfl, gw_t 580 rfl rfl, ⟨by decide +kernel, by decide +kernel, by decide +kernel⟩, by decide⟩, gw_t 578 (by decide +kernel) rfl, gw_t 579 (by decide +kernel) rfl⟩
abbrev YX7_misses : ZM := (yX7_misses, cX7_misses, 1, (some .int))
set_option maxRecDepth 40000 in
theorem gX7_misses : ZYv YX7_misses 0 := ⟨⟨gw_t 1 (by decide +kernel) rfl, gw_t 572 rfl rfl, ⟨by decide +kernel, by decide +kernel, by decide +kernel⟩, by decide⟩, gw_t 570 (by decide +kernel) rfl, gw_t 571 (by decide +kernel) rfl⟩
abbrev YX7_moveTo : ZM := (yX7_moveTo, cX7_moveTo, 7, (some .int))
set_option maxRecDepth 40000 in
theorem gX7_moveTo : ZYv YX7_moveTo 2 := ⟨⟨gw_t 1 (by decide +kernel) rfl, gw_t 411 rfl rfl, ⟨by decide +kernel, by decide +kernel, by decide +kernel⟩, by decide⟩, gw_t 409 (by decide +kernel) rfl, gw_t 410 (by decide +kernel) rfl⟩
abbrev YX7_numberAt : ZM := (yX7_numberAt, cX7_numberAt, 5, (some .int))
set_option maxRecDepth 40000 in
theorem gX7_numberAt : ZYv YX7_numberAt 1 := ⟨⟨gw_t 1 (by decide +kernel) rfl, gw_t 283 rfl rfl, ⟨by decide +kernel, by decide +kernel, by decide +kernel⟩, by decide⟩, gw_t 282 (by decide +kernel) rfl, gw_s 2 (by decide +kernel) rfl⟩
abbrev YX7_overlayPeriod : ZM := (yX7_overlayPeriod, cX7_overlayPeriod, 1, (some .int))
set_option maxRecDepth 40000 in
theorem gX7_overlayPeriod : ZYv YX7_overlayPeriod 0 := ⟨⟨gw_t 1 (by decide +kernel) rfl, gw_t 637 rfl rfl, ⟨by decide +kernel, by decide +kernel, by decide +kernel⟩, by decide⟩, gw_t 635 (by decide +kernel) rfl, gw_t 636 (by decide +kernel) rfl⟩
abbrev YX7_pitchDifference : ZM := (yX7_pitchDifference, cX7_pitchDifference, 1, (some .int))
set_option maxRecDepth 40000 in
theorem gX7_pitchDifference : ZYv YX7_pitchDifference 0 := ⟨⟨gw_t 1 (by decide +kernel) rfl, gw_t 652 rfl rfl, ⟨by decide +kernel, by decide +kernel, by decide +kernel⟩, by decide⟩, gw_t 651 (by decide +kernel) rfl, gw_s 17 (by decide +kernel) rfl⟩
abbrev YX7_position : ZM := (yX7_position, cX7_position, 1, (some .int))
set_option maxRecDepth 40000 in
theorem gX7_position : ZYv YX7_position 0 := ⟨⟨gw_t 1 (by decide +kernel) rfl, gw_t 560 rfl rfl, ⟨by decide +kernel, by decide +kernel, by decide +kernel⟩, by decide⟩, gw_t 558 (by decide +kernel) rfl, gw_t 559 (by decide +kernel) rfl⟩
abbrev YX7_predictSlip : ZM := (yX7_predictSlip, cX7_predictSlip, 5, (some .long))
set_option maxRecDepth 40000 in
theorem gX7_predictSlip : ZYv YX7_predictSlip 2 := ⟨⟨gw_t 1 (by decide +kernel) rfl, gw_t 609 rfl rfl, ⟨by decide +kernel, by decide +kernel, by decide +kernel⟩, by decide⟩, gw_t 607 (by decide +kernel) rfl, gw_t 608 (by decide +kernel) rfl⟩
abbrev YX7_quadrantAt : ZM := (yX7_quadrantAt, cX7_quadrantAt, 2, (some .int))
set_option maxRecDepth 40000 in
theorem gX7_quadrantAt : ZYv YX7_quadrantAt 1 := ⟨⟨gw_t 1 (by decide +kernel) rfl, gw_t 465 rfl rfl, ⟨by decide +kernel, by decide +kernel, by decide +kernel⟩, by decide⟩, gw_t 464 (by decide +kernel) rfl, gw_s 10 (by decide +kernel) rfl⟩
abbrev YX7_quotient : ZM := (yX7_quotient, cX7_quotient, 2, (some .int))
set_option maxRecDepth 40000 in
theorem gX7_quotient : ZYs YX7_quotient 2 := ⟨⟨gw_t 1 (by decide +kernel) rfl, gw_t 444 rfl rfl, ⟨by decide +kernel, by decide +kernel, by decide +kernel⟩, by decide⟩, gw_t 443 (by decide +kernel) rfl⟩
abbrev YX7_readSample : ZM := (yX7_readSample, cX7_readSample, 3, (some .boolean))
set_option maxRecDepth 40000 in
theorem gX7_readSample : ZYv YX7_readSample 2 := ⟨⟨gw_t 1 (by decide +kernel) rfl, gw_t 455 rfl rfl, ⟨by decide +kernel, by decide +kernel, by decide +kernel⟩, by decide⟩, gw_t 454 (by decide +kernel) rfl, gw_s 9 (by decide +kernel) rfl⟩
abbrev YX7_readSetup : ZM := (yX7_readSetup, cX7_readSetup, 4, (some .int))
set_option maxRecDepth 40000 in
theorem gX7_readSetup : ZYv YX7_readSetup 0 := ⟨⟨gw_t 1 (by decide +kernel) rfl, gw_t 246 rfl rfl, ⟨by decide +kernel, by decide +kernel, by decide +kernel⟩, by decide⟩, gw_t 245 (by decide +kernel) rfl, gw_s 0 (by decide +kernel) rfl⟩
abbrev YX7_readStatement : ZM := (yX7_readStatement, cX7_readStatement, 7, (some .int))
set_option maxRecDepth 40000 in
theorem gX7_readStatement : ZYv YX7_readStatement 1 := ⟨⟨gw_t 1 (by decide +kernel) rfl, gw_t 267 rfl rfl, ⟨by decide +kernel, by decide +kernel, by decide +kernel⟩, by decide⟩, gw_t 266 (by decide +kernel) rfl, gw_s 1 (by decide +kernel) rfl⟩
abbrev YX7_recover : ZM := (yX7_recover, cX7_recover, 10, (some .int))
set_option maxRecDepth 40000 in
theorem gX7_recover : ZYv YX7_recover 1 := ⟨⟨gw_t 1 (by decide +kernel) rfl, gw_t 536 rfl rfl, ⟨by decide +kernel, by decide +kernel, by decide +kernel⟩, by decide⟩, gw_t 534 (by decide +kernel) rfl, gw_t 535 (by decide +kernel) rfl⟩
abbrev YX7_remainder : ZM := (yX7_remainder, cX7_remainder, 2, (some .int))
set_option maxRecDepth 40000 in
theorem gX7_remainder : ZYs YX7_remainder 2 := ⟨⟨gw_t 1 (by decide +kernel) rfl, gw_t 468 rfl rfl, ⟨by decide +kernel, by decide +kernel, by decide +kernel⟩, by decide⟩, gw_t 467 (by decide +kernel) rfl⟩
abbrev YX7_removeDirt : ZM := (yX7_removeDirt, cX7_removeDirt, 3, (some .int))
set_option maxRecDepth 40000 in
theorem gX7_removeDirt : ZYv YX7_removeDirt 1 := ⟨⟨gw_t 1 (by decide +kernel) rfl, gw_t 519 rfl rfl, ⟨by decide +kernel, by decide +kernel, by decide +kernel⟩, by decide⟩, gw_t 517 (by decide +kernel) rfl, gw_t 518 (by decide +kernel) rfl⟩
abbrev YX7_sampleCount : ZM := (yX7_sampleCount, cX7_sampleCount, 3, (some .int))
set_option maxRecDepth 40000 in
theorem gX7_sampleCount : ZYs YX7_sampleCount 3 := ⟨⟨gw_t 1 (by decide +kernel) rfl, gw_t 438 rfl rfl, ⟨by decide +kernel, by decide +kernel, by decide +kernel⟩, by decide⟩, gw_t 437 (by decide +kernel) rfl⟩
abbrev YX7_samplePosition : ZM := (yX7_samplePosition, cX7_samplePosition, 3, (some .int))
set_option maxRecDepth 40000 in
theorem gX7_samplePosition : ZYs YX7_samplePosition 3 := ⟨⟨gw_t 1 (by decide +kernel) rfl, gw_t 447 rfl rfl, ⟨by decide +kernel, by decide +kernel, by decide +kernel⟩, by decide⟩, gw_t 446 (by decide +kernel) rfl⟩
abbrev YX7_samples : ZM := (yX7_samples, cX7_samples, 1, (some .int))
set_option maxRecDepth 40000 in
theorem gX7_samples : ZYv YX7_samples 0 := ⟨⟨gw_t 1 (by decide +kernel) rfl, gw_t 576 rfl rfl, ⟨by decide +kernel, by decide +kernel, by decide +kernel⟩, by decide⟩, gw_t 574 (by decide +kernel) rfl, gw_t 575 (by decide +kernel) rfl⟩
abbrev YX7_setIndexGrating : ZM := (yX7_setIndexGrating, cX7_setIndexGrating, 4, (some .int))
set_option maxRecDepth 40000 in
theorem gX7_setIndexGrating : ZYv YX7_setIndexGrating 2 := ⟨⟨gw_t 1 (by decide +kernel) rfl, gw_t 507 rfl rfl, ⟨by decide +kernel, by decide +kernel, by decide +kernel⟩, by decide⟩, gw_t 505 (by decide +kernel) rfl, gw_t 506 (by decide +kernel) rfl⟩
abbrev YX7_setMode : ZM := (yX7_setMode, cX7_setMode, 3, (some .int))
set_option maxRecDepth 40000 in
theorem gX7_setMode : ZYv YX7_setMode 1 := ⟨⟨gw_t 1 (by decide +kernel) rfl, gw_t 497 rfl rfl, ⟨by decide +kernel, by decide +kernel, by decide +kernel⟩, by decide⟩, gw_t 495 (by decide +kernel) rfl, gw_t 496 (by decide +kernel) rfl⟩
abbrev YX7_slip : ZM := (yX7_slip, cX7_slip, 1, (some .long))
set_option maxRecDepth 40000 in
theorem gX7_slip : ZYv YX7_slip 0 := ⟨⟨gw_t 1 (by decide +kernel) rfl, gw_t 568 rfl rfl, ⟨by decide +kernel, by decide +kernel, by decide +kernel⟩, by decide⟩, gw_t 566 (by decide +kernel) rfl, gw_t 567 (by decide +kernel) rfl⟩
abbrev YX7_startFromDraft : ZM := (yX7_startFromDraft, cX7_startFromDraft, 1, none)
set_option maxRecDepth 40000 in
theorem gX7_startFromDraft : ZYv YX7_startFromDraft 0 := ⟨⟨gw_t 1 (by decide +kernel) rfl, gw_t 339 rfl rfl, ⟨by decide +kernel, by decide +kernel, by decide +kernel⟩, by decide⟩, gw_t 338 (by decide +kernel) rfl, gw_s 6 (by decide +kernel) rfl⟩
abbrev YX7_takeSample : ZM := (yX7_takeSample, cX7_takeSample, 2, none)
set_option maxRecDepth 40000 in
theorem gX7_takeSample : ZYv YX7_takeSample 1 := ⟨⟨gw_t 1 (by decide +kernel) rfl, gw_t 451 rfl rfl, ⟨by decide +kernel, by decide +kernel, by decide +kernel⟩, by decide⟩, gw_t 450 (by decide +kernel) rfl, gw_s 8 (by decide +kernel) rfl⟩
abbrev YX7_undo : ZM := (yX7_undo, cX7_undo, 1, (some .int))
set_option maxRecDepth 40000 in
theorem gX7_undo : ZYv YX7_undo 0 := ⟨⟨gw_t 1 (by decide +kernel) rfl, gw_t 552 rfl rfl, ⟨by decide +kernel, by decide +kernel, by decide +kernel⟩, by decide⟩, gw_t 550 (by decide +kernel) rfl, gw_t 551 (by decide +kernel) rfl⟩
abbrev YX7_within : ZM := (yX7_within, cX7_within, 3, (some .boolean))
set_option maxRecDepth 40000 in
theorem gX7_within : ZYs YX7_within 3 := ⟨⟨gw_t 1 (by decide +kernel) rfl, gw_t 290 rfl rfl, ⟨by decide +kernel, by decide +kernel, by decide +kernel⟩, by decide⟩, gw_t 289 (by decide +kernel) rfl⟩
abbrev YX7_zeroSlip : ZM := (yX7_zeroSlip, cX7_zeroSlip, 3, (some .int))
set_option maxRecDepth 40000 in
theorem gX7_zeroSlip : ZYv YX7_zeroSlip 0 := ⟨⟨gw_t 1 (by decide +kernel) rfl, gw_t 532 rfl rfl, ⟨by decide +kernel, by decide +kernel, by decide +kernel⟩, by decide⟩, gw_t 530 (by decide +kernel) rfl, gw_t 531 (by decide +kernel) rfl⟩
abbrev YX8_addDirt : ZM := (yX8_addDirt, cX8_addDirt, 3, (some .int))
set_option maxRecDepth 40000 in
theorem gX8_addDirt : ZYv YX8_addDirt 2 := ⟨⟨gw_t 14 (by decide +kernel) rfl, gw_t 845 rfl rfl, ⟨by decide +kernel, by decide +kernel, by decide +kernel⟩, by decide⟩, gw_t 843 (by decide +kernel) rfl, gw_t 844 (by decide +kernel) rfl⟩
abbrev YX8_apart : ZM := (yX8_apart, cX8_apart, 2, (some .int))
set_option maxRecDepth 40000 in
theorem gX8_apart : ZYs YX8_apart 2 := ⟨⟨gw_t 14 (by decide +kernel) rfl, gw_t 865 rfl rfl, ⟨by decide +kernel, by decide +kernel, by decide +kernel⟩, by decide⟩, gw_t 864 (by decide +kernel) rfl⟩
abbrev YX8_append : ZM := (yX8_append, cX8_append, 2, (some .int))
set_option maxRecDepth 40000 in
theorem gX8_append : ZYv YX8_append 1 := ⟨⟨gw_t 14 (by decide +kernel) rfl, gw_t 729 rfl rfl, ⟨by decide +kernel, by decide +kernel, by decide +kernel⟩, by decide⟩, gw_t 727 (by decide +kernel) rfl, gw_t 728 (by decide +kernel) rfl⟩
abbrev YX8_aside : ZM := (yX8_aside, cX8_aside, 2, none)
set_option maxRecDepth 40000 in
theorem gX8_aside : ZYv YX8_aside 0 := ⟨⟨gw_t 14 (by decide +kernel) rfl, gw_t 789 rfl rfl, ⟨by decide +kernel, by decide +kernel, by decide +kernel⟩, by decide⟩, gw_t 788 (by decide +kernel) rfl, gw_s 26 (by decide +kernel) rfl⟩
abbrev YX8_beginRead : ZM := (yX8_beginRead, cX8_beginRead, 2, none)
set_option maxRecDepth 40000 in
theorem gX8_beginRead : ZYv YX8_beginRead 0 := ⟨⟨gw_t 14 (by decide +kernel) rfl, gw_t 674 rfl rfl, ⟨by decide +kernel, by decide +kernel, by decide +kernel⟩, by decide⟩, gw_t 673 (by decide +kernel) rfl, gw_s 18 (by decide +kernel) rfl⟩
abbrev YX8_brightIn : ZM := (yX8_brightIn, cX8_brightIn, 6, (some .int))
set_option maxRecDepth 40000 in
theorem gX8_brightIn : ZYv YX8_brightIn 2 := ⟨⟨gw_t 14 (by decide +kernel) rfl, gw_t 937 rfl rfl, ⟨by decide +kernel, by decide +kernel, by decide +kernel⟩, by decide⟩, gw_t 936 (by decide +kernel) rfl, gw_s 38 (by decide +kernel) rfl⟩
abbrev YX8_brightestStart : ZM := (yX8_brightestStart, cX8_brightestStart, 6, (some .int))
set_option maxRecDepth 40000 in
theorem gX8_brightestStart : ZYv YX8_brightestStart 1 := ⟨⟨gw_t 14 (by decide +kernel) rfl, gw_t 941 rfl rfl, ⟨by decide +kernel, by decide +kernel, by decide +kernel⟩, by decide⟩, gw_t 939 (by decide +kernel) rfl, gw_t 940 (by decide +kernel) rfl⟩
abbrev YX8_brightness : ZM := (yX8_brightness, cX8_brightness, 3, (some .int))
set_option maxRecDepth 40000 in
theorem gX8_brightness : ZYv YX8_brightness 2 := ⟨⟨gw_t 14 (by decide +kernel) rfl, gw_t 931 rfl rfl, ⟨by decide +kernel, by decide +kernel, by decide +kernel⟩, by decide⟩, gw_t 929 (by decide +kernel) rfl, gw_t 930 (by decide +kernel) rfl⟩
abbrev YX8_clearText : ZM := (yX8_clearText, cX8_clearText, 2, (some .int))
set_option maxRecDepth 40000 in
theorem gX8_clearText : ZYv YX8_clearText 0 := ⟨⟨gw_t 14 (by decide +kernel) rfl, gw_t 738 rfl rfl, ⟨by decide +kernel, by decide +kernel, by decide +kernel⟩, by decide⟩, gw_t 736 (by decide +kernel) rfl, gw_t 737 (by decide +kernel) rfl⟩
abbrev YX8_common : ZM := (yX8_common, cX8_common, 5, (some .int))
set_option maxRecDepth 40000 in
theorem gX8_common : ZYs YX8_common 2 := ⟨⟨gw_t 14 (by decide +kernel) rfl, gw_t 948 rfl rfl, ⟨by decide +kernel, by decide +kernel, by decide +kernel⟩, by decide⟩, gw_t 947 (by decide +kernel) rfl⟩
abbrev YX8_configure : ZM := (yX8_configure, cX8_configure, 1, (some .int))
set_option maxRecDepth 40000 in
theorem gX8_configure : ZYv YX8_configure 0 := ⟨⟨gw_t 14 (by decide +kernel) rfl, gw_t 768 rfl rfl, ⟨by decide +kernel, by decide +kernel, by decide +kernel⟩, by decide⟩, gw_t 766 (by decide +kernel) rfl, gw_t 767 (by decide +kernel) rfl⟩
abbrev YX8_counter : ZM := (yX8_counter, cX8_counter, 1, (some .long))
set_option maxRecDepth 40000 in
theorem gX8_counter : ZYv YX8_counter 0 := ⟨⟨gw_t 14 (by decide +kernel) rfl, gw_t 873 rfl rfl, ⟨by decide +kernel, by decide +kernel, by decide +kernel⟩, by decide⟩, gw_t 871 (by decide +kernel) rfl, gw_t 872 (by decide +kernel) rfl⟩
abbrev YX8_crossedSpacingBits : ZM := (yX8_crossedSpacingBits, cX8_crossedSpacingBits, 4, (some .int))
set_option maxRecDepth 40000 in
theorem gX8_crossedSpacingBits : ZYv YX8_crossedSpacingBits 2 := ⟨⟨gw_t 14 (by decide +kernel) rfl, gw_t 968 rfl rfl, ⟨by decide +kernel, by decide +kernel, by decide +kernel⟩, by decide⟩, gw_t 966 (by decide +kernel) rfl, gw_t 967 (by decide +kernel) rfl⟩
abbrev YX8_decodes : ZM := (yX8_decodes, cX8_decodes, 4, none)
set_option maxRecDepth 40000 in
theorem gX8_decodes : ZYv YX8_decodes 1 := ⟨⟨gw_t 14 (by decide +kernel) rfl, gw_t 805 rfl rfl, ⟨by decide +kernel, by decide +kernel, by decide +kernel⟩, by decide⟩, gw_t 804 (by decide +kernel) rfl, gw_s 30 (by decide +kernel) rfl⟩
abbrev YX8_dirtStatement : ZM := (yX8_dirtStatement, cX8_dirtStatement, 2, (some .boolean))
set_option maxRecDepth 40000 in
theorem gX8_dirtStatement : ZYv YX8_dirtStatement 0 := ⟨⟨gw_t 14 (by decide +kernel) rfl, gw_t 764 rfl rfl, ⟨by decide +kernel, by decide +kernel, by decide +kernel⟩, by decide⟩, gw_t 763 (by decide +kernel) rfl, gw_s 24 (by decide +kernel) rfl⟩
abbrev YX8_eventCounter : ZM := (yX8_eventCounter, cX8_eventCounter, 2, (some .long))
set_option maxRecDepth 40000 in
theorem gX8_eventCounter : ZYv YX8_eventCounter 1 := ⟨⟨gw_t 14 (by decide +kernel) rfl, gw_t 927 rfl rfl, ⟨by decide +kernel, by decide +kernel, by decide +kernel⟩, by decide⟩, gw_t 925 (by decide +kernel) rfl, gw_t 926 (by decide +kernel) rfl⟩
abbrev YX8_eventKind : ZM := (yX8_eventKind, cX8_eventKind, 2, (some .int))
set_option maxRecDepth 40000 in
theorem gX8_eventKind : ZYv YX8_eventKind 1 := ⟨⟨gw_t 14 (by decide +kernel) rfl, gw_t 911 rfl rfl, ⟨by decide +kernel, by decide +kernel, by decide +kernel⟩, by decide⟩, gw_t 909 (by decide +kernel) rfl, gw_t 910 (by decide +kernel) rfl⟩
abbrev YX8_eventPosition : ZM := (yX8_eventPosition, cX8_eventPosition, 2, (some .int))
set_option maxRecDepth 40000 in
theorem gX8_eventPosition : ZYv YX8_eventPosition 1 := ⟨⟨gw_t 14 (by decide +kernel) rfl, gw_t 923 rfl rfl, ⟨by decide +kernel, by decide +kernel, by decide +kernel⟩, by decide⟩, gw_t 921 (by decide +kernel) rfl, gw_t 922 (by decide +kernel) rfl⟩
abbrev YX8_expectedCount : ZM := (yX8_expectedCount, cX8_expectedCount, 2, (some .int))
set_option maxRecDepth 40000 in
theorem gX8_expectedCount : ZYv YX8_expectedCount 1 := ⟨⟨gw_t 14 (by decide +kernel) rfl, gw_t 907 rfl rfl, ⟨by decide +kernel, by decide +kernel, by decide +kernel⟩, by decide⟩, gw_t 905 (by decide +kernel) rfl, gw_t 906 (by decide +kernel) rfl⟩
abbrev YX8_expects : ZM := (yX8_expects, cX8_expects, 3, (some .int))
set_option maxRecDepth 40000 in
theorem gX8_expects : ZYv YX8_expects 2 := ⟨⟨gw_t 14 (by decide +kernel) rfl, gw_t 826 rfl rfl, ⟨by decide +kernel, by decide +kernel, by decide +kernel⟩, by decide⟩, gw_t 825 (by decide +kernel) rfl, gw_s 34 (by decide +kernel) rfl⟩
abbrev YX8_fastestSafeSpeed : ZM := (yX8_fastestSafeSpeed, cX8_fastestSafeSpeed, 3, (some .int))
set_option maxRecDepth 40000 in
theorem gX8_fastestSafeSpeed : ZYv YX8_fastestSafeSpeed 1 := ⟨⟨gw_t 14 (by decide +kernel) rfl, gw_t 830 rfl rfl, ⟨by decide +kernel, by decide +kernel, by decide +kernel⟩, by decide⟩, gw_t 828 (by decide +kernel) rfl, gw_t 829 (by decide +kernel) rfl⟩
abbrev YX8_firstError : ZM := (yX8_firstError, cX8_firstError, 1, (some .int))
set_option maxRecDepth 40000 in
theorem gX8_firstError : ZYv YX8_firstError 0 := ⟨⟨gw_t 14 (by decide +kernel) rfl, gw_t 742 rfl rfl, ⟨by decide +kernel, by decide +kernel, by decide +kernel⟩, by decide⟩, gw_t 740 (by decide +kernel) rfl, gw_t 741 (by decide +kernel) rfl⟩
abbrev YX8_fringe : ZM := (yX8_fringe, cX8_fringe, 5, (some .int))
set_option maxRecDepth 40000 in
theorem gX8_fringe : ZYv YX8_fringe 1 := ⟨⟨gw_t 14 (by decide +kernel) rfl, gw_t 956 rfl rfl, ⟨by decide +kernel, by decide +kernel, by decide +kernel⟩, by decide⟩, gw_t 955 (by decide +kernel) rfl, gw_s 39 (by decide +kernel) rfl⟩
abbrev YX8_fringePeriodDenominator : ZM := (yX8_fringePeriodDenominator, cX8_fringePeriodDenominator, 1, (some .int))
set_option maxRecDepth 40000 in
theorem gX8_fringePeriodDenominator : ZYv YX8_fringePeriodDenominator 0 := ⟨⟨gw_t 14 (by decide +kernel) rfl, gw_t 960 rfl rfl, ⟨by decide +kernel, by decide +kernel, by decide +kernel⟩, by decide⟩, gw_t 958 (by decide +kernel) rfl, gw_t 959 (by decide +kernel) rfl⟩
abbrev YX8_fringePeriodNumerator : ZM := (yX8_fringePeriodNumerator, cX8_fringePeriodNumerator, 1, (some .int))
set_option maxRecDepth 40000 in
theorem gX8_fringePeriodNumerator : ZYv YX8_fringePeriodNumerator 0 := ⟨⟨gw_t 14 (by decide +kernel) rfl, gw_t 952 rfl rfl, ⟨by decide +kernel, by decide +kernel, by decide +kernel⟩, by decide⟩, gw_t 950 (by decide +kernel) rfl, gw_t 951 (by decide +kernel) rfl⟩
abbrev YX8_in : ZM := (yX8_in, cX8_in, 6, (some .boolean))
set_option maxRecDepth 40000 in
theorem gX8_in : ZYs YX8_in 3 := ⟨⟨gw_t 14 (by decide +kernel) rfl, gw_t 734 rfl rfl, ⟨by decide +kernel, by decide +kernel, by decide +kernel⟩, by decide⟩, gw_t 733 (by decide +kernel) rfl⟩
abbrev YX8_init : ZM := (yX8_init, cX8_init, 1, none)
set_option maxRecDepth 40000 in
theorem gX8_init : ZYi YX8_init 0 := ⟨⟨gw_t 14 (by decide +kernel) rfl, gw_t 669 rfl rfl, ⟨by decide +kernel, by decide +kernel, by decide +kernel⟩, by decide⟩, gw_t 668 (by decide +kernel) rfl, rfl, rfl⟩
abbrev YX8_isCounted : ZM := (yX8_isCounted, cX8_isCounted, 2, (some .boolean))
set_option maxRecDepth 40000 in
theorem gX8_isCounted : ZYv YX8_isCounted 1 := ⟨⟨gw_t 14 (by decide +kernel) rfl, gw_t 813 rfl rfl, ⟨by decide +kernel, by decide +kernel, by decide +kernel⟩, by decide⟩, gw_t 812 (by decide +kernel) rfl, gw_s 32 (by decide +kernel) rfl⟩
abbrev YX8_isDirty : ZM := (yX8_isDirty, cX8_isDirty, 5, (some .boolean))
set_option maxRecDepth 40000 in
theorem gX8_isDirty : ZYv YX8_isDirty 1 := ⟨⟨gw_t 14 (by decide +kernel) rfl, gw_t 801 rfl rfl, ⟨by decide +kernel, by decide +kernel, by decide +kernel⟩, by decide⟩, gw_t 800 (by decide +kernel) rfl, gw_s 29 (by decide +kernel) rfl⟩
abbrev YX8_isEvent : ZM := (yX8_isEvent, cX8_isEvent, 2, (some .boolean))
set_option maxRecDepth 40000 in
theorem gX8_isEvent : ZYv YX8_isEvent 1 := ⟨⟨gw_t 14 (by decide +kernel) rfl, gw_t 915 rfl rfl, ⟨by decide +kernel, by decide +kernel, by decide +kernel⟩, by decide⟩, gw_t 914 (by decide +kernel) rfl, gw_s 36 (by decide +kernel) rfl⟩
abbrev YX8_isMove : ZM := (yX8_isMove, cX8_isMove, 2, (some .boolean))
set_option maxRecDepth 40000 in
theorem gX8_isMove : ZYs YX8_isMove 2 := ⟨⟨gw_t 14 (by decide +kernel) rfl, gw_t 779 rfl rfl, ⟨by decide +kernel, by decide +kernel, by decide +kernel⟩, by decide⟩, gw_t 778 (by decide +kernel) rfl⟩
abbrev YX8_isNumber : ZM := (yX8_isNumber, cX8_isNumber, 6, (some .boolean))
set_option maxRecDepth 40000 in
theorem gX8_isNumber : ZYv YX8_isNumber 3 := ⟨⟨gw_t 14 (by decide +kernel) rfl, gw_t 758 rfl rfl, ⟨by decide +kernel, by decide +kernel, by decide +kernel⟩, by decide⟩, gw_t 757 (by decide +kernel) rfl, gw_s 23 (by decide +kernel) rfl⟩
abbrev YX8_keeps : ZM := (yX8_keeps, cX8_keeps, 2, none)
set_option maxRecDepth 40000 in
theorem gX8_keeps : ZYv YX8_keeps 0 := ⟨⟨gw_t 14 (by decide +kernel) rfl, gw_t 785 rfl rfl, ⟨by decide +kernel, by decide +kernel, by decide +kernel⟩, by decide⟩, gw_t 784 (by decide +kernel) rfl, gw_s 25 (by decide +kernel) rfl⟩
abbrev YX8_letterHere : ZM := (yX8_letterHere, cX8_letterHere, 1, (some .int))
set_option maxRecDepth 40000 in
theorem gX8_letterHere : ZYv YX8_letterHere 0 := ⟨⟨gw_t 14 (by decide +kernel) rfl, gw_t 754 rfl rfl, ⟨by decide +kernel, by decide +kernel, by decide +kernel⟩, by decide⟩, gw_t 753 (by decide +kernel) rfl, gw_s 22 (by decide +kernel) rfl⟩
abbrev YX8_logs : ZM := (yX8_logs, cX8_logs, 4, none)
set_option maxRecDepth 40000 in
theorem gX8_logs : ZYv YX8_logs 2 := ⟨⟨gw_t 14 (by decide +kernel) rfl, gw_t 809 rfl rfl, ⟨by decide +kernel, by decide +kernel, by decide +kernel⟩, by decide⟩, gw_t 808 (by decide +kernel) rfl, gw_s 31 (by decide +kernel) rfl⟩
abbrev YX8_magnificationBits : ZM := (yX8_magnificationBits, cX8_magnificationBits, 2, (some .int))
set_option maxRecDepth 40000 in
theorem gX8_magnificationBits : ZYv YX8_magnificationBits 0 := ⟨⟨gw_t 14 (by decide +kernel) rfl, gw_t 964 rfl rfl, ⟨by decide +kernel, by decide +kernel, by decide +kernel⟩, by decide⟩, gw_t 962 (by decide +kernel) rfl, gw_t 963 (by decide +kernel) rfl⟩
abbrev YX8_markEvent : ZM := (yX8_markEvent, cX8_markEvent, 4, (some .int))
set_option maxRecDepth 40000 in
theorem gX8_markEvent : ZYv YX8_markEvent 1 := ⟨⟨gw_t 14 (by decide +kernel) rfl, gw_t 862 rfl rfl, ⟨by decide +kernel, by decide +kernel, by decide +kernel⟩, by decide⟩, gw_t 861 (by decide +kernel) rfl, gw_s 35 (by decide +kernel) rfl⟩
abbrev YX8_markPosition : ZM := (yX8_markPosition, cX8_markPosition, 2, (some .int))
set_option maxRecDepth 40000 in
theorem gX8_markPosition : ZYv YX8_markPosition 1 := ⟨⟨gw_t 14 (by decide +kernel) rfl, gw_t 903 rfl rfl, ⟨by decide +kernel, by decide +kernel, by decide +kernel⟩, by decide⟩, gw_t 901 (by decide +kernel) rfl, gw_t 902 (by decide +kernel) rfl⟩
abbrev YX8_missRateBits : ZM := (yX8_missRateBits, cX8_missRateBits, 1, (some .int))
set_option maxRecDepth 40000 in
theorem gX8_missRateBits : ZYv YX8_missRateBits 0 := ⟨⟨gw_t 14 (by decide +kernel) rfl, gw_t 889 rfl rfl, ⟨by decide +kernel, by decide +kernel, by decide +kernel⟩, by decide⟩, gw_t 887 (by decide +kernel) rfl, gw_t 888 (by decide +kernel) rfl⟩
abbrev YX8_misses : ZM := (yX8_misses, cX8_misses, 1, (some .int))
set_option maxRecDepth 40000 in
theorem gX8_misses : ZYv YX8_misses 0 := ⟨⟨gw_t 14 (by decide +kernel) rfl, gw_t 881 rfl rfl, ⟨by decide +kernel, by decide +kernel, by decide +kernel⟩, by decide⟩, gw_t 879 (by decide +kernel) rfl, gw_t 880 (by decide +kernel) rfl⟩
abbrev YX8_moveTo : ZM := (yX8_moveTo, cX8_moveTo, 5, (some .int))
set_option maxRecDepth 40000 in
theorem gX8_moveTo : ZYv YX8_moveTo 2 := ⟨⟨gw_t 14 (by decide +kernel) rfl, gw_t 776 rfl rfl, ⟨by decide +kernel, by decide +kernel, by decide +kernel⟩, by decide⟩, gw_t 774 (by decide +kernel) rfl, gw_t 775 (by decide +kernel) rfl⟩
abbrev YX8_moves : ZM := (yX8_moves, cX8_moves, 6, none)
set_option maxRecDepth 40000 in
theorem gX8_moves : ZYv YX8_moves 2 := ⟨⟨gw_t 14 (by decide +kernel) rfl, gw_t 793 rfl rfl, ⟨by decide +kernel, by decide +kernel, by decide +kernel⟩, by decide⟩, gw_t 792 (by decide +kernel) rfl, gw_s 27 (by decide +kernel) rfl⟩
abbrev YX8_ofEvent : ZM := (yX8_ofEvent, cX8_ofEvent, 3, (some .int))
set_option maxRecDepth 40000 in
theorem gX8_ofEvent : ZYv YX8_ofEvent 2 := ⟨⟨gw_t 14 (by decide +kernel) rfl, gw_t 919 rfl rfl, ⟨by decide +kernel, by decide +kernel, by decide +kernel⟩, by decide⟩, gw_t 918 (by decide +kernel) rfl, gw_s 37 (by decide +kernel) rfl⟩
abbrev YX8_overlayPeriod : ZM := (yX8_overlayPeriod, cX8_overlayPeriod, 1, (some .int))
set_option maxRecDepth 40000 in
theorem gX8_overlayPeriod : ZYv YX8_overlayPeriod 0 := ⟨⟨gw_t 14 (by decide +kernel) rfl, gw_t 945 rfl rfl, ⟨by decide +kernel, by decide +kernel, by decide +kernel⟩, by decide⟩, gw_t 943 (by decide +kernel) rfl, gw_t 944 (by decide +kernel) rfl⟩
abbrev YX8_position : ZM := (yX8_position, cX8_position, 1, (some .int))
set_option maxRecDepth 40000 in
theorem gX8_position : ZYv YX8_position 0 := ⟨⟨gw_t 14 (by decide +kernel) rfl, gw_t 869 rfl rfl, ⟨by decide +kernel, by decide +kernel, by decide +kernel⟩, by decide⟩, gw_t 867 (by decide +kernel) rfl, gw_t 868 (by decide +kernel) rfl⟩
abbrev YX8_predictSlip : ZM := (yX8_predictSlip, cX8_predictSlip, 3, (some .long))
set_option maxRecDepth 40000 in
theorem gX8_predictSlip : ZYv YX8_predictSlip 2 := ⟨⟨gw_t 14 (by decide +kernel) rfl, gw_t 817 rfl rfl, ⟨by decide +kernel, by decide +kernel, by decide +kernel⟩, by decide⟩, gw_t 815 (by decide +kernel) rfl, gw_t 816 (by decide +kernel) rfl⟩
abbrev YX8_readAll : ZM := (yX8_readAll, cX8_readAll, 2, (some .int))
set_option maxRecDepth 40000 in
theorem gX8_readAll : ZYv YX8_readAll 0 := ⟨⟨gw_t 14 (by decide +kernel) rfl, gw_t 746 rfl rfl, ⟨by decide +kernel, by decide +kernel, by decide +kernel⟩, by decide⟩, gw_t 745 (by decide +kernel) rfl, gw_s 20 (by decide +kernel) rfl⟩
abbrev YX8_recover : ZM := (yX8_recover, cX8_recover, 8, (some .int))
set_option maxRecDepth 40000 in
theorem gX8_recover : ZYv YX8_recover 1 := ⟨⟨gw_t 14 (by decide +kernel) rfl, gw_t 857 rfl rfl, ⟨by decide +kernel, by decide +kernel, by decide +kernel⟩, by decide⟩, gw_t 855 (by decide +kernel) rfl, gw_t 856 (by decide +kernel) rfl⟩
abbrev YX8_removeDirt : ZM := (yX8_removeDirt, cX8_removeDirt, 4, (some .int))
set_option maxRecDepth 40000 in
theorem gX8_removeDirt : ZYv YX8_removeDirt 1 := ⟨⟨gw_t 14 (by decide +kernel) rfl, gw_t 849 rfl rfl, ⟨by decide +kernel, by decide +kernel, by decide +kernel⟩, by decide⟩, gw_t 847 (by decide +kernel) rfl, gw_t 848 (by decide +kernel) rfl⟩
abbrev YX8_sampleAt : ZM := (yX8_sampleAt, cX8_sampleAt, 5, none)
set_option maxRecDepth 40000 in
theorem gX8_sampleAt : ZYv YX8_sampleAt 2 := ⟨⟨gw_t 14 (by decide +kernel) rfl, gw_t 797 rfl rfl, ⟨by decide +kernel, by decide +kernel, by decide +kernel⟩, by decide⟩, gw_t 796 (by decide +kernel) rfl, gw_s 28 (by decide +kernel) rfl⟩
abbrev YX8_samples : ZM := (yX8_samples, cX8_samples, 1, (some .int))
set_option maxRecDepth 40000 in
theorem gX8_samples : ZYv YX8_samples 0 := ⟨⟨gw_t 14 (by decide +kernel) rfl, gw_t 885 rfl rfl, ⟨by decide +kernel, by decide +kernel, by decide +kernel⟩, by decide⟩, gw_t 883 (by decide +kernel) rfl, gw_t 884 (by decide +kernel) rfl⟩
abbrev YX8_setIndexGrating : ZM := (yX8_setIndexGrating, cX8_setIndexGrating, 4, (some .int))
set_option maxRecDepth 40000 in
theorem gX8_setIndexGrating : ZYv YX8_setIndexGrating 2 := ⟨⟨gw_t 14 (by decide +kernel) rfl, gw_t 838 rfl rfl, ⟨by decide +kernel, by decide +kernel, by decide +kernel⟩, by decide⟩, gw_t 836 (by decide +kernel) rfl, gw_t 837 (by decide +kernel) rfl⟩
abbrev YX8_setMode : ZM := (yX8_setMode, cX8_setMode, 3, (some .int))
set_option maxRecDepth 40000 in
theorem gX8_setMode : ZYv YX8_setMode 1 := ⟨⟨gw_t 14 (by decide +kernel) rfl, gw_t 834 rfl rfl, ⟨by decide +kernel, by decide +kernel, by decide +kernel⟩, by decide⟩, gw_t 832 (by decide +kernel) rfl, gw_t 833 (by decide +kernel) rfl⟩
abbrev YX8_slip : ZM := (yX8_slip, cX8_slip, 1, (some .long))
set_option maxRecDepth 40000 in
theorem gX8_slip : ZYv YX8_slip 0 := ⟨⟨gw_t 14 (by decide +kernel) rfl, gw_t 877 rfl rfl, ⟨by decide +kernel, by decide +kernel, by decide +kernel⟩, by decide⟩, gw_t 875 (by decide +kernel) rfl, gw_t 876 (by decide +kernel) rfl⟩
abbrev YX8_slipOf : ZM := (yX8_slipOf, cX8_slipOf, 2, (some .long))
set_option maxRecDepth 40000 in
theorem gX8_slipOf : ZYv YX8_slipOf 1 := ⟨⟨gw_t 14 (by decide +kernel) rfl, gw_t 822 rfl rfl, ⟨by decide +kernel, by decide +kernel, by decide +kernel⟩, by decide⟩, gw_t 821 (by decide +kernel) rfl, gw_s 33 (by decide +kernel) rfl⟩
abbrev YX8_statement : ZM := (yX8_statement, cX8_statement, 2, (some .boolean))
set_option maxRecDepth 40000 in
theorem gX8_statement : ZYv YX8_statement 0 := ⟨⟨gw_t 14 (by decide +kernel) rfl, gw_t 750 rfl rfl, ⟨by decide +kernel, by decide +kernel, by decide +kernel⟩, by decide⟩, gw_t 749 (by decide +kernel) rfl, gw_s 21 (by decide +kernel) rfl⟩
abbrev YX8_takeRead : ZM := (yX8_takeRead, cX8_takeRead, 2, none)
set_option maxRecDepth 40000 in
theorem gX8_takeRead : ZYv YX8_takeRead 0 := ⟨⟨gw_t 14 (by decide +kernel) rfl, gw_t 678 rfl rfl, ⟨by decide +kernel, by decide +kernel, by decide +kernel⟩, by decide⟩, gw_t 677 (by decide +kernel) rfl, gw_s 19 (by decide +kernel) rfl⟩
abbrev YX8_undo : ZM := (yX8_undo, cX8_undo, 2, (some .int))
set_option maxRecDepth 40000 in
theorem gX8_undo : ZYv YX8_undo 0 := ⟨⟨gw_t 14 (by decide +kernel) rfl, gw_t 772 rfl rfl, ⟨by decide +kernel, by decide +kernel, by decide +kernel⟩, by decide⟩, gw_t 770 (by decide +kernel) rfl, gw_t 771 (by decide +kernel) rfl⟩
abbrev YX8_zeroSlip : ZM := (yX8_zeroSlip, cX8_zeroSlip, 3, (some .int))
set_option maxRecDepth 40000 in
theorem gX8_zeroSlip : ZYv YX8_zeroSlip 0 := ⟨⟨gw_t 14 (by decide +kernel) rfl, gw_t 853 rfl rfl, ⟨by decide +kernel, by decide +kernel, by decide +kernel⟩, by decide⟩, gw_t 851 (by decide +kernel) rfl, gw_t 852 (by decide +kernel) rfl⟩
theorem nL_7 : ZN RL 7 7 7 [.null, .null, .null, .null, .null, .null, .int 0] := ⟨RX7, TX7, tyX7, rfl, iwX7, tyX7_ok, gw_t 16 (by decide +kernel) rfl, gw_t 17 (by decide +kernel) rfl, gw_t 1 (by decide +kernel) rfl, fun j hj => by match j, hj with | 0, _ => rfl | 1, _ => rfl | 2, _ => rfl | 3, _ => rfl | 4, _ => rfl | 5, _ => rfl | 6, _ => rfl⟩
theorem lL_9 : Cond.methodLink RL 9 yX7_init ∈ gw := gw_t 18 (by decide +kernel) rfl
theorem nX7_7 : ZN RX7 7 4 2 [.null, .int 0] := ⟨RX4, TX4, tyX4, rfl, iwX4, tyX4_ok, gw_t 24 (by decide +kernel) rfl, gw_t 25 (by decide +kernel) rfl, gw_t 2 (by decide +kernel) rfl, fun j hj => by match j, hj with | 0, _ => rfl | 1, _ => rfl⟩
theorem lX7_11 : Cond.methodLink RX7 11 yX4_init ∈ gw := gw_t 26 (by decide +kernel) rfl
theorem nX7_18 : ZN RX7 18 5 6 [.null, .null, .int 0, .int 0, .int 0, .int 0] := ⟨RX5, TX5, tyX5, rfl, iwX5, tyX5_ok, gw_t 41 (by decide +kernel) rfl, gw_t 42 (by decide +kernel) rfl, gw_t 4 (by decide +kernel) rfl, fun j hj => by match j, hj with | 0, _ => rfl | 1, _ => rfl | 2, _ => rfl | 3, _ => rfl | 4, _ => rfl | 5, _ => rfl⟩
theorem lX7_20 : (RX7, 20, yX5_init, "MoireEncoder") ∈ zNm := by decide +kernel
theorem nX5_9 : ZN RX5 9 4 2 [.null, .int 0] := ⟨RX4, TX4, tyX4, rfl, iwX4, tyX4_ok, gw_t 47 (by decide +kernel) rfl, gw_t 25 (by decide +kernel) rfl, gw_t 2 (by decide +kernel) rfl, fun j hj => by match j, hj with | 0, _ => rfl | 1, _ => rfl⟩
theorem lX5_11 : Cond.methodLink RX5 11 yX4_init ∈ gw := gw_t 48 (by decide +kernel) rfl
theorem nX5_20 : ZN RX5 20 1 2 [.null, .null] := ⟨RX1, TX1, tyX1, rfl, iwX1, tyX1_ok, gw_t 49 (by decide +kernel) rfl, gw_t 50 (by decide +kernel) rfl, gw_t 5 (by decide +kernel) rfl, fun j hj => by match j, hj with | 0, _ => rfl | 1, _ => rfl⟩
theorem lX5_22 : (RX5, 22, yX1_init, "MoireEncoder") ∈ zNm := by decide +kernel
theorem nX1_9 : ZN RX1 9 4 2 [.null, .int 0] := ⟨RX4, TX4, tyX4, rfl, iwX4, tyX4_ok, gw_t 55 (by decide +kernel) rfl, gw_t 25 (by decide +kernel) rfl, gw_t 2 (by decide +kernel) rfl, fun j hj => by match j, hj with | 0, _ => rfl | 1, _ => rfl⟩
theorem lX1_11 : Cond.methodLink RX1 11 yX4_init ∈ gw := gw_t 56 (by decide +kernel) rfl
theorem nX7_28 : ZN RX7 28 2 2 [.null, .int 0] := ⟨RX2, TX2, tyX2, rfl, iwX2, tyX2_ok, gw_t 91 (by decide +kernel) rfl, gw_t 92 (by decide +kernel) rfl, gw_t 6 (by decide +kernel) rfl, fun j hj => by match j, hj with | 0, _ => rfl | 1, _ => rfl⟩
theorem lX7_30 : Cond.methodLink RX7 30 yX2_init ∈ gw := gw_t 93 (by decide +kernel) rfl
theorem nX2_9 : ZN RX2 9 6 8 [.null, .null, .null, .int 0, .int 0, .int 0, .int 0, .int 0] := ⟨RX6, TX6, tyX6, rfl, iwX6, tyX6_ok, gw_t 97 (by decide +kernel) rfl, gw_t 99 (by decide +kernel) rfl, gw_t 7 (by decide +kernel) rfl, fun j hj => by match j, hj with | 0, _ => rfl | 1, _ => rfl | 2, _ => rfl | 3, _ => rfl | 4, _ => rfl | 5, _ => rfl | 6, _ => rfl | 7, _ => rfl⟩
theorem lX2_17 : (RX2, 17, yX6_init, "MoireEncoder") ∈ zNm := by decide +kernel
theorem nX6_7 : ZN RX6 7 0 3 [.int 0, .long 0, .int 0] := ⟨RX0, TX0, tyX0, rfl, iwX0, tyX0_ok, gw_t 104 (by decide +kernel) rfl, gw_t 105 (by decide +kernel) rfl, gw_t 8 (by decide +kernel) rfl, fun j hj => by match j, hj with | 0, _ => rfl | 1, _ => rfl | 2, _ => rfl⟩
theorem lX6_9 : (RX6, 9, yX0_init, "MoireEncoder") ∈ zNm := by decide +kernel
theorem nX6_16 : ZN RX6 16 3 3 [.null, .null, .null] := ⟨RX3, TX3, tyX3, rfl, iwX3, tyX3_ok, gw_t 122 (by decide +kernel) rfl, gw_t 123 (by decide +kernel) rfl, gw_t 9 (by decide +kernel) rfl, fun j hj => by match j, hj with | 0, _ => rfl | 1, _ => rfl | 2, _ => rfl⟩
theorem lX6_18 : (RX6, 18, yX3_init, "MoireEncoder") ∈ zNm := by decide +kernel
theorem nX3_9 : ZN RX3 9 4 2 [.null, .int 0] := ⟨RX4, TX4, tyX4, rfl, iwX4, tyX4_ok, gw_t 128 (by decide +kernel) rfl, gw_t 25 (by decide +kernel) rfl, gw_t 2 (by decide +kernel) rfl, fun j hj => by match j, hj with | 0, _ => rfl | 1, _ => rfl⟩
theorem lX3_11 : Cond.methodLink RX3 11 yX4_init ∈ gw := gw_t 129 (by decide +kernel) rfl
theorem nX6_23 : ZN RX6 23 1 2 [.null, .null] := ⟨RX1, TX1, tyX1, rfl, iwX1, tyX1_ok, gw_t 143 (by decide +kernel) rfl, gw_t 50 (by decide +kernel) rfl, gw_t 5 (by decide +kernel) rfl, fun j hj => by match j, hj with | 0, _ => rfl | 1, _ => rfl⟩
theorem lX6_25 : (RX6, 25, yX1_init, "MoireEncoder") ∈ zNm := by decide +kernel
theorem nX7_35 : ZN RX7 35 0 3 [.int 0, .long 0, .int 0] := ⟨RX0, TX0, tyX0, rfl, iwX0, tyX0_ok, gw_t 186 (by decide +kernel) rfl, gw_t 105 (by decide +kernel) rfl, gw_t 8 (by decide +kernel) rfl, fun j hj => by match j, hj with | 0, _ => rfl | 1, _ => rfl | 2, _ => rfl⟩
theorem lX7_37 : (RX7, 37, yX0_init, "MoireEncoder") ∈ zNm := by decide +kernel
theorem nX7_42 : ZN RX7 42 6 8 [.null, .null, .null, .int 0, .int 0, .int 0, .int 0, .int 0] := ⟨RX6, TX6, tyX6, rfl, iwX6, tyX6_ok, gw_t 188 (by decide +kernel) rfl, gw_t 99 (by decide +kernel) rfl, gw_t 7 (by decide +kernel) rfl, fun j hj => by match j, hj with | 0, _ => rfl | 1, _ => rfl | 2, _ => rfl | 3, _ => rfl | 4, _ => rfl | 5, _ => rfl | 6, _ => rfl | 7, _ => rfl⟩
theorem lX7_44 : (RX7, 44, yX6_init, "MoireEncoder") ∈ zNm := by decide +kernel
theorem lX7_61 : Cond.methodLink RX7 61 yX4_add ∈ gw := gw_t 239 (by decide +kernel) rfl
theorem lX7_65 : Cond.methodLink RX7 65 yX7_readSetup ∈ gw := gw_t 243 (by decide +kernel) rfl
theorem lX7_89 : Cond.methodLink RX7 89 yX5_reset ∈ gw := gw_t 247 (by decide +kernel) rfl
theorem lX5_27 : Cond.methodLink RX5 27 yX4_clear ∈ gw := gw_t 251 (by decide +kernel) rfl
theorem lX5_30 : Cond.methodLink RX5 30 yX1_clear ∈ gw := gw_t 255 (by decide +kernel) rfl
theorem lX1_42 : Cond.methodLink RX1 42 yX4_clear ∈ gw := gw_t 259 (by decide +kernel) rfl
theorem lX7_82 : Cond.methodLink RX7 82 yX4_size ∈ gw := gw_t 260 (by decide +kernel) rfl
theorem lX7_92 : Cond.methodLink RX7 92 yX7_readStatement ∈ gw := gw_t 264 (by decide +kernel) rfl
theorem lX7_96 : Cond.methodLink RX7 96 yX4_intAt ∈ gw := gw_t 268 (by decide +kernel) rfl
theorem lX4_27 : Cond.methodLink RX4 27 yX4_longAt ∈ gw := gw_t 272 (by decide +kernel) rfl
theorem lX4_23 : Cond.methodLink RX4 23 yX4_has ∈ gw := gw_t 276 (by decide +kernel) rfl
theorem lX7_99 : Cond.methodLink RX7 99 yX7_numberAt ∈ gw := gw_t 280 (by decide +kernel) rfl
theorem lX7_102 : Cond.methodLink RX7 102 yX7_digitsFrom ∈ gw := gw_t 284 (by decide +kernel) rfl
theorem lX7_74 : Cond.methodLink RX7 74 yX7_within ∈ gw := gw_t 288 (by decide +kernel) rfl
theorem lX7_105 : Cond.methodLink RX7 105 yX5_take ∈ gw := gw_t 291 (by decide +kernel) rfl
theorem lX5_44 : (RX5, 44, yX7_isScalePitch, "MoireEncoder") ∈ zNm := by decide +kernel
theorem lX5_48 : (RX5, 48, yX7_isIndexGrating, "MoireEncoder") ∈ zNm := by decide +kernel
theorem lX5_52 : (RX5, 52, yX7_isMode, "MoireEncoder") ∈ zNm := by decide +kernel
theorem lX5_55 : Cond.methodLink RX5 55 yX5_takeMark ∈ gw := gw_t 304 (by decide +kernel) rfl
theorem lX5_61 : Cond.methodLink RX5 61 yX4_size ∈ gw := gw_t 308 (by decide +kernel) rfl
theorem lX5_65 : Cond.methodLink RX5 65 yX4_intAt ∈ gw := gw_t 309 (by decide +kernel) rfl
theorem lX5_69 : Cond.methodLink RX5 69 yX4_isFull ∈ gw := gw_t 310 (by decide +kernel) rfl
theorem lX5_73 : (RX5, 73, yX7_isPosition, "MoireEncoder") ∈ zNm := by decide +kernel
theorem lX5_76 : Cond.methodLink RX5 76 yX4_add ∈ gw := gw_t 317 (by decide +kernel) rfl
theorem lX5_58 : Cond.methodLink RX5 58 yX5_takeDirt ∈ gw := gw_t 318 (by decide +kernel) rfl
theorem lX5_80 : Cond.methodLink RX5 80 yX1_isFull ∈ gw := gw_t 322 (by decide +kernel) rfl
theorem lX1_23 : Cond.methodLink RX1 23 yX4_isFull ∈ gw := gw_t 326 (by decide +kernel) rfl
theorem lX5_81 : (RX5, 81, yX7_isDirt, "MoireEncoder") ∈ zNm := by decide +kernel
theorem lX7_264 : Cond.methodLink RX7 264 yX7_isPosition ∈ gw := gw_t 330 (by decide +kernel) rfl
theorem lX5_84 : Cond.methodLink RX5 84 yX1_add ∈ gw := gw_t 331 (by decide +kernel) rfl
theorem lX1_27 : Cond.methodLink RX1 27 yX4_add ∈ gw := gw_t 335 (by decide +kernel) rfl
theorem lX7_68 : Cond.methodLink RX7 68 yX7_startFromDraft ∈ gw := gw_t 336 (by decide +kernel) rfl
theorem lX7_110 : Cond.methodLink RX7 110 yX4_copyFrom ∈ gw := gw_t 340 (by decide +kernel) rfl
theorem lX4_31 : Cond.methodLink RX4 31 yX4_add ∈ gw := gw_t 344 (by decide +kernel) rfl
theorem lX7_114 : Cond.methodLink RX7 114 yX6_startFrom ∈ gw := gw_t 345 (by decide +kernel) rfl
theorem lX6_30 : Cond.methodLink RX6 30 yX0_reset ∈ gw := gw_t 349 (by decide +kernel) rfl
theorem lX6_33 : Cond.methodLink RX6 33 yX3_clear ∈ gw := gw_t 353 (by decide +kernel) rfl
theorem lX3_38 : Cond.methodLink RX3 38 yX4_clear ∈ gw := gw_t 357 (by decide +kernel) rfl
theorem lX6_39 : Cond.methodLink RX6 39 yX1_copyFrom ∈ gw := gw_t 358 (by decide +kernel) rfl
theorem lX1_45 : Cond.methodLink RX1 45 yX4_copyFrom ∈ gw := gw_t 362 (by decide +kernel) rfl
theorem lX7_118 : Cond.methodLink RX7 118 yX2_forgetAll ∈ gw := gw_t 363 (by decide +kernel) rfl
theorem lX7_71 : Cond.methodLink RX7 71 yX4_clear ∈ gw := gw_t 367 (by decide +kernel) rfl
theorem lL_13 : Cond.methodLink RL 13 yX7_append ∈ gw := gw_t 391 (by decide +kernel) rfl
theorem lX7_78 : Cond.methodLink RX7 78 yX4_isFull ∈ gw := gw_t 395 (by decide +kernel) rfl
theorem lL_18 : Cond.methodLink RL 18 yX7_clearText ∈ gw := gw_t 396 (by decide +kernel) rfl
theorem lL_23 : Cond.methodLink RL 23 yX7_firstError ∈ gw := gw_t 400 (by decide +kernel) rfl
theorem lL_27 : Cond.methodLink RL 27 yX7_configure ∈ gw := gw_t 404 (by decide +kernel) rfl
theorem lL_31 : Cond.methodLink RL 31 yX7_moveTo ∈ gw := gw_t 408 (by decide +kernel) rfl
theorem lX7_121 : Cond.methodLink RX7 121 yX7_isMove ∈ gw := gw_t 412 (by decide +kernel) rfl
theorem lX7_125 : Cond.methodLink RX7 125 yX2_remember ∈ gw := gw_t 415 (by decide +kernel) rfl
theorem lX2_22 : Cond.methodLink RX2 22 yX2_dropOldest ∈ gw := gw_t 419 (by decide +kernel) rfl
theorem lX2_25 : Cond.methodLink RX2 25 yX6_copyFrom ∈ gw := gw_t 423 (by decide +kernel) rfl
theorem lX6_62 : Cond.methodLink RX6 62 yX0_copyFrom ∈ gw := gw_t 427 (by decide +kernel) rfl
theorem lX6_65 : Cond.methodLink RX6 65 yX3_copyFrom ∈ gw := gw_t 431 (by decide +kernel) rfl
theorem lX3_41 : Cond.methodLink RX3 41 yX4_copyFrom ∈ gw := gw_t 435 (by decide +kernel) rfl
theorem lX7_138 : Cond.methodLink RX7 138 yX7_sampleCount ∈ gw := gw_t 436 (by decide +kernel) rfl
theorem lX7_231 : Cond.methodLink RX7 231 yX7_quotient ∈ gw := gw_t 442 (by decide +kernel) rfl
theorem lX7_142 : Cond.methodLink RX7 142 yX7_samplePosition ∈ gw := gw_t 445 (by decide +kernel) rfl
theorem lX7_145 : Cond.methodLink RX7 145 yX7_takeSample ∈ gw := gw_t 448 (by decide +kernel) rfl
theorem lX7_238 : Cond.methodLink RX7 238 yX7_readSample ∈ gw := gw_t 452 (by decide +kernel) rfl
theorem lX7_251 : Cond.methodLink RX7 251 yX1_covers ∈ gw := gw_t 456 (by decide +kernel) rfl
theorem lX1_34 : Cond.methodLink RX1 34 yX4_size ∈ gw := gw_t 460 (by decide +kernel) rfl
theorem lX1_38 : Cond.methodLink RX1 38 yX4_intAt ∈ gw := gw_t 461 (by decide +kernel) rfl
theorem lX7_254 : Cond.methodLink RX7 254 yX7_quadrantAt ∈ gw := gw_t 462 (by decide +kernel) rfl
theorem lX7_277 : Cond.methodLink RX7 277 yX7_remainder ∈ gw := gw_t 466 (by decide +kernel) rfl
theorem lX7_257 : Cond.methodLink RX7 257 yX0_read ∈ gw := gw_t 469 (by decide +kernel) rfl
theorem lX0_13 : Cond.methodLink RX0 13 yX0_counts ∈ gw := gw_t 473 (by decide +kernel) rfl
theorem lX7_242 : Cond.methodLink RX7 242 yX3_wantsMiss ∈ gw := gw_t 476 (by decide +kernel) rfl
theorem lX3_30 : Cond.methodLink RX3 30 yX4_size ∈ gw := gw_t 480 (by decide +kernel) rfl
theorem lX3_34 : Cond.methodLink RX3 34 yX4_intAt ∈ gw := gw_t 481 (by decide +kernel) rfl
theorem lX7_245 : Cond.methodLink RX7 245 yX3_add ∈ gw := gw_t 482 (by decide +kernel) rfl
theorem lX3_26 : Cond.methodLink RX3 26 yX4_addFirst ∈ gw := gw_t 486 (by decide +kernel) rfl
theorem lX7_248 : Cond.methodLink RX7 248 yX7_logPassedMarks ∈ gw := gw_t 490 (by decide +kernel) rfl
theorem lL_36 : Cond.methodLink RL 36 yX7_setMode ∈ gw := gw_t 494 (by decide +kernel) rfl
theorem lX7_148 : Cond.methodLink RX7 148 yX7_isMode ∈ gw := gw_t 498 (by decide +kernel) rfl
theorem lX7_155 : Cond.methodLink RX7 155 yX7_countAt ∈ gw := gw_t 499 (by decide +kernel) rfl
theorem lX7_166 : Cond.methodLink RX7 166 yX3_clear ∈ gw := gw_t 503 (by decide +kernel) rfl
theorem lL_40 : Cond.methodLink RL 40 yX7_setIndexGrating ∈ gw := gw_t 504 (by decide +kernel) rfl
theorem lX7_169 : Cond.methodLink RX7 169 yX7_isIndexGrating ∈ gw := gw_t 508 (by decide +kernel) rfl
theorem lL_44 : Cond.methodLink RL 44 yX7_addDirt ∈ gw := gw_t 509 (by decide +kernel) rfl
theorem lX7_178 : Cond.methodLink RX7 178 yX7_isDirt ∈ gw := gw_t 513 (by decide +kernel) rfl
theorem lX7_185 : Cond.methodLink RX7 185 yX1_isFull ∈ gw := gw_t 514 (by decide +kernel) rfl
theorem lX7_188 : Cond.methodLink RX7 188 yX1_add ∈ gw := gw_t 515 (by decide +kernel) rfl
theorem lL_48 : Cond.methodLink RL 48 yX7_removeDirt ∈ gw := gw_t 516 (by decide +kernel) rfl
theorem lX7_194 : Cond.methodLink RX7 194 yX4_has ∈ gw := gw_t 520 (by decide +kernel) rfl
theorem lX7_200 : Cond.methodLink RX7 200 yX1_removeAt ∈ gw := gw_t 521 (by decide +kernel) rfl
theorem lX1_31 : Cond.methodLink RX1 31 yX4_removeAt ∈ gw := gw_t 525 (by decide +kernel) rfl
theorem lL_52 : Cond.methodLink RL 52 yX7_zeroSlip ∈ gw := gw_t 529 (by decide +kernel) rfl
theorem lL_56 : Cond.methodLink RL 56 yX7_recover ∈ gw := gw_t 533 (by decide +kernel) rfl
theorem lX7_203 : Cond.methodLink RX7 203 yX3_markEventFrom ∈ gw := gw_t 537 (by decide +kernel) rfl
theorem lX7_209 : Cond.methodLink RX7 209 yX4_longAt ∈ gw := gw_t 541 (by decide +kernel) rfl
theorem lX7_219 : Cond.methodLink RX7 219 yX7_matchingPair ∈ gw := gw_t 545 (by decide +kernel) rfl
theorem lL_60 : Cond.methodLink RL 60 yX7_undo ∈ gw := gw_t 549 (by decide +kernel) rfl
theorem lX7_225 : Cond.methodLink RX7 225 yX2_takeBack ∈ gw := gw_t 553 (by decide +kernel) rfl
theorem lL_64 : Cond.methodLink RL 64 yX7_position ∈ gw := gw_t 557 (by decide +kernel) rfl
theorem lL_68 : Cond.methodLink RL 68 yX7_counter ∈ gw := gw_t 561 (by decide +kernel) rfl
theorem lL_73 : Cond.methodLink RL 73 yX7_slip ∈ gw := gw_t 565 (by decide +kernel) rfl
theorem lL_77 : Cond.methodLink RL 77 yX7_misses ∈ gw := gw_t 569 (by decide +kernel) rfl
theorem lL_81 : Cond.methodLink RL 81 yX7_samples ∈ gw := gw_t 573 (by decide +kernel) rfl
theorem lL_85 : Cond.methodLink RL 85 yX7_missRateBits ∈ gw := gw_t 577 (by decide +kernel) rfl
theorem lX7_260 : Cond.methodLink RX7 260 yX7_bitsOf ∈ gw := gw_t 581 (by decide +kernel) rfl
theorem cX7_301 : Cond.constantFloat RX7 301 (1258291200) ∈ gw := gw_t 584 (by decide +kernel) rfl
theorem lL_89 : Cond.methodLink RL 89 yX7_markPosition ∈ gw := gw_t 585 (by decide +kernel) rfl
theorem lL_93 : Cond.methodLink RL 93 yX7_expectedCount ∈ gw := gw_t 589 (by decide +kernel) rfl
theorem lL_97 : Cond.methodLink RL 97 yX7_eventKind ∈ gw := gw_t 593 (by decide +kernel) rfl
theorem lL_101 : Cond.methodLink RL 101 yX7_eventPosition ∈ gw := gw_t 597 (by decide +kernel) rfl
theorem lL_105 : Cond.methodLink RL 105 yX7_eventCounter ∈ gw := gw_t 601 (by decide +kernel) rfl
theorem cX7_275 : Cond.constantLong RX7 275 (-9223372036854775808) ∈ gw := gw_t 605 (by decide +kernel) rfl
theorem lL_110 : Cond.methodLink RL 110 yX7_predictSlip ∈ gw := gw_t 606 (by decide +kernel) rfl
theorem lX7_280 : Cond.methodLink RX7 280 yX0_copyFrom ∈ gw := gw_t 610 (by decide +kernel) rfl
theorem lL_115 : Cond.methodLink RL 115 yX7_fastestSafeSpeed ∈ gw := gw_t 611 (by decide +kernel) rfl
theorem lX7_283 : Cond.methodLink RX7 283 yX7_isSafe ∈ gw := gw_t 615 (by decide +kernel) rfl
theorem lL_119 : Cond.methodLink RL 119 yX7_brightness ∈ gw := gw_t 619 (by decide +kernel) rfl
theorem lX7_286 : Cond.methodLink RX7 286 yX7_brightCells ∈ gw := gw_t 623 (by decide +kernel) rfl
theorem lX7_298 : Cond.methodLink RX7 298 yX7_isClear ∈ gw := gw_t 627 (by decide +kernel) rfl
theorem lL_123 : Cond.methodLink RL 123 yX7_brightestStart ∈ gw := gw_t 630 (by decide +kernel) rfl
theorem lL_127 : Cond.methodLink RL 127 yX7_overlayPeriod ∈ gw := gw_t 634 (by decide +kernel) rfl
theorem lX7_289 : Cond.methodLink RX7 289 yX7_commonDivisor ∈ gw := gw_t 638 (by decide +kernel) rfl
theorem lL_131 : Cond.methodLink RL 131 yX7_fringePeriodNumerator ∈ gw := gw_t 641 (by decide +kernel) rfl
theorem lX7_292 : Cond.methodLink RX7 292 yX7_inLowestTerms ∈ gw := gw_t 645 (by decide +kernel) rfl
theorem lX7_295 : Cond.methodLink RX7 295 yX7_pitchDifference ∈ gw := gw_t 649 (by decide +kernel) rfl
theorem lL_135 : Cond.methodLink RL 135 yX7_fringePeriodDenominator ∈ gw := gw_t 653 (by decide +kernel) rfl
theorem lL_139 : Cond.methodLink RL 139 yX7_magnificationBits ∈ gw := gw_t 657 (by decide +kernel) rfl
theorem lL_143 : Cond.methodLink RL 143 yX7_crossedSpacingBits ∈ gw := gw_t 661 (by decide +kernel) rfl
theorem nL_10 : ZN RL 10 8 15 [.null, .int 0, .int 0, .int 0, .int 0, .int 0, .null, .null, .int 0, .int 0, .null, .null, .null, .null, .int 0] := ⟨RX8, TX8, tyX8, rfl, iwX8, tyX8_ok, gw_t 665 (by decide +kernel) rfl, gw_t 666 (by decide +kernel) rfl, gw_t 14 (by decide +kernel) rfl, fun j hj => by match j, hj with | 0, _ => rfl | 1, _ => rfl | 2, _ => rfl | 3, _ => rfl | 4, _ => rfl | 5, _ => rfl | 6, _ => rfl | 7, _ => rfl | 8, _ => rfl | 9, _ => rfl | 10, _ => rfl | 11, _ => rfl | 12, _ => rfl | 13, _ => rfl | 14, _ => rfl⟩
theorem lL_12 : Cond.methodLink RL 12 yX8_init ∈ gw := gw_t 667 (by decide +kernel) rfl
theorem lX8_31 : Cond.methodLink RX8 31 yX8_beginRead ∈ gw := gw_t 671 (by decide +kernel) rfl
theorem lX8_41 : Cond.methodLink RX8 41 yX8_takeRead ∈ gw := gw_t 675 (by decide +kernel) rfl
theorem lL_17 : Cond.methodLink RL 17 yX8_append ∈ gw := gw_t 726 (by decide +kernel) rfl
theorem cX8_53 : Cond.constantLong RX8 53 (32) ∈ gw := gw_t 730 (by decide +kernel) rfl
theorem cX8_55 : Cond.constantLong RX8 55 (126) ∈ gw := gw_t 731 (by decide +kernel) rfl
theorem lX8_57 : Cond.methodLink RX8 57 yX8_in ∈ gw := gw_t 732 (by decide +kernel) rfl
theorem lL_22 : Cond.methodLink RL 22 yX8_clearText ∈ gw := gw_t 735 (by decide +kernel) rfl
theorem lL_26 : Cond.methodLink RL 26 yX8_firstError ∈ gw := gw_t 739 (by decide +kernel) rfl
theorem lX8_89 : Cond.methodLink RX8 89 yX8_readAll ∈ gw := gw_t 743 (by decide +kernel) rfl
theorem lX8_86 : Cond.methodLink RX8 86 yX8_statement ∈ gw := gw_t 747 (by decide +kernel) rfl
theorem lX8_70 : Cond.methodLink RX8 70 yX8_letterHere ∈ gw := gw_t 751 (by decide +kernel) rfl
theorem lX8_78 : Cond.methodLink RX8 78 yX8_isNumber ∈ gw := gw_t 755 (by decide +kernel) rfl
theorem cX8_74 : Cond.constantLong RX8 74 (48) ∈ gw := gw_t 759 (by decide +kernel) rfl
theorem cX8_76 : Cond.constantLong RX8 76 (57) ∈ gw := gw_t 760 (by decide +kernel) rfl
theorem lX8_82 : Cond.methodLink RX8 82 yX8_dirtStatement ∈ gw := gw_t 761 (by decide +kernel) rfl
theorem lL_30 : Cond.methodLink RL 30 yX8_configure ∈ gw := gw_t 765 (by decide +kernel) rfl
theorem lL_63 : Cond.methodLink RL 63 yX8_undo ∈ gw := gw_t 769 (by decide +kernel) rfl
theorem lL_35 : Cond.methodLink RL 35 yX8_moveTo ∈ gw := gw_t 773 (by decide +kernel) rfl
theorem lX8_118 : Cond.methodLink RX8 118 yX8_isMove ∈ gw := gw_t 777 (by decide +kernel) rfl
theorem cX8_110 : Cond.constantLong RX8 110 (9999) ∈ gw := gw_t 780 (by decide +kernel) rfl
theorem cX8_112 : Cond.constantLong RX8 112 (99) ∈ gw := gw_t 781 (by decide +kernel) rfl
theorem lX8_122 : Cond.methodLink RX8 122 yX8_keeps ∈ gw := gw_t 782 (by decide +kernel) rfl
theorem lX8_125 : Cond.methodLink RX8 125 yX8_aside ∈ gw := gw_t 786 (by decide +kernel) rfl
theorem lX8_128 : Cond.methodLink RX8 128 yX8_moves ∈ gw := gw_t 790 (by decide +kernel) rfl
theorem lX8_107 : Cond.methodLink RX8 107 yX8_sampleAt ∈ gw := gw_t 794 (by decide +kernel) rfl
theorem lX8_100 : Cond.methodLink RX8 100 yX8_isDirty ∈ gw := gw_t 798 (by decide +kernel) rfl
theorem lX8_103 : Cond.methodLink RX8 103 yX8_decodes ∈ gw := gw_t 802 (by decide +kernel) rfl
theorem lX8_92 : Cond.methodLink RX8 92 yX8_logs ∈ gw := gw_t 806 (by decide +kernel) rfl
theorem lX8_96 : Cond.methodLink RX8 96 yX8_isCounted ∈ gw := gw_t 810 (by decide +kernel) rfl
theorem lL_114 : Cond.methodLink RL 114 yX8_predictSlip ∈ gw := gw_t 814 (by decide +kernel) rfl
theorem cX8_131 : Cond.constantLong RX8 131 (-9223372036854775808) ∈ gw := gw_t 818 (by decide +kernel) rfl
theorem lX8_133 : Cond.methodLink RX8 133 yX8_slipOf ∈ gw := gw_t 819 (by decide +kernel) rfl
theorem lX8_114 : Cond.methodLink RX8 114 yX8_expects ∈ gw := gw_t 823 (by decide +kernel) rfl
theorem lL_118 : Cond.methodLink RL 118 yX8_fastestSafeSpeed ∈ gw := gw_t 827 (by decide +kernel) rfl
theorem lL_39 : Cond.methodLink RL 39 yX8_setMode ∈ gw := gw_t 831 (by decide +kernel) rfl
theorem lL_43 : Cond.methodLink RL 43 yX8_setIndexGrating ∈ gw := gw_t 835 (by decide +kernel) rfl
theorem cX8_137 : Cond.constantLong RX8 137 (8) ∈ gw := gw_t 839 (by decide +kernel) rfl
theorem cX8_139 : Cond.constantLong RX8 139 (80) ∈ gw := gw_t 840 (by decide +kernel) rfl
theorem cX8_141 : Cond.constantLong RX8 141 (79) ∈ gw := gw_t 841 (by decide +kernel) rfl
theorem lL_47 : Cond.methodLink RL 47 yX8_addDirt ∈ gw := gw_t 842 (by decide +kernel) rfl
theorem lL_51 : Cond.methodLink RL 51 yX8_removeDirt ∈ gw := gw_t 846 (by decide +kernel) rfl
theorem lL_55 : Cond.methodLink RL 55 yX8_zeroSlip ∈ gw := gw_t 850 (by decide +kernel) rfl
theorem lL_59 : Cond.methodLink RL 59 yX8_recover ∈ gw := gw_t 854 (by decide +kernel) rfl
theorem cX8_143 : Cond.constantLong RX8 143 (9) ∈ gw := gw_t 858 (by decide +kernel) rfl
theorem lX8_145 : Cond.methodLink RX8 145 yX8_markEvent ∈ gw := gw_t 859 (by decide +kernel) rfl
theorem lX8_149 : Cond.methodLink RX8 149 yX8_apart ∈ gw := gw_t 863 (by decide +kernel) rfl
theorem lL_67 : Cond.methodLink RL 67 yX8_position ∈ gw := gw_t 866 (by decide +kernel) rfl
theorem lL_72 : Cond.methodLink RL 72 yX8_counter ∈ gw := gw_t 870 (by decide +kernel) rfl
theorem lL_76 : Cond.methodLink RL 76 yX8_slip ∈ gw := gw_t 874 (by decide +kernel) rfl
theorem lL_80 : Cond.methodLink RL 80 yX8_misses ∈ gw := gw_t 878 (by decide +kernel) rfl
theorem lL_84 : Cond.methodLink RL 84 yX8_samples ∈ gw := gw_t 882 (by decide +kernel) rfl
theorem lL_88 : Cond.methodLink RL 88 yX8_missRateBits ∈ gw := gw_t 886 (by decide +kernel) rfl
theorem lX8_152 : Cond.methodLink RX8 152 yJxf58ca_floatToIntBits_5c35a ∈ gw := gw_t 890 (by decide +kernel) rfl
theorem lJxf58ca_59 : Cond.methodLink RJxf58ca 59 yJxf58ca_isNaN_12338 ∈ gw := gw_t 893 (by decide +kernel) rfl
theorem cJxf58ca_77 : Cond.constant RJxf58ca 77 (2143289344) ∈ gw := gw_t 899 (by decide +kernel) rfl
theorem lL_92 : Cond.methodLink RL 92 yX8_markPosition ∈ gw := gw_t 900 (by decide +kernel) rfl
theorem lL_96 : Cond.methodLink RL 96 yX8_expectedCount ∈ gw := gw_t 904 (by decide +kernel) rfl
theorem lL_100 : Cond.methodLink RL 100 yX8_eventKind ∈ gw := gw_t 908 (by decide +kernel) rfl
theorem lX8_158 : Cond.methodLink RX8 158 yX8_isEvent ∈ gw := gw_t 912 (by decide +kernel) rfl
theorem lX8_161 : Cond.methodLink RX8 161 yX8_ofEvent ∈ gw := gw_t 916 (by decide +kernel) rfl
theorem lL_104 : Cond.methodLink RL 104 yX8_eventPosition ∈ gw := gw_t 920 (by decide +kernel) rfl
theorem lL_109 : Cond.methodLink RL 109 yX8_eventCounter ∈ gw := gw_t 924 (by decide +kernel) rfl
theorem lL_122 : Cond.methodLink RL 122 yX8_brightness ∈ gw := gw_t 928 (by decide +kernel) rfl
theorem cX8_164 : Cond.constantLong RX8 164 (999) ∈ gw := gw_t 932 (by decide +kernel) rfl
theorem cX8_166 : Cond.constantLong RX8 166 (200) ∈ gw := gw_t 933 (by decide +kernel) rfl
theorem lX8_168 : Cond.methodLink RX8 168 yX8_brightIn ∈ gw := gw_t 934 (by decide +kernel) rfl
theorem lL_126 : Cond.methodLink RL 126 yX8_brightestStart ∈ gw := gw_t 938 (by decide +kernel) rfl
theorem lL_130 : Cond.methodLink RL 130 yX8_overlayPeriod ∈ gw := gw_t 942 (by decide +kernel) rfl
theorem lX8_171 : Cond.methodLink RX8 171 yX8_common ∈ gw := gw_t 946 (by decide +kernel) rfl
theorem lL_134 : Cond.methodLink RL 134 yX8_fringePeriodNumerator ∈ gw := gw_t 949 (by decide +kernel) rfl
theorem lX8_174 : Cond.methodLink RX8 174 yX8_fringe ∈ gw := gw_t 953 (by decide +kernel) rfl
theorem lL_138 : Cond.methodLink RL 138 yX8_fringePeriodDenominator ∈ gw := gw_t 957 (by decide +kernel) rfl
theorem lL_142 : Cond.methodLink RL 142 yX8_magnificationBits ∈ gw := gw_t 961 (by decide +kernel) rfl
theorem lL_146 : Cond.methodLink RL 146 yX8_crossedSpacingBits ∈ gw := gw_t 965 (by decide +kernel) rfl
theorem gw_arr_int : Cond.arrayClass .int ∈ gw := gw_t 725 (by decide +kernel) rfl
theorem gw_arr_long : Cond.arrayClass .long ∈ gw := gw_t 40 (by decide +kernel) rfl
theorem gw_ol (c : String) (n : Nat) (k : Nat) (h : tables_1[k]? = some (Cond.methodLink c n objectInit)) : Cond.methodLink c n objectInit ∈ gw := gw_t k h rfl
theorem gw_oi : Cond.instanceMethod objectInit ∈ gw := gw_t 22 (by decide +kernel) rfl
theorem gw_oc : Cond.code objectInit ⟨#[0xb1]⟩ 1 none ∈ gw := gw_t 23 rfl rfl
theorem oX7_1 : Cond.methodLink RX7 1 objectInit ∈ gw := gw_t 21 (by decide +kernel) rfl
theorem oX4_1 : Cond.methodLink RX4 1 objectInit ∈ gw := gw_t 29 (by decide +kernel) rfl
theorem oX5_3 : Cond.methodLink RX5 3 objectInit ∈ gw := gw_t 46 (by decide +kernel) rfl
theorem oX1_3 : Cond.methodLink RX1 3 objectInit ∈ gw := gw_t 54 (by decide +kernel) rfl
theorem oX2_3 : Cond.methodLink RX2 3 objectInit ∈ gw := gw_t 96 (by decide +kernel) rfl
theorem oX6_1 : Cond.methodLink RX6 1 objectInit ∈ gw := gw_t 103 (by decide +kernel) rfl
theorem oX0_1 : Cond.methodLink RX0 1 objectInit ∈ gw := gw_t 109 (by decide +kernel) rfl
theorem oX3_3 : Cond.methodLink RX3 3 objectInit ∈ gw := gw_t 127 (by decide +kernel) rfl
theorem oX8_1 : Cond.methodLink RX8 1 objectInit ∈ gw := gw_t 670 (by decide +kernel) rfl
theorem gw_nat : Cond.native ⟨"java/lang/Float", "floatToRawIntBits", "(F)I"⟩ ∈ gw := gw_t 898 (by decide +kernel) rfl
theorem gw_nas : Cond.static ⟨"java/lang/Float", "floatToRawIntBits", "(F)I"⟩ ∈ gw := gw_t 897 (by decide +kernel) rfl
theorem gw_nal : Cond.methodLink "java/lang/Float" 74 ⟨"java/lang/Float", "floatToRawIntBits", "(F)I"⟩ ∈ gw := gw_t 896 (by decide +kernel) rfl
theorem gw_nai : Cond.initialized "java/lang/Float" ∈ gw := gw_t 15 (by decide +kernel) rfl
