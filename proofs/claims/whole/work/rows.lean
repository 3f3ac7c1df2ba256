section
-- ===== PART A: goes FIRST, ahead of the names: the tables' words, and 'selects' of the private methods out of them =====
/-- a private method of a class that the tables say can be made, by its rows of tables_1 -/
def lw_okq (q : MethodName × Nat) : Prop := (q.1.cls ≠ "java/lang/invoke/MethodHandle" ∧ q.1.cls ≠ "java/lang/invoke/VarHandle") ∧ Cond.instantiable q.1.cls q.2 ∈ tables_1 ∧ Cond.privateMethod q.1 ∈ tables_1 ∧ Cond.instanceMethod q.1 ∈ tables_1
theorem lw_p0 : lw_okq (⟨"MoireEncoder", "readSetup", "()I"⟩, 7) := ⟨⟨by decide +kernel, by decide +kernel⟩, List.mem_of_getElem? (i := 17) (by decide +kernel), List.mem_of_getElem? (i := 244) (by decide +kernel), List.mem_of_getElem? (i := 245) (by decide +kernel)⟩
theorem lw_p1 : lw_okq (⟨"MoireEncoder", "readStatement", "(I)I"⟩, 7) := ⟨⟨by decide +kernel, by decide +kernel⟩, List.mem_of_getElem? (i := 17) (by decide +kernel), List.mem_of_getElem? (i := 265) (by decide +kernel), List.mem_of_getElem? (i := 266) (by decide +kernel)⟩
theorem lw_p2 : lw_okq (⟨"MoireEncoder", "numberAt", "(I)I"⟩, 7) := ⟨⟨by decide +kernel, by decide +kernel⟩, List.mem_of_getElem? (i := 17) (by decide +kernel), List.mem_of_getElem? (i := 281) (by decide +kernel), List.mem_of_getElem? (i := 282) (by decide +kernel)⟩
theorem lw_p3 : lw_okq (⟨"MoireEncoder", "digitsFrom", "(I)I"⟩, 7) := ⟨⟨by decide +kernel, by decide +kernel⟩, List.mem_of_getElem? (i := 17) (by decide +kernel), List.mem_of_getElem? (i := 285) (by decide +kernel), List.mem_of_getElem? (i := 286) (by decide +kernel)⟩
theorem lw_p4 : lw_okq (⟨"MoireEncoder$Setup", "takeMark", "(I)Z"⟩, 6) := ⟨⟨by decide +kernel, by decide +kernel⟩, List.mem_of_getElem? (i := 42) (by decide +kernel), List.mem_of_getElem? (i := 305) (by decide +kernel), List.mem_of_getElem? (i := 306) (by decide +kernel)⟩
theorem lw_p5 : lw_okq (⟨"MoireEncoder$Setup", "takeDirt", "(II)Z"⟩, 6) := ⟨⟨by decide +kernel, by decide +kernel⟩, List.mem_of_getElem? (i := 42) (by decide +kernel), List.mem_of_getElem? (i := 319) (by decide +kernel), List.mem_of_getElem? (i := 320) (by decide +kernel)⟩
theorem lw_p6 : lw_okq (⟨"MoireEncoder", "startFromDraft", "()V"⟩, 7) := ⟨⟨by decide +kernel, by decide +kernel⟩, List.mem_of_getElem? (i := 17) (by decide +kernel), List.mem_of_getElem? (i := 337) (by decide +kernel), List.mem_of_getElem? (i := 338) (by decide +kernel)⟩
theorem lw_p7 : lw_okq (⟨"MoireEncoder$History", "dropOldest", "()V"⟩, 2) := ⟨⟨by decide +kernel, by decide +kernel⟩, List.mem_of_getElem? (i := 92) (by decide +kernel), List.mem_of_getElem? (i := 420) (by decide +kernel), List.mem_of_getElem? (i := 421) (by decide +kernel)⟩
theorem lw_p8 : lw_okq (⟨"MoireEncoder", "takeSample", "(I)V"⟩, 7) := ⟨⟨by decide +kernel, by decide +kernel⟩, List.mem_of_getElem? (i := 17) (by decide +kernel), List.mem_of_getElem? (i := 449) (by decide +kernel), List.mem_of_getElem? (i := 450) (by decide +kernel)⟩
theorem lw_p9 : lw_okq (⟨"MoireEncoder", "readSample", "(LMoireEncoder$Decoder;I)Z"⟩, 7) := ⟨⟨by decide +kernel, by decide +kernel⟩, List.mem_of_getElem? (i := 17) (by decide +kernel), List.mem_of_getElem? (i := 453) (by decide +kernel), List.mem_of_getElem? (i := 454) (by decide +kernel)⟩
theorem lw_p10 : lw_okq (⟨"MoireEncoder", "quadrantAt", "(I)I"⟩, 7) := ⟨⟨by decide +kernel, by decide +kernel⟩, List.mem_of_getElem? (i := 17) (by decide +kernel), List.mem_of_getElem? (i := 463) (by decide +kernel), List.mem_of_getElem? (i := 464) (by decide +kernel)⟩
theorem lw_p11 : lw_okq (⟨"MoireEncoder", "logPassedMarks", "(II)V"⟩, 7) := ⟨⟨by decide +kernel, by decide +kernel⟩, List.mem_of_getElem? (i := 17) (by decide +kernel), List.mem_of_getElem? (i := 491) (by decide +kernel), List.mem_of_getElem? (i := 492) (by decide +kernel)⟩
theorem lw_p12 : lw_okq (⟨"MoireEncoder", "countAt", "(I)I"⟩, 7) := ⟨⟨by decide +kernel, by decide +kernel⟩, List.mem_of_getElem? (i := 17) (by decide +kernel), List.mem_of_getElem? (i := 500) (by decide +kernel), List.mem_of_getElem? (i := 501) (by decide +kernel)⟩
theorem lw_p13 : lw_okq (⟨"MoireEncoder", "matchingPair", "(JI)I"⟩, 7) := ⟨⟨by decide +kernel, by decide +kernel⟩, List.mem_of_getElem? (i := 17) (by decide +kernel), List.mem_of_getElem? (i := 546) (by decide +kernel), List.mem_of_getElem? (i := 547) (by decide +kernel)⟩
theorem lw_p14 : lw_okq (⟨"MoireEncoder", "isSafe", "(II)Z"⟩, 7) := ⟨⟨by decide +kernel, by decide +kernel⟩, List.mem_of_getElem? (i := 17) (by decide +kernel), List.mem_of_getElem? (i := 616) (by decide +kernel), List.mem_of_getElem? (i := 617) (by decide +kernel)⟩
theorem lw_p15 : lw_okq (⟨"MoireEncoder", "brightCells", "(II)I"⟩, 7) := ⟨⟨by decide +kernel, by decide +kernel⟩, List.mem_of_getElem? (i := 17) (by decide +kernel), List.mem_of_getElem? (i := 624) (by decide +kernel), List.mem_of_getElem? (i := 625) (by decide +kernel)⟩
def lw_privs_1 : List (MethodName × Nat) := [(⟨"MoireEncoder", "readSetup", "()I"⟩, 7), (⟨"MoireEncoder", "readStatement", "(I)I"⟩, 7), (⟨"MoireEncoder", "numberAt", "(I)I"⟩, 7), (⟨"MoireEncoder", "digitsFrom", "(I)I"⟩, 7), (⟨"MoireEncoder$Setup", "takeMark", "(I)Z"⟩, 6), (⟨"MoireEncoder$Setup", "takeDirt", "(II)Z"⟩, 6), (⟨"MoireEncoder", "startFromDraft", "()V"⟩, 7), (⟨"MoireEncoder$History", "dropOldest", "()V"⟩, 2), (⟨"MoireEncoder", "takeSample", "(I)V"⟩, 7), (⟨"MoireEncoder", "readSample", "(LMoireEncoder$Decoder;I)Z"⟩, 7), (⟨"MoireEncoder", "quadrantAt", "(I)I"⟩, 7), (⟨"MoireEncoder", "logPassedMarks", "(II)V"⟩, 7), (⟨"MoireEncoder", "countAt", "(I)I"⟩, 7), (⟨"MoireEncoder", "matchingPair", "(JI)I"⟩, 7), (⟨"MoireEncoder", "isSafe", "(II)Z"⟩, 7), (⟨"MoireEncoder", "brightCells", "(II)I"⟩, 7)]
theorem lw_r1 : ∀ q ∈ lw_privs_1, lw_okq q := List.forall_mem_cons.mpr ⟨lw_p0, List.forall_mem_cons.mpr ⟨lw_p1, List.forall_mem_cons.mpr ⟨lw_p2, List.forall_mem_cons.mpr ⟨lw_p3, List.forall_mem_cons.mpr ⟨lw_p4, List.forall_mem_cons.mpr ⟨lw_p5, List.forall_mem_cons.mpr ⟨lw_p6, List.forall_mem_cons.mpr ⟨lw_p7, List.forall_mem_cons.mpr ⟨lw_p8, List.forall_mem_cons.mpr ⟨lw_p9, List.forall_mem_cons.mpr ⟨lw_p10, List.forall_mem_cons.mpr ⟨lw_p11, List.forall_mem_cons.mpr ⟨lw_p12, List.forall_mem_cons.mpr ⟨lw_p13, List.forall_mem_cons.mpr ⟨lw_p14, List.forall_mem_cons.mpr ⟨lw_p15, fun _ h => absurd h List.not_mem_nil⟩⟩⟩⟩⟩⟩⟩⟩⟩⟩⟩⟩⟩⟩⟩⟩
theorem lw_p16 : lw_okq (⟨"MoireEncoder", "inLowestTerms", "(I)I"⟩, 7) := ⟨⟨by decide +kernel, by decide +kernel⟩, List.mem_of_getElem? (i := 17) (by decide +kernel), List.mem_of_getElem? (i := 646) (by decide +kernel), List.mem_of_getElem? (i := 647) (by decide +kernel)⟩
theorem lw_p17 : lw_okq (⟨"MoireEncoder", "pitchDifference", "()I"⟩, 7) := ⟨⟨by decide +kernel, by decide +kernel⟩, List.mem_of_getElem? (i := 17) (by decide +kernel), List.mem_of_getElem? (i := 650) (by decide +kernel), List.mem_of_getElem? (i := 651) (by decide +kernel)⟩
theorem lw_p18 : lw_okq (⟨"MoireEncoderModel", "beginRead", "()V"⟩, 15) := ⟨⟨by decide +kernel, by decide +kernel⟩, List.mem_of_getElem? (i := 666) (by decide +kernel), List.mem_of_getElem? (i := 672) (by decide +kernel), List.mem_of_getElem? (i := 673) (by decide +kernel)⟩
theorem lw_p19 : lw_okq (⟨"MoireEncoderModel", "takeRead", "()V"⟩, 15) := ⟨⟨by decide +kernel, by decide +kernel⟩, List.mem_of_getElem? (i := 666) (by decide +kernel), List.mem_of_getElem? (i := 676) (by decide +kernel), List.mem_of_getElem? (i := 677) (by decide +kernel)⟩
theorem lw_p20 : lw_okq (⟨"MoireEncoderModel", "readAll", "()I"⟩, 15) := ⟨⟨by decide +kernel, by decide +kernel⟩, List.mem_of_getElem? (i := 666) (by decide +kernel), List.mem_of_getElem? (i := 744) (by decide +kernel), List.mem_of_getElem? (i := 745) (by decide +kernel)⟩
theorem lw_p21 : lw_okq (⟨"MoireEncoderModel", "statement", "()Z"⟩, 15) := ⟨⟨by decide +kernel, by decide +kernel⟩, List.mem_of_getElem? (i := 666) (by decide +kernel), List.mem_of_getElem? (i := 748) (by decide +kernel), List.mem_of_getElem? (i := 749) (by decide +kernel)⟩
theorem lw_p22 : lw_okq (⟨"MoireEncoderModel", "letterHere", "()I"⟩, 15) := ⟨⟨by decide +kernel, by decide +kernel⟩, List.mem_of_getElem? (i := 666) (by decide +kernel), List.mem_of_getElem? (i := 752) (by decide +kernel), List.mem_of_getElem? (i := 753) (by decide +kernel)⟩
theorem lw_p23 : lw_okq (⟨"MoireEncoderModel", "isNumber", "(III)Z"⟩, 15) := ⟨⟨by decide +kernel, by decide +kernel⟩, List.mem_of_getElem? (i := 666) (by decide +kernel), List.mem_of_getElem? (i := 756) (by decide +kernel), List.mem_of_getElem? (i := 757) (by decide +kernel)⟩
theorem lw_p24 : lw_okq (⟨"MoireEncoderModel", "dirtStatement", "()Z"⟩, 15) := ⟨⟨by decide +kernel, by decide +kernel⟩, List.mem_of_getElem? (i := 666) (by decide +kernel), List.mem_of_getElem? (i := 762) (by decide +kernel), List.mem_of_getElem? (i := 763) (by decide +kernel)⟩
theorem lw_p25 : lw_okq (⟨"MoireEncoderModel", "keeps", "()V"⟩, 15) := ⟨⟨by decide +kernel, by decide +kernel⟩, List.mem_of_getElem? (i := 666) (by decide +kernel), List.mem_of_getElem? (i := 783) (by decide +kernel), List.mem_of_getElem? (i := 784) (by decide +kernel)⟩
theorem lw_p26 : lw_okq (⟨"MoireEncoderModel", "aside", "()V"⟩, 15) := ⟨⟨by decide +kernel, by decide +kernel⟩, List.mem_of_getElem? (i := 666) (by decide +kernel), List.mem_of_getElem? (i := 787) (by decide +kernel), List.mem_of_getElem? (i := 788) (by decide +kernel)⟩
theorem lw_p27 : lw_okq (⟨"MoireEncoderModel", "moves", "(II)V"⟩, 15) := ⟨⟨by decide +kernel, by decide +kernel⟩, List.mem_of_getElem? (i := 666) (by decide +kernel), List.mem_of_getElem? (i := 791) (by decide +kernel), List.mem_of_getElem? (i := 792) (by decide +kernel)⟩
theorem lw_p28 : lw_okq (⟨"MoireEncoderModel", "sampleAt", "(II)V"⟩, 15) := ⟨⟨by decide +kernel, by decide +kernel⟩, List.mem_of_getElem? (i := 666) (by decide +kernel), List.mem_of_getElem? (i := 795) (by decide +kernel), List.mem_of_getElem? (i := 796) (by decide +kernel)⟩
theorem lw_p29 : lw_okq (⟨"MoireEncoderModel", "isDirty", "(I)Z"⟩, 15) := ⟨⟨by decide +kernel, by decide +kernel⟩, List.mem_of_getElem? (i := 666) (by decide +kernel), List.mem_of_getElem? (i := 799) (by decide +kernel), List.mem_of_getElem? (i := 800) (by decide +kernel)⟩
theorem lw_p30 : lw_okq (⟨"MoireEncoderModel", "decodes", "(I)V"⟩, 15) := ⟨⟨by decide +kernel, by decide +kernel⟩, List.mem_of_getElem? (i := 666) (by decide +kernel), List.mem_of_getElem? (i := 803) (by decide +kernel), List.mem_of_getElem? (i := 804) (by decide +kernel)⟩
theorem lw_p31 : lw_okq (⟨"MoireEncoderModel", "logs", "(II)V"⟩, 15) := ⟨⟨by decide +kernel, by decide +kernel⟩, List.mem_of_getElem? (i := 666) (by decide +kernel), List.mem_of_getElem? (i := 807) (by decide +kernel), List.mem_of_getElem? (i := 808) (by decide +kernel)⟩
def lw_privs_2 : List (MethodName × Nat) := [(⟨"MoireEncoder", "inLowestTerms", "(I)I"⟩, 7), (⟨"MoireEncoder", "pitchDifference", "()I"⟩, 7), (⟨"MoireEncoderModel", "beginRead", "()V"⟩, 15), (⟨"MoireEncoderModel", "takeRead", "()V"⟩, 15), (⟨"MoireEncoderModel", "readAll", "()I"⟩, 15), (⟨"MoireEncoderModel", "statement", "()Z"⟩, 15), (⟨"MoireEncoderModel", "letterHere", "()I"⟩, 15), (⟨"MoireEncoderModel", "isNumber", "(III)Z"⟩, 15), (⟨"MoireEncoderModel", "dirtStatement", "()Z"⟩, 15), (⟨"MoireEncoderModel", "keeps", "()V"⟩, 15), (⟨"MoireEncoderModel", "aside", "()V"⟩, 15), (⟨"MoireEncoderModel", "moves", "(II)V"⟩, 15), (⟨"MoireEncoderModel", "sampleAt", "(II)V"⟩, 15), (⟨"MoireEncoderModel", "isDirty", "(I)Z"⟩, 15), (⟨"MoireEncoderModel", "decodes", "(I)V"⟩, 15), (⟨"MoireEncoderModel", "logs", "(II)V"⟩, 15)]
theorem lw_r2 : ∀ q ∈ lw_privs_2, lw_okq q := List.forall_mem_cons.mpr ⟨lw_p16, List.forall_mem_cons.mpr ⟨lw_p17, List.forall_mem_cons.mpr ⟨lw_p18, List.forall_mem_cons.mpr ⟨lw_p19, List.forall_mem_cons.mpr ⟨lw_p20, List.forall_mem_cons.mpr ⟨lw_p21, List.forall_mem_cons.mpr ⟨lw_p22, List.forall_mem_cons.mpr ⟨lw_p23, List.forall_mem_cons.mpr ⟨lw_p24, List.forall_mem_cons.mpr ⟨lw_p25, List.forall_mem_cons.mpr ⟨lw_p26, List.forall_mem_cons.mpr ⟨lw_p27, List.forall_mem_cons.mpr ⟨lw_p28, List.forall_mem_cons.mpr ⟨lw_p29, List.forall_mem_cons.mpr ⟨lw_p30, List.forall_mem_cons.mpr ⟨lw_p31, fun _ h => absurd h List.not_mem_nil⟩⟩⟩⟩⟩⟩⟩⟩⟩⟩⟩⟩⟩⟩⟩⟩
theorem lw_p32 : lw_okq (⟨"MoireEncoderModel", "isCounted", "(I)Z"⟩, 15) := ⟨⟨by decide +kernel, by decide +kernel⟩, List.mem_of_getElem? (i := 666) (by decide +kernel), List.mem_of_getElem? (i := 811) (by decide +kernel), List.mem_of_getElem? (i := 812) (by decide +kernel)⟩
theorem lw_p33 : lw_okq (⟨"MoireEncoderModel", "slipOf", "([I)J"⟩, 15) := ⟨⟨by decide +kernel, by decide +kernel⟩, List.mem_of_getElem? (i := 666) (by decide +kernel), List.mem_of_getElem? (i := 820) (by decide +kernel), List.mem_of_getElem? (i := 821) (by decide +kernel)⟩
theorem lw_p34 : lw_okq (⟨"MoireEncoderModel", "expects", "(II)I"⟩, 15) := ⟨⟨by decide +kernel, by decide +kernel⟩, List.mem_of_getElem? (i := 666) (by decide +kernel), List.mem_of_getElem? (i := 824) (by decide +kernel), List.mem_of_getElem? (i := 825) (by decide +kernel)⟩
theorem lw_p35 : lw_okq (⟨"MoireEncoderModel", "markEvent", "(I)I"⟩, 15) := ⟨⟨by decide +kernel, by decide +kernel⟩, List.mem_of_getElem? (i := 666) (by decide +kernel), List.mem_of_getElem? (i := 860) (by decide +kernel), List.mem_of_getElem? (i := 861) (by decide +kernel)⟩
theorem lw_p36 : lw_okq (⟨"MoireEncoderModel", "isEvent", "(I)Z"⟩, 15) := ⟨⟨by decide +kernel, by decide +kernel⟩, List.mem_of_getElem? (i := 666) (by decide +kernel), List.mem_of_getElem? (i := 913) (by decide +kernel), List.mem_of_getElem? (i := 914) (by decide +kernel)⟩
theorem lw_p37 : lw_okq (⟨"MoireEncoderModel", "ofEvent", "(II)I"⟩, 15) := ⟨⟨by decide +kernel, by decide +kernel⟩, List.mem_of_getElem? (i := 666) (by decide +kernel), List.mem_of_getElem? (i := 917) (by decide +kernel), List.mem_of_getElem? (i := 918) (by decide +kernel)⟩
theorem lw_p38 : lw_okq (⟨"MoireEncoderModel", "brightIn", "(II)I"⟩, 15) := ⟨⟨by decide +kernel, by decide +kernel⟩, List.mem_of_getElem? (i := 666) (by decide +kernel), List.mem_of_getElem? (i := 935) (by decide +kernel), List.mem_of_getElem? (i := 936) (by decide +kernel)⟩
theorem lw_p39 : lw_okq (⟨"MoireEncoderModel", "fringe", "(Z)I"⟩, 15) := ⟨⟨by decide +kernel, by decide +kernel⟩, List.mem_of_getElem? (i := 666) (by decide +kernel), List.mem_of_getElem? (i := 954) (by decide +kernel), List.mem_of_getElem? (i := 955) (by decide +kernel)⟩
def lw_privs_3 : List (MethodName × Nat) := [(⟨"MoireEncoderModel", "isCounted", "(I)Z"⟩, 15), (⟨"MoireEncoderModel", "slipOf", "([I)J"⟩, 15), (⟨"MoireEncoderModel", "expects", "(II)I"⟩, 15), (⟨"MoireEncoderModel", "markEvent", "(I)I"⟩, 15), (⟨"MoireEncoderModel", "isEvent", "(I)Z"⟩, 15), (⟨"MoireEncoderModel", "ofEvent", "(II)I"⟩, 15), (⟨"MoireEncoderModel", "brightIn", "(II)I"⟩, 15), (⟨"MoireEncoderModel", "fringe", "(Z)I"⟩, 15)]
theorem lw_r3 : ∀ q ∈ lw_privs_3, lw_okq q := List.forall_mem_cons.mpr ⟨lw_p32, List.forall_mem_cons.mpr ⟨lw_p33, List.forall_mem_cons.mpr ⟨lw_p34, List.forall_mem_cons.mpr ⟨lw_p35, List.forall_mem_cons.mpr ⟨lw_p36, List.forall_mem_cons.mpr ⟨lw_p37, List.forall_mem_cons.mpr ⟨lw_p38, List.forall_mem_cons.mpr ⟨lw_p39, fun _ h => absurd h List.not_mem_nil⟩⟩⟩⟩⟩⟩⟩⟩
def lw_privs : List (MethodName × Nat) := lw_privs_1 ++ (lw_privs_2 ++ (lw_privs_3))
def lw_tbl : List Cond := k2_sels lw_privs ++ tables_1
theorem lw_privs_ok : ∀ q ∈ lw_privs, lw_okq q := by
  show ∀ q ∈ lw_privs_1 ++ (lw_privs_2 ++ (lw_privs_3)), lw_okq q
  exact List.forall_mem_append.mpr ⟨lw_r1, List.forall_mem_append.mpr ⟨lw_r2, lw_r3⟩⟩
/-- the streams that the claim lets the run draw from -/
abbrev lw_cs : List Choice := [Jvm.Choice.named "NaN.bits"]
theorem lw_bits : nanBits ∈ lw_cs := by first | decide | exact List.mem_cons_self | simp [lw_cs, nanBits]
end
section
/-! ===== BEGIN words of one list among another's, by their places ===== -/
/-! ===== END ===== -/

/-! ===== BEGIN printed: names, fields, word lists, decode rows ===== -/
def RX0 : String := "MoireEncoder$Decoder"
def TX0 : u_T := fun k => match k with
  | 0 => ("MoireEncoder$Decoder", "quadrant", "I", false)
  | 1 => ("MoireEncoder$Decoder", "counter", "J", false)
  | _ => ("MoireEncoder$Decoder", "misses", "I", false)
def tyX0 : Nat → FieldType := fun k => match k with
  | 0 => .int
  | 1 => .long
  | _ => .int
abbrev wsX00 : List Cond := u_ws RX0 TX0 3
theorem nmX0 : ∀ a, a < 3 → ∀ b, b < 3 → a ≠ b → (TX0 a).2.1 ≠ (TX0 b).2.1 := by decide +kernel
theorem tyX0_ok : ∀ k, k < 3 → parseFieldDescriptor (TX0 k).2.2.1 = some (tyX0 k) := by decide +kernel
abbrev cX0_init : ByteArray := prog_2_method_1_code
def yX0_init : MethodName := ⟨RX0, "<init>", "()V"⟩
abbrev cX0_read : ByteArray := prog_2_method_2_code
def yX0_read : MethodName := ⟨RX0, "read", "(II)Z"⟩
abbrev cX0_counts : ByteArray := prog_2_method_3_code
def yX0_counts : MethodName := ⟨RX0, "counts", "(II)Z"⟩
abbrev cX0_reset : ByteArray := prog_2_method_4_code
def yX0_reset : MethodName := ⟨RX0, "reset", "()V"⟩
abbrev cX0_copyFrom : ByteArray := prog_2_method_5_code
def yX0_copyFrom : MethodName := ⟨RX0, "copyFrom", "(LMoireEncoder$Decoder;)V"⟩
def RX1 : String := "MoireEncoder$Dirt"
def TX1 : u_T := fun k => match k with
  | 0 => ("MoireEncoder$Dirt", "starts", "LMoireEncoder$Row;", true)
  | _ => ("MoireEncoder$Dirt", "lengths", "LMoireEncoder$Row;", true)
def tyX1 : Nat → FieldType := fun k => match k with
  | 0 => .object "MoireEncoder$Row"
  | _ => .object "MoireEncoder$Row"
abbrev wsX10 : List Cond := u_ws RX1 TX1 2
theorem nmX1 : ∀ a, a < 2 → ∀ b, b < 2 → a ≠ b → (TX1 a).2.1 ≠ (TX1 b).2.1 := by decide +kernel
theorem tyX1_ok : ∀ k, k < 2 → parseFieldDescriptor (TX1 k).2.2.1 = some (tyX1 k) := by decide +kernel
abbrev cX1_init : ByteArray := prog_3_method_1_code
def yX1_init : MethodName := ⟨RX1, "<init>", "()V"⟩
abbrev cX1_isFull : ByteArray := prog_3_method_2_code
def yX1_isFull : MethodName := ⟨RX1, "isFull", "()Z"⟩
abbrev cX1_add : ByteArray := prog_3_method_3_code
def yX1_add : MethodName := ⟨RX1, "add", "(II)V"⟩
abbrev cX1_removeAt : ByteArray := prog_3_method_4_code
def yX1_removeAt : MethodName := ⟨RX1, "removeAt", "(I)V"⟩
abbrev cX1_covers : ByteArray := prog_3_method_5_code
def yX1_covers : MethodName := ⟨RX1, "covers", "(I)Z"⟩
abbrev cX1_clear : ByteArray := prog_3_method_6_code
def yX1_clear : MethodName := ⟨RX1, "clear", "()V"⟩
abbrev cX1_copyFrom : ByteArray := prog_3_method_7_code
def yX1_copyFrom : MethodName := ⟨RX1, "copyFrom", "(LMoireEncoder$Dirt;)V"⟩
def RX2 : String := "MoireEncoder$History"
def TX2 : u_T := fun k => match k with
  | 0 => ("MoireEncoder$History", "states", "[LMoireEncoder$State;", true)
  | _ => ("MoireEncoder$History", "size", "I", false)
def tyX2 : Nat → FieldType := fun k => match k with
  | 0 => .array (.object "MoireEncoder$State")
  | _ => .int
abbrev wsX20 : List Cond := u_ws RX2 TX2 2
theorem nmX2 : ∀ a, a < 2 → ∀ b, b < 2 → a ≠ b → (TX2 a).2.1 ≠ (TX2 b).2.1 := by decide +kernel
theorem tyX2_ok : ∀ k, k < 2 → parseFieldDescriptor (TX2 k).2.2.1 = some (tyX2 k) := by decide +kernel
abbrev cX2_init : ByteArray := prog_4_method_1_code
def yX2_init : MethodName := ⟨RX2, "<init>", "()V"⟩
abbrev cX2_remember : ByteArray := prog_4_method_2_code
def yX2_remember : MethodName := ⟨RX2, "remember", "(LMoireEncoder$State;)V"⟩
abbrev cX2_takeBack : ByteArray := prog_4_method_3_code
def yX2_takeBack : MethodName := ⟨RX2, "takeBack", "(LMoireEncoder$State;)LMoireEncoder$State;"⟩
abbrev cX2_forgetAll : ByteArray := prog_4_method_4_code
def yX2_forgetAll : MethodName := ⟨RX2, "forgetAll", "()V"⟩
abbrev cX2_dropOldest : ByteArray := prog_4_method_5_code
def yX2_dropOldest : MethodName := ⟨RX2, "dropOldest", "()V"⟩
def RX3 : String := "MoireEncoder$Log"
def TX3 : u_T := fun k => match k with
  | 0 => ("MoireEncoder$Log", "kinds", "LMoireEncoder$Row;", true)
  | 1 => ("MoireEncoder$Log", "positions", "LMoireEncoder$Row;", true)
  | _ => ("MoireEncoder$Log", "counters", "LMoireEncoder$Row;", true)
def tyX3 : Nat → FieldType := fun k => match k with
  | 0 => .object "MoireEncoder$Row"
  | 1 => .object "MoireEncoder$Row"
  | _ => .object "MoireEncoder$Row"
abbrev wsX30 : List Cond := u_ws RX3 TX3 3
theorem nmX3 : ∀ a, a < 3 → ∀ b, b < 3 → a ≠ b → (TX3 a).2.1 ≠ (TX3 b).2.1 := by decide +kernel
theorem tyX3_ok : ∀ k, k < 3 → parseFieldDescriptor (TX3 k).2.2.1 = some (tyX3 k) := by decide +kernel
abbrev cX3_init : ByteArray := prog_5_method_1_code
def yX3_init : MethodName := ⟨RX3, "<init>", "()V"⟩
abbrev cX3_add : ByteArray := prog_5_method_2_code
def yX3_add : MethodName := ⟨RX3, "add", "(IIJ)V"⟩
abbrev cX3_wantsMiss : ByteArray := prog_5_method_3_code
def yX3_wantsMiss : MethodName := ⟨RX3, "wantsMiss", "()Z"⟩
abbrev cX3_markEventFrom : ByteArray := prog_5_method_4_code
def yX3_markEventFrom : MethodName := ⟨RX3, "markEventFrom", "(I)I"⟩
abbrev cX3_clear : ByteArray := prog_5_method_5_code
def yX3_clear : MethodName := ⟨RX3, "clear", "()V"⟩
abbrev cX3_copyFrom : ByteArray := prog_5_method_6_code
def yX3_copyFrom : MethodName := ⟨RX3, "copyFrom", "(LMoireEncoder$Log;)V"⟩
def RX4 : String := "MoireEncoder$Row"
def TX4 : u_T := fun k => match k with
  | 0 => ("MoireEncoder$Row", "cells", "[J", true)
  | _ => ("MoireEncoder$Row", "size", "I", false)
def tyX4 : Nat → FieldType := fun k => match k with
  | 0 => .array .long
  | _ => .int
abbrev wsX40 : List Cond := u_ws RX4 TX4 2
theorem nmX4 : ∀ a, a < 2 → ∀ b, b < 2 → a ≠ b → (TX4 a).2.1 ≠ (TX4 b).2.1 := by decide +kernel
theorem tyX4_ok : ∀ k, k < 2 → parseFieldDescriptor (TX4 k).2.2.1 = some (tyX4 k) := by decide +kernel
abbrev cX4_init : ByteArray := prog_6_method_1_code
def yX4_init : MethodName := ⟨RX4, "<init>", "(I)V"⟩
abbrev cX4_size : ByteArray := prog_6_method_2_code
def yX4_size : MethodName := ⟨RX4, "size", "()I"⟩
abbrev cX4_isFull : ByteArray := prog_6_method_3_code
def yX4_isFull : MethodName := ⟨RX4, "isFull", "()Z"⟩
abbrev cX4_has : ByteArray := prog_6_method_4_code
def yX4_has : MethodName := ⟨RX4, "has", "(I)Z"⟩
abbrev cX4_longAt : ByteArray := prog_6_method_5_code
def yX4_longAt : MethodName := ⟨RX4, "longAt", "(I)J"⟩
abbrev cX4_intAt : ByteArray := prog_6_method_6_code
def yX4_intAt : MethodName := ⟨RX4, "intAt", "(I)I"⟩
abbrev cX4_add : ByteArray := prog_6_method_7_code
def yX4_add : MethodName := ⟨RX4, "add", "(J)V"⟩
abbrev cX4_addFirst : ByteArray := prog_6_method_8_code
def yX4_addFirst : MethodName := ⟨RX4, "addFirst", "(J)V"⟩
abbrev cX4_removeAt : ByteArray := prog_6_method_9_code
def yX4_removeAt : MethodName := ⟨RX4, "removeAt", "(I)V"⟩
abbrev cX4_clear : ByteArray := prog_6_method_10_code
def yX4_clear : MethodName := ⟨RX4, "clear", "()V"⟩
abbrev cX4_copyFrom : ByteArray := prog_6_method_11_code
def yX4_copyFrom : MethodName := ⟨RX4, "copyFrom", "(LMoireEncoder$Row;)V"⟩
def RX5 : String := "MoireEncoder$Setup"
def TX5 : u_T := fun k => match k with
  | 0 => ("MoireEncoder$Setup", "marks", "LMoireEncoder$Row;", true)
  | 1 => ("MoireEncoder$Setup", "dirt", "LMoireEncoder$Dirt;", true)
  | 2 => ("MoireEncoder$Setup", "pitch", "I", false)
  | 3 => ("MoireEncoder$Setup", "indexPitch", "I", false)
  | 4 => ("MoireEncoder$Setup", "indexOffset", "I", false)
  | _ => ("MoireEncoder$Setup", "mode", "I", false)
def tyX5 : Nat → FieldType := fun k => match k with
  | 0 => .object "MoireEncoder$Row"
  | 1 => .object "MoireEncoder$Dirt"
  | 2 => .int
  | 3 => .int
  | 4 => .int
  | _ => .int
abbrev wsX50 : List Cond := u_ws RX5 TX5 6
theorem nmX5 : ∀ a, a < 6 → ∀ b, b < 6 → a ≠ b → (TX5 a).2.1 ≠ (TX5 b).2.1 := by decide +kernel
theorem tyX5_ok : ∀ k, k < 6 → parseFieldDescriptor (TX5 k).2.2.1 = some (tyX5 k) := by decide +kernel
abbrev cX5_init : ByteArray := prog_7_method_1_code
def yX5_init : MethodName := ⟨RX5, "<init>", "()V"⟩
abbrev cX5_reset : ByteArray := prog_7_method_2_code
def yX5_reset : MethodName := ⟨RX5, "reset", "()V"⟩
abbrev cX5_take : ByteArray := prog_7_method_3_code
def yX5_take : MethodName := ⟨RX5, "take", "(III)Z"⟩
abbrev cX5_takeMark : ByteArray := prog_7_method_4_code
def yX5_takeMark : MethodName := ⟨RX5, "takeMark", "(I)Z"⟩
abbrev cX5_takeDirt : ByteArray := prog_7_method_5_code
def yX5_takeDirt : MethodName := ⟨RX5, "takeDirt", "(II)Z"⟩
def RX6 : String := "MoireEncoder$State"
def TX6 : u_T := fun k => match k with
  | 0 => ("MoireEncoder$State", "decoder", "LMoireEncoder$Decoder;", true)
  | 1 => ("MoireEncoder$State", "log", "LMoireEncoder$Log;", true)
  | 2 => ("MoireEncoder$State", "dirt", "LMoireEncoder$Dirt;", true)
  | 3 => ("MoireEncoder$State", "head", "I", false)
  | 4 => ("MoireEncoder$State", "samples", "I", false)
  | 5 => ("MoireEncoder$State", "mode", "I", false)
  | 6 => ("MoireEncoder$State", "indexPitch", "I", false)
  | _ => ("MoireEncoder$State", "indexOffset", "I", false)
def tyX6 : Nat → FieldType := fun k => match k with
  | 0 => .object "MoireEncoder$Decoder"
  | 1 => .object "MoireEncoder$Log"
  | 2 => .object "MoireEncoder$Dirt"
  | 3 => .int
  | 4 => .int
  | 5 => .int
  | 6 => .int
  | _ => .int
abbrev wsX60 : List Cond := u_ws RX6 TX6 8
theorem nmX6 : ∀ a, a < 8 → ∀ b, b < 8 → a ≠ b → (TX6 a).2.1 ≠ (TX6 b).2.1 := by decide +kernel
theorem tyX6_ok : ∀ k, k < 8 → parseFieldDescriptor (TX6 k).2.2.1 = some (tyX6 k) := by decide +kernel
abbrev cX6_init : ByteArray := prog_8_method_1_code
def yX6_init : MethodName := ⟨RX6, "<init>", "()V"⟩
abbrev cX6_startFrom : ByteArray := prog_8_method_2_code
def yX6_startFrom : MethodName := ⟨RX6, "startFrom", "(LMoireEncoder$Setup;)V"⟩
abbrev cX6_copyFrom : ByteArray := prog_8_method_3_code
def yX6_copyFrom : MethodName := ⟨RX6, "copyFrom", "(LMoireEncoder$State;)V"⟩
def RX7 : String := "MoireEncoder"
def TX7 : u_T := fun k => match k with
  | 0 => ("MoireEncoder", "text", "LMoireEncoder$Row;", true)
  | 1 => ("MoireEncoder", "draft", "LMoireEncoder$Setup;", true)
  | 2 => ("MoireEncoder", "marks", "LMoireEncoder$Row;", true)
  | 3 => ("MoireEncoder", "history", "LMoireEncoder$History;", true)
  | 4 => ("MoireEncoder", "trial", "LMoireEncoder$Decoder;", true)
  | 5 => ("MoireEncoder", "now", "LMoireEncoder$State;", false)
  | _ => ("MoireEncoder", "pitch", "I", false)
def tyX7 : Nat → FieldType := fun k => match k with
  | 0 => .object "MoireEncoder$Row"
  | 1 => .object "MoireEncoder$Setup"
  | 2 => .object "MoireEncoder$Row"
  | 3 => .object "MoireEncoder$History"
  | 4 => .object "MoireEncoder$Decoder"
  | 5 => .object "MoireEncoder$State"
  | _ => .int
abbrev wsX70 : List Cond := u_ws RX7 TX7 7
theorem nmX7 : ∀ a, a < 7 → ∀ b, b < 7 → a ≠ b → (TX7 a).2.1 ≠ (TX7 b).2.1 := by decide +kernel
theorem tyX7_ok : ∀ k, k < 7 → parseFieldDescriptor (TX7 k).2.2.1 = some (tyX7 k) := by decide +kernel
abbrev cX7_init : ByteArray := prog_1_method_1_code
def yX7_init : MethodName := ⟨RX7, "<init>", "()V"⟩
abbrev cX7_append : ByteArray := prog_1_method_2_code
def yX7_append : MethodName := ⟨RX7, "append", "(I)I"⟩
abbrev cX7_clearText : ByteArray := prog_1_method_3_code
def yX7_clearText : MethodName := ⟨RX7, "clearText", "()I"⟩
abbrev cX7_firstError : ByteArray := prog_1_method_4_code
def yX7_firstError : MethodName := ⟨RX7, "firstError", "()I"⟩
abbrev cX7_configure : ByteArray := prog_1_method_5_code
def yX7_configure : MethodName := ⟨RX7, "configure", "()I"⟩
abbrev cX7_readSetup : ByteArray := prog_1_method_6_code
def yX7_readSetup : MethodName := ⟨RX7, "readSetup", "()I"⟩
abbrev cX7_readStatement : ByteArray := prog_1_method_7_code
def yX7_readStatement : MethodName := ⟨RX7, "readStatement", "(I)I"⟩
abbrev cX7_digitsFrom : ByteArray := prog_1_method_8_code
def yX7_digitsFrom : MethodName := ⟨RX7, "digitsFrom", "(I)I"⟩
abbrev cX7_numberAt : ByteArray := prog_1_method_9_code
def yX7_numberAt : MethodName := ⟨RX7, "numberAt", "(I)I"⟩
abbrev cX7_startFromDraft : ByteArray := prog_1_method_10_code
def yX7_startFromDraft : MethodName := ⟨RX7, "startFromDraft", "()V"⟩
abbrev cX7_moveTo : ByteArray := prog_1_method_11_code
def yX7_moveTo : MethodName := ⟨RX7, "moveTo", "(II)I"⟩
abbrev cX7_setMode : ByteArray := prog_1_method_12_code
def yX7_setMode : MethodName := ⟨RX7, "setMode", "(I)I"⟩
abbrev cX7_setIndexGrating : ByteArray := prog_1_method_13_code
def yX7_setIndexGrating : MethodName := ⟨RX7, "setIndexGrating", "(II)I"⟩
abbrev cX7_addDirt : ByteArray := prog_1_method_14_code
def yX7_addDirt : MethodName := ⟨RX7, "addDirt", "(II)I"⟩
abbrev cX7_removeDirt : ByteArray := prog_1_method_15_code
def yX7_removeDirt : MethodName := ⟨RX7, "removeDirt", "(I)I"⟩
abbrev cX7_zeroSlip : ByteArray := prog_1_method_16_code
def yX7_zeroSlip : MethodName := ⟨RX7, "zeroSlip", "()I"⟩
abbrev cX7_recover : ByteArray := prog_1_method_17_code
def yX7_recover : MethodName := ⟨RX7, "recover", "(I)I"⟩
abbrev cX7_undo : ByteArray := prog_1_method_18_code
def yX7_undo : MethodName := ⟨RX7, "undo", "()I"⟩
abbrev cX7_matchingPair : ByteArray := prog_1_method_19_code
def yX7_matchingPair : MethodName := ⟨RX7, "matchingPair", "(JI)I"⟩
abbrev cX7_sampleCount : ByteArray := prog_1_method_20_code
def yX7_sampleCount : MethodName := ⟨RX7, "sampleCount", "(III)I"⟩
abbrev cX7_samplePosition : ByteArray := prog_1_method_21_code
def yX7_samplePosition : MethodName := ⟨RX7, "samplePosition", "(III)I"⟩
abbrev cX7_takeSample : ByteArray := prog_1_method_22_code
def yX7_takeSample : MethodName := ⟨RX7, "takeSample", "(I)V"⟩
abbrev cX7_readSample : ByteArray := prog_1_method_23_code
def yX7_readSample : MethodName := ⟨RX7, "readSample", "(LMoireEncoder$Decoder;I)Z"⟩
abbrev cX7_logPassedMarks : ByteArray := prog_1_method_24_code
def yX7_logPassedMarks : MethodName := ⟨RX7, "logPassedMarks", "(II)V"⟩
abbrev cX7_position : ByteArray := prog_1_method_25_code
def yX7_position : MethodName := ⟨RX7, "position", "()I"⟩
abbrev cX7_counter : ByteArray := prog_1_method_26_code
def yX7_counter : MethodName := ⟨RX7, "counter", "()J"⟩
abbrev cX7_slip : ByteArray := prog_1_method_27_code
def yX7_slip : MethodName := ⟨RX7, "slip", "()J"⟩
abbrev cX7_misses : ByteArray := prog_1_method_28_code
def yX7_misses : MethodName := ⟨RX7, "misses", "()I"⟩
abbrev cX7_samples : ByteArray := prog_1_method_29_code
def yX7_samples : MethodName := ⟨RX7, "samples", "()I"⟩
abbrev cX7_missRateBits : ByteArray := prog_1_method_30_code
def yX7_missRateBits : MethodName := ⟨RX7, "missRateBits", "()I"⟩
abbrev cX7_markPosition : ByteArray := prog_1_method_31_code
def yX7_markPosition : MethodName := ⟨RX7, "markPosition", "(I)I"⟩
abbrev cX7_expectedCount : ByteArray := prog_1_method_32_code
def yX7_expectedCount : MethodName := ⟨RX7, "expectedCount", "(I)I"⟩
abbrev cX7_eventKind : ByteArray := prog_1_method_33_code
def yX7_eventKind : MethodName := ⟨RX7, "eventKind", "(I)I"⟩
abbrev cX7_eventPosition : ByteArray := prog_1_method_34_code
def yX7_eventPosition : MethodName := ⟨RX7, "eventPosition", "(I)I"⟩
abbrev cX7_eventCounter : ByteArray := prog_1_method_35_code
def yX7_eventCounter : MethodName := ⟨RX7, "eventCounter", "(I)J"⟩
abbrev cX7_countAt : ByteArray := prog_1_method_36_code
def yX7_countAt : MethodName := ⟨RX7, "countAt", "(I)I"⟩
abbrev cX7_quadrantAt : ByteArray := prog_1_method_37_code
def yX7_quadrantAt : MethodName := ⟨RX7, "quadrantAt", "(I)I"⟩
abbrev cX7_predictSlip : ByteArray := prog_1_method_38_code
def yX7_predictSlip : MethodName := ⟨RX7, "predictSlip", "(II)J"⟩
abbrev cX7_fastestSafeSpeed : ByteArray := prog_1_method_39_code
def yX7_fastestSafeSpeed : MethodName := ⟨RX7, "fastestSafeSpeed", "(I)I"⟩
abbrev cX7_isSafe : ByteArray := prog_1_method_40_code
def yX7_isSafe : MethodName := ⟨RX7, "isSafe", "(II)Z"⟩
abbrev cX7_brightness : ByteArray := prog_1_method_41_code
def yX7_brightness : MethodName := ⟨RX7, "brightness", "(II)I"⟩
abbrev cX7_brightestStart : ByteArray := prog_1_method_42_code
def yX7_brightestStart : MethodName := ⟨RX7, "brightestStart", "(I)I"⟩
abbrev cX7_overlayPeriod : ByteArray := prog_1_method_43_code
def yX7_overlayPeriod : MethodName := ⟨RX7, "overlayPeriod", "()I"⟩
abbrev cX7_fringePeriodNumerator : ByteArray := prog_1_method_44_code
def yX7_fringePeriodNumerator : MethodName := ⟨RX7, "fringePeriodNumerator", "()I"⟩
abbrev cX7_fringePeriodDenominator : ByteArray := prog_1_method_45_code
def yX7_fringePeriodDenominator : MethodName := ⟨RX7, "fringePeriodDenominator", "()I"⟩
abbrev cX7_magnificationBits : ByteArray := prog_1_method_46_code
def yX7_magnificationBits : MethodName := ⟨RX7, "magnificationBits", "()I"⟩
abbrev cX7_crossedSpacingBits : ByteArray := prog_1_method_47_code
def yX7_crossedSpacingBits : MethodName := ⟨RX7, "crossedSpacingBits", "(II)I"⟩
abbrev cX7_brightCells : ByteArray := prog_1_method_48_code
def yX7_brightCells : MethodName := ⟨RX7, "brightCells", "(II)I"⟩
abbrev cX7_isClear : ByteArray := prog_1_method_49_code
def yX7_isClear : MethodName := ⟨RX7, "isClear", "(II)Z"⟩
abbrev cX7_pitchDifference : ByteArray := prog_1_method_50_code
def yX7_pitchDifference : MethodName := ⟨RX7, "pitchDifference", "()I"⟩
abbrev cX7_inLowestTerms : ByteArray := prog_1_method_51_code
def yX7_inLowestTerms : MethodName := ⟨RX7, "inLowestTerms", "(I)I"⟩
abbrev cX7_within : ByteArray := prog_1_method_52_code
def yX7_within : MethodName := ⟨RX7, "within", "(III)Z"⟩
abbrev cX7_isPosition : ByteArray := prog_1_method_53_code
def yX7_isPosition : MethodName := ⟨RX7, "isPosition", "(I)Z"⟩
abbrev cX7_isMove : ByteArray := prog_1_method_54_code
def yX7_isMove : MethodName := ⟨RX7, "isMove", "(II)Z"⟩
abbrev cX7_isMode : ByteArray := prog_1_method_55_code
def yX7_isMode : MethodName := ⟨RX7, "isMode", "(I)Z"⟩
abbrev cX7_isScalePitch : ByteArray := prog_1_method_56_code
def yX7_isScalePitch : MethodName := ⟨RX7, "isScalePitch", "(I)Z"⟩
abbrev cX7_isIndexGrating : ByteArray := prog_1_method_57_code
def yX7_isIndexGrating : MethodName := ⟨RX7, "isIndexGrating", "(II)Z"⟩
abbrev cX7_isDirt : ByteArray := prog_1_method_58_code
def yX7_isDirt : MethodName := ⟨RX7, "isDirt", "(II)Z"⟩
abbrev cX7_quotient : ByteArray := prog_1_method_59_code
def yX7_quotient : MethodName := ⟨RX7, "quotient", "(II)I"⟩
abbrev cX7_remainder : ByteArray := prog_1_method_60_code
def yX7_remainder : MethodName := ⟨RX7, "remainder", "(II)I"⟩
abbrev cX7_commonDivisor : ByteArray := prog_1_method_61_code
def yX7_commonDivisor : MethodName := ⟨RX7, "commonDivisor", "(II)I"⟩
abbrev cX7_bitsOf : ByteArray := prog_1_method_62_code
def yX7_bitsOf : MethodName := ⟨RX7, "bitsOf", "(F)I"⟩
def RX8 : String := "MoireEncoderModel"
def TX8 : u_T := fun k => match k with
  | 0 => ("MoireEncoderModel", "text", "[I", true)
  | 1 => ("MoireEncoderModel", "length", "I", false)
  | 2 => ("MoireEncoderModel", "spot", "I", false)
  | 3 => ("MoireEncoderModel", "number", "I", false)
  | 4 => ("MoireEncoderModel", "readScale", "I", false)
  | 5 => ("MoireEncoderModel", "readMarks", "I", false)
  | 6 => ("MoireEncoderModel", "readAt", "[I", true)
  | 7 => ("MoireEncoderModel", "read", "[I", true)
  | 8 => ("MoireEncoderModel", "scale", "I", false)
  | 9 => ("MoireEncoderModel", "marks", "I", false)
  | 10 => ("MoireEncoderModel", "markAt", "[I", true)
  | 11 => ("MoireEncoderModel", "now", "[I", false)
  | 12 => ("MoireEncoderModel", "side", "[I", false)
  | 13 => ("MoireEncoderModel", "kept", "[I", true)
  | _ => ("MoireEncoderModel", "keptMany", "I", false)
def tyX8 : Nat → FieldType := fun k => match k with
  | 0 => .array .int
  | 1 => .int
  | 2 => .int
  | 3 => .int
  | 4 => .int
  | 5 => .int
  | 6 => .array .int
  | 7 => .array .int
  | 8 => .int
  | 9 => .int
  | 10 => .array .int
  | 11 => .array .int
  | 12 => .array .int
  | 13 => .array .int
  | _ => .int
abbrev wsX80 : List Cond := u_ws RX8 TX8 15
theorem nmX8 : ∀ a, a < 15 → ∀ b, b < 15 → a ≠ b → (TX8 a).2.1 ≠ (TX8 b).2.1 := by decide +kernel
theorem tyX8_ok : ∀ k, k < 15 → parseFieldDescriptor (TX8 k).2.2.1 = some (tyX8 k) := by decide +kernel
abbrev cX8_init : ByteArray := prog_10_method_1_code
def yX8_init : MethodName := ⟨RX8, "<init>", "()V"⟩
abbrev cX8_in : ByteArray := prog_10_method_2_code
def yX8_in : MethodName := ⟨RX8, "in", "(JJJ)Z"⟩
abbrev cX8_beginRead : ByteArray := prog_10_method_3_code
def yX8_beginRead : MethodName := ⟨RX8, "beginRead", "()V"⟩
abbrev cX8_takeRead : ByteArray := prog_10_method_4_code
def yX8_takeRead : MethodName := ⟨RX8, "takeRead", "()V"⟩
abbrev cX8_append : ByteArray := prog_10_method_5_code
def yX8_append : MethodName := ⟨RX8, "append", "(I)I"⟩
abbrev cX8_clearText : ByteArray := prog_10_method_6_code
def yX8_clearText : MethodName := ⟨RX8, "clearText", "()I"⟩
abbrev cX8_letterHere : ByteArray := prog_10_method_7_code
def yX8_letterHere : MethodName := ⟨RX8, "letterHere", "()I"⟩
abbrev cX8_isNumber : ByteArray := prog_10_method_8_code
def yX8_isNumber : MethodName := ⟨RX8, "isNumber", "(III)Z"⟩
abbrev cX8_statement : ByteArray := prog_10_method_9_code
def yX8_statement : MethodName := ⟨RX8, "statement", "()Z"⟩
abbrev cX8_dirtStatement : ByteArray := prog_10_method_10_code
def yX8_dirtStatement : MethodName := ⟨RX8, "dirtStatement", "()Z"⟩
abbrev cX8_readAll : ByteArray := prog_10_method_11_code
def yX8_readAll : MethodName := ⟨RX8, "readAll", "()I"⟩
abbrev cX8_firstError : ByteArray := prog_10_method_12_code
def yX8_firstError : MethodName := ⟨RX8, "firstError", "()I"⟩
abbrev cX8_configure : ByteArray := prog_10_method_13_code
def yX8_configure : MethodName := ⟨RX8, "configure", "()I"⟩
abbrev cX8_keeps : ByteArray := prog_10_method_14_code
def yX8_keeps : MethodName := ⟨RX8, "keeps", "()V"⟩
abbrev cX8_undo : ByteArray := prog_10_method_15_code
def yX8_undo : MethodName := ⟨RX8, "undo", "()I"⟩
abbrev cX8_aside : ByteArray := prog_10_method_16_code
def yX8_aside : MethodName := ⟨RX8, "aside", "()V"⟩
abbrev cX8_isDirty : ByteArray := prog_10_method_17_code
def yX8_isDirty : MethodName := ⟨RX8, "isDirty", "(I)Z"⟩
abbrev cX8_logs : ByteArray := prog_10_method_18_code
def yX8_logs : MethodName := ⟨RX8, "logs", "(II)V"⟩
abbrev cX8_isCounted : ByteArray := prog_10_method_19_code
def yX8_isCounted : MethodName := ⟨RX8, "isCounted", "(I)Z"⟩
abbrev cX8_decodes : ByteArray := prog_10_method_20_code
def yX8_decodes : MethodName := ⟨RX8, "decodes", "(I)V"⟩
abbrev cX8_sampleAt : ByteArray := prog_10_method_21_code
def yX8_sampleAt : MethodName := ⟨RX8, "sampleAt", "(II)V"⟩
abbrev cX8_moves : ByteArray := prog_10_method_22_code
def yX8_moves : MethodName := ⟨RX8, "moves", "(II)V"⟩
abbrev cX8_isMove : ByteArray := prog_10_method_23_code
def yX8_isMove : MethodName := ⟨RX8, "isMove", "(II)Z"⟩
abbrev cX8_expects : ByteArray := prog_10_method_24_code
def yX8_expects : MethodName := ⟨RX8, "expects", "(II)I"⟩
abbrev cX8_slipOf : ByteArray := prog_10_method_25_code
def yX8_slipOf : MethodName := ⟨RX8, "slipOf", "([I)J"⟩
abbrev cX8_moveTo : ByteArray := prog_10_method_26_code
def yX8_moveTo : MethodName := ⟨RX8, "moveTo", "(II)I"⟩
abbrev cX8_predictSlip : ByteArray := prog_10_method_27_code
def yX8_predictSlip : MethodName := ⟨RX8, "predictSlip", "(II)J"⟩
abbrev cX8_fastestSafeSpeed : ByteArray := prog_10_method_28_code
def yX8_fastestSafeSpeed : MethodName := ⟨RX8, "fastestSafeSpeed", "(I)I"⟩
abbrev cX8_setMode : ByteArray := prog_10_method_29_code
def yX8_setMode : MethodName := ⟨RX8, "setMode", "(I)I"⟩
abbrev cX8_setIndexGrating : ByteArray := prog_10_method_30_code
def yX8_setIndexGrating : MethodName := ⟨RX8, "setIndexGrating", "(II)I"⟩
abbrev cX8_addDirt : ByteArray := prog_10_method_31_code
def yX8_addDirt : MethodName := ⟨RX8, "addDirt", "(II)I"⟩
abbrev cX8_removeDirt : ByteArray := prog_10_method_32_code
def yX8_removeDirt : MethodName := ⟨RX8, "removeDirt", "(I)I"⟩
abbrev cX8_zeroSlip : ByteArray := prog_10_method_33_code
def yX8_zeroSlip : MethodName := ⟨RX8, "zeroSlip", "()I"⟩
abbrev cX8_markEvent : ByteArray := prog_10_method_34_code
def yX8_markEvent : MethodName := ⟨RX8, "markEvent", "(I)I"⟩
abbrev cX8_apart : ByteArray := prog_10_method_35_code
def yX8_apart : MethodName := ⟨RX8, "apart", "(II)I"⟩
abbrev cX8_recover : ByteArray := prog_10_method_36_code
def yX8_recover : MethodName := ⟨RX8, "recover", "(I)I"⟩
abbrev cX8_position : ByteArray := prog_10_method_37_code
def yX8_position : MethodName := ⟨RX8, "position", "()I"⟩
abbrev cX8_counter : ByteArray := prog_10_method_38_code
def yX8_counter : MethodName := ⟨RX8, "counter", "()J"⟩
abbrev cX8_slip : ByteArray := prog_10_method_39_code
def yX8_slip : MethodName := ⟨RX8, "slip", "()J"⟩
abbrev cX8_misses : ByteArray := prog_10_method_40_code
def yX8_misses : MethodName := ⟨RX8, "misses", "()I"⟩
abbrev cX8_samples : ByteArray := prog_10_method_41_code
def yX8_samples : MethodName := ⟨RX8, "samples", "()I"⟩
abbrev cX8_missRateBits : ByteArray := prog_10_method_42_code
def yX8_missRateBits : MethodName := ⟨RX8, "missRateBits", "()I"⟩
abbrev cX8_markPosition : ByteArray := prog_10_method_43_code
def yX8_markPosition : MethodName := ⟨RX8, "markPosition", "(I)I"⟩
abbrev cX8_expectedCount : ByteArray := prog_10_method_44_code
def yX8_expectedCount : MethodName := ⟨RX8, "expectedCount", "(I)I"⟩
abbrev cX8_isEvent : ByteArray := prog_10_method_45_code
def yX8_isEvent : MethodName := ⟨RX8, "isEvent", "(I)Z"⟩
abbrev cX8_ofEvent : ByteArray := prog_10_method_46_code
def yX8_ofEvent : MethodName := ⟨RX8, "ofEvent", "(II)I"⟩
abbrev cX8_eventKind : ByteArray := prog_10_method_47_code
def yX8_eventKind : MethodName := ⟨RX8, "eventKind", "(I)I"⟩
abbrev cX8_eventPosition : ByteArray := prog_10_method_48_code
def yX8_eventPosition : MethodName := ⟨RX8, "eventPosition", "(I)I"⟩
abbrev cX8_eventCounter : ByteArray := prog_10_method_49_code
def yX8_eventCounter : MethodName := ⟨RX8, "eventCounter", "(I)J"⟩
abbrev cX8_brightIn : ByteArray := prog_10_method_50_code
def yX8_brightIn : MethodName := ⟨RX8, "brightIn", "(II)I"⟩
abbrev cX8_brightness : ByteArray := prog_10_method_51_code
def yX8_brightness : MethodName := ⟨RX8, "brightness", "(II)I"⟩
abbrev cX8_brightestStart : ByteArray := prog_10_method_52_code
def yX8_brightestStart : MethodName := ⟨RX8, "brightestStart", "(I)I"⟩
abbrev cX8_common : ByteArray := prog_10_method_53_code
def yX8_common : MethodName := ⟨RX8, "common", "(II)I"⟩
abbrev cX8_overlayPeriod : ByteArray := prog_10_method_54_code
def yX8_overlayPeriod : MethodName := ⟨RX8, "overlayPeriod", "()I"⟩
abbrev cX8_fringe : ByteArray := prog_10_method_55_code
def yX8_fringe : MethodName := ⟨RX8, "fringe", "(Z)I"⟩
abbrev cX8_fringePeriodNumerator : ByteArray := prog_10_method_56_code
def yX8_fringePeriodNumerator : MethodName := ⟨RX8, "fringePeriodNumerator", "()I"⟩
abbrev cX8_fringePeriodDenominator : ByteArray := prog_10_method_57_code
def yX8_fringePeriodDenominator : MethodName := ⟨RX8, "fringePeriodDenominator", "()I"⟩
abbrev cX8_magnificationBits : ByteArray := prog_10_method_58_code
def yX8_magnificationBits : MethodName := ⟨RX8, "magnificationBits", "()I"⟩
abbrev cX8_crossedSpacingBits : ByteArray := prog_10_method_59_code
def yX8_crossedSpacingBits : MethodName := ⟨RX8, "crossedSpacingBits", "(II)I"⟩
def RJxf58ca : String := "java/lang/Float"
def TJxf58ca : u_T := fun k => match k with
  | _ => ("", "", "", false)
def tyJxf58ca : Nat → FieldType := fun k => match k with
  | _ => .int
abbrev wsJxf58ca0 : List Cond := u_ws RJxf58ca TJxf58ca 0
theorem nmJxf58ca : ∀ a, a < 0 → ∀ b, b < 0 → a ≠ b → (TJxf58ca a).2.1 ≠ (TJxf58ca b).2.1 := by decide +kernel
theorem tyJxf58ca_ok : ∀ k, k < 0 → parseFieldDescriptor (TJxf58ca k).2.2.1 = some (tyJxf58ca k) := by decide +kernel
abbrev cJxf58ca_isNaN_12338 : ByteArray := prog_11_method_6_code
def yJxf58ca_isNaN_12338 : MethodName := ⟨RJxf58ca, "isNaN", "(F)Z"⟩
abbrev cJxf58ca_floatToIntBits_5c35a : ByteArray := prog_11_method_24_code
def yJxf58ca_floatToIntBits_5c35a : MethodName := ⟨RJxf58ca, "floatToIntBits", "(F)I"⟩
def RJ9 : String := "java/lang/Math"
def TJ9 : u_T := fun k => match k with
  | _ => ("", "", "", false)
def tyJ9 : Nat → FieldType := fun k => match k with
  | _ => .int
abbrev wsJ90 : List Cond := u_ws RJ9 TJ9 0
theorem nmJ9 : ∀ a, a < 0 → ∀ b, b < 0 → a ≠ b → (TJ9 a).2.1 ≠ (TJ9 b).2.1 := by decide +kernel
theorem tyJ9_ok : ∀ k, k < 0 → parseFieldDescriptor (TJ9 k).2.2.1 = some (tyJ9 k) := by decide +kernel
abbrev cJ9_abs_0f7a4 : ByteArray := prog_12_method_59_code
def yJ9_abs_0f7a4 : MethodName := ⟨RJ9, "abs", "(I)I"⟩
abbrev cJ9_abs_067f4 : ByteArray := prog_12_method_61_code
def yJ9_abs_067f4 : MethodName := ⟨RJ9, "abs", "(J)J"⟩
abbrev cJ9_max_7cf53 : ByteArray := prog_12_method_65_code
def yJ9_max_7cf53 : MethodName := ⟨RJ9, "max", "(II)I"⟩
def RJ0 : String := "java/lang/String"
def TJ0 : u_T := fun k => match k with
  | _ => ("", "", "", false)
def tyJ0 : Nat → FieldType := fun k => match k with
  | _ => .int
abbrev wsJ00 : List Cond := u_ws RJ0 TJ0 0
theorem nmJ0 : ∀ a, a < 0 → ∀ b, b < 0 → a ≠ b → (TJ0 a).2.1 ≠ (TJ0 b).2.1 := by decide +kernel
theorem tyJ0_ok : ∀ k, k < 0 → parseFieldDescriptor (TJ0 k).2.2.1 = some (tyJ0 k) := by decide +kernel
abbrev cJ0_length_8abf5 : ByteArray := prog_13_method_54_code
def yJ0_length_8abf5 : MethodName := ⟨RJ0, "length", "()I"⟩
abbrev cJ0_charAt_5068e : ByteArray := prog_13_method_56_code
def yJ0_charAt_5068e : MethodName := ⟨RJ0, "charAt", "(I)C"⟩
abbrev cJ0_coder_7d493 : ByteArray := prog_13_method_152_code
def yJ0_coder_7d493 : MethodName := ⟨RJ0, "coder", "()B"⟩
abbrev cJ0_isLatin1_aae02 : ByteArray := prog_13_method_154_code
def yJ0_isLatin1_aae02 : MethodName := ⟨RJ0, "isLatin1", "()Z"⟩
abbrev cJ0_checkIndex_df160 : ByteArray := prog_13_method_155_code
def yJ0_checkIndex_df160 : MethodName := ⟨RJ0, "checkIndex", "(II)V"⟩
def RJ1 : String := "java/lang/StringLatin1"
def TJ1 : u_T := fun k => match k with
  | _ => ("", "", "", false)
def tyJ1 : Nat → FieldType := fun k => match k with
  | _ => .int
abbrev wsJ10 : List Cond := u_ws RJ1 TJ1 0
theorem nmJ1 : ∀ a, a < 0 → ∀ b, b < 0 → a ≠ b → (TJ1 a).2.1 ≠ (TJ1 b).2.1 := by decide +kernel
theorem tyJ1_ok : ∀ k, k < 0 → parseFieldDescriptor (TJ1 k).2.2.1 = some (tyJ1 k) := by decide +kernel
abbrev cJ1_charAt_3b067 : ByteArray := prog_14_method_2_code
def yJ1_charAt_3b067 : MethodName := ⟨RJ1, "charAt", "([BI)C"⟩
def RJ2 : String := "java/lang/StringUTF16"
def TJ2 : u_T := fun k => match k with
  | _ => ("", "", "", false)
def tyJ2 : Nat → FieldType := fun k => match k with
  | _ => .int
abbrev wsJ20 : List Cond := u_ws RJ2 TJ2 0
theorem nmJ2 : ∀ a, a < 0 → ∀ b, b < 0 → a ≠ b → (TJ2 a).2.1 ≠ (TJ2 b).2.1 := by decide +kernel
theorem tyJ2_ok : ∀ k, k < 0 → parseFieldDescriptor (TJ2 k).2.2.1 = some (tyJ2 k) := by decide +kernel
abbrev cJ2_getChar_3b067 : ByteArray := prog_15_method_5_code
def yJ2_getChar_3b067 : MethodName := ⟨RJ2, "getChar", "([BI)C"⟩
abbrev cJ2_length_9d52b : ByteArray := prog_15_method_6_code
def yJ2_length_9d52b : MethodName := ⟨RJ2, "length", "([B)I"⟩
abbrev cJ2_charAt_3b067 : ByteArray := prog_15_method_83_code
def yJ2_charAt_3b067 : MethodName := ⟨RJ2, "charAt", "([BI)C"⟩
abbrev cJ2_checkIndex_2214a : ByteArray := prog_15_method_91_code
def yJ2_checkIndex_2214a : MethodName := ⟨RJ2, "checkIndex", "(I[B)V"⟩
def RJ3 : String := "jdk/internal/util/Preconditions"
def TJ3 : u_T := fun k => match k with
  | _ => ("", "", "", false)
def tyJ3 : Nat → FieldType := fun k => match k with
  | _ => .int
abbrev wsJ30 : List Cond := u_ws RJ3 TJ3 0
theorem nmJ3 : ∀ a, a < 0 → ∀ b, b < 0 → a ≠ b → (TJ3 a).2.1 ≠ (TJ3 b).2.1 := by decide +kernel
theorem tyJ3_ok : ∀ k, k < 0 → parseFieldDescriptor (TJ3 k).2.2.1 = some (tyJ3 k) := by decide +kernel
abbrev cJ3_checkIndex_8e157 : ByteArray := prog_16_method_11_code
def yJ3_checkIndex_8e157 : MethodName := ⟨RJ3, "checkIndex", "(IILjava/util/function/BiFunction;)I"⟩
def RL : String := "MoireEncoderLaw"
abbrev cL_law : ByteArray := code
def yL_law : MethodName := ⟨RL, "law", "([I)Z"⟩
def wsJ0_coder_7d493 : List Cond := .code yJ0_coder_7d493 cJ0_coder_7d493 1 (some .byte) :: ([.fieldLink RJ0 38 "java/lang/String" "COMPACT_STRINGS" "Z", .fieldLink RJ0 15 "java/lang/String" "coder" "B"])
def wsJ0_length_8abf5 : List Cond := .code yJ0_length_8abf5 cJ0_length_8abf5 1 (some .int) :: ([.fieldLink RJ0 9 "java/lang/String" "value" "[B", .methodLink RJ0 335 yJ0_coder_7d493, .instanceMethod yJ0_coder_7d493, .selects RJ0 yJ0_coder_7d493 yJ0_coder_7d493, .initialized RJ0, .code yJ0_coder_7d493 cJ0_coder_7d493 1 (some .byte), .fieldLink RJ0 38 "java/lang/String" "COMPACT_STRINGS" "Z", .fieldLink RJ0 15 "java/lang/String" "coder" "B"])
def wsJ0_isLatin1_aae02 : List Cond := .code yJ0_isLatin1_aae02 cJ0_isLatin1_aae02 1 (some .boolean) :: ([.fieldLink RJ0 38 "java/lang/String" "COMPACT_STRINGS" "Z", .fieldLink RJ0 15 "java/lang/String" "coder" "B"])
def wsJ3_checkIndex_8e157 : List Cond := .code yJ3_checkIndex_8e157 cJ3_checkIndex_8e157 3 (some .int) :: ([])
def wsJ0_checkIndex_df160 : List Cond := .code yJ0_checkIndex_df160 cJ0_checkIndex_df160 2 none :: ([.fieldLink RJ0 1053 "jdk/internal/util/Preconditions" "SIOOBE_FORMATTER" "Ljava/util/function/BiFunction;", .methodLink RJ0 1059 yJ3_checkIndex_8e157, .static yJ3_checkIndex_8e157, .initialized RJ3, .code yJ3_checkIndex_8e157 cJ3_checkIndex_8e157 3 (some .int)])
def wsJ1_charAt_3b067 : List Cond := .code yJ1_charAt_3b067 cJ1_charAt_3b067 2 (some .char) :: ([.methodLink RJ1 9 yJ0_checkIndex_df160, .static yJ0_checkIndex_df160, .initialized RJ0, .code yJ0_checkIndex_df160 cJ0_checkIndex_df160 2 none, .fieldLink RJ0 1053 "jdk/internal/util/Preconditions" "SIOOBE_FORMATTER" "Ljava/util/function/BiFunction;", .methodLink RJ0 1059 yJ3_checkIndex_8e157, .static yJ3_checkIndex_8e157, .initialized RJ3, .code yJ3_checkIndex_8e157 cJ3_checkIndex_8e157 3 (some .int)])
def wsJ2_length_9d52b : List Cond := .code yJ2_length_9d52b cJ2_length_9d52b 1 (some .int) :: ([])
def wsJ2_checkIndex_2214a : List Cond := .code yJ2_checkIndex_2214a cJ2_checkIndex_2214a 2 none :: ([.methodLink RJ2 48 yJ2_length_9d52b, .static yJ2_length_9d52b, .initialized RJ2, .code yJ2_length_9d52b cJ2_length_9d52b 1 (some .int), .methodLink RJ2 414 yJ0_checkIndex_df160, .static yJ0_checkIndex_df160, .initialized RJ0, .code yJ0_checkIndex_df160 cJ0_checkIndex_df160 2 none, .fieldLink RJ0 1053 "jdk/internal/util/Preconditions" "SIOOBE_FORMATTER" "Ljava/util/function/BiFunction;", .methodLink RJ0 1059 yJ3_checkIndex_8e157, .static yJ3_checkIndex_8e157, .initialized RJ3, .code yJ3_checkIndex_8e157 cJ3_checkIndex_8e157 3 (some .int)])
def wsJ2_getChar_3b067 : List Cond := .code yJ2_getChar_3b067 cJ2_getChar_3b067 2 (some .char) :: ([.fieldLink RJ2 44 "java/lang/StringUTF16" "$assertionsDisabled" "Z", .fieldLink RJ2 59 "java/lang/StringUTF16" "HI_BYTE_SHIFT" "I", .fieldLink RJ2 63 "java/lang/StringUTF16" "LO_BYTE_SHIFT" "I", .methodLink RJ2 48 yJ2_length_9d52b, .static yJ2_length_9d52b, .initialized RJ2, .code yJ2_length_9d52b cJ2_length_9d52b 1 (some .int)])
def wsJ2_charAt_3b067 : List Cond := .code yJ2_charAt_3b067 cJ2_charAt_3b067 2 (some .char) :: ([.methodLink RJ2 67 yJ2_checkIndex_2214a, .static yJ2_checkIndex_2214a, .initialized RJ2, .code yJ2_checkIndex_2214a cJ2_checkIndex_2214a 2 none, .methodLink RJ2 48 yJ2_length_9d52b, .static yJ2_length_9d52b, .code yJ2_length_9d52b cJ2_length_9d52b 1 (some .int), .methodLink RJ2 414 yJ0_checkIndex_df160, .static yJ0_checkIndex_df160, .initialized RJ0, .code yJ0_checkIndex_df160 cJ0_checkIndex_df160 2 none, .fieldLink RJ0 1053 "jdk/internal/util/Preconditions" "SIOOBE_FORMATTER" "Ljava/util/function/BiFunction;", .methodLink RJ0 1059 yJ3_checkIndex_8e157, .static yJ3_checkIndex_8e157, .initialized RJ3, .code yJ3_checkIndex_8e157 cJ3_checkIndex_8e157 3 (some .int), .methodLink RJ2 71 yJ2_getChar_3b067, .static yJ2_getChar_3b067, .code yJ2_getChar_3b067 cJ2_getChar_3b067 2 (some .char), .fieldLink RJ2 44 "java/lang/StringUTF16" "$assertionsDisabled" "Z", .fieldLink RJ2 59 "java/lang/StringUTF16" "HI_BYTE_SHIFT" "I", .fieldLink RJ2 63 "java/lang/StringUTF16" "LO_BYTE_SHIFT" "I"])
def wsJ0_charAt_5068e_r1 : List Cond := [Cond.fieldLink RJ0 9 "java/lang/String" "value" "[B", Cond.methodLink RJ0 492 yJ0_isLatin1_aae02, Cond.instanceMethod yJ0_isLatin1_aae02, Cond.selects RJ0 yJ0_isLatin1_aae02 yJ0_isLatin1_aae02, Cond.initialized RJ0, Cond.code yJ0_isLatin1_aae02 cJ0_isLatin1_aae02 1 (some .boolean), Cond.fieldLink RJ0 38 "java/lang/String" "COMPACT_STRINGS" "Z", Cond.fieldLink RJ0 15 "java/lang/String" "coder" "B", Cond.methodLink RJ0 495 yJ1_charAt_3b067, Cond.static yJ1_charAt_3b067, Cond.initialized RJ1, Cond.code yJ1_charAt_3b067 cJ1_charAt_3b067 2 (some .char), Cond.methodLink RJ1 9 yJ0_checkIndex_df160, Cond.static yJ0_checkIndex_df160, Cond.code yJ0_checkIndex_df160 cJ0_checkIndex_df160 2 none, Cond.fieldLink RJ0 1053 "jdk/internal/util/Preconditions" "SIOOBE_FORMATTER" "Ljava/util/function/BiFunction;", Cond.methodLink RJ0 1059 yJ3_checkIndex_8e157, Cond.static yJ3_checkIndex_8e157, Cond.initialized RJ3, Cond.code yJ3_checkIndex_8e157 cJ3_checkIndex_8e157 3 (some .int), Cond.methodLink RJ0 498 yJ2_charAt_3b067, Cond.static yJ2_charAt_3b067, Cond.initialized RJ2, Cond.code yJ2_charAt_3b067 cJ2_charAt_3b067 2 (some .char)]
def wsJ0_charAt_5068e_r2 : List Cond := [Cond.methodLink RJ2 67 yJ2_checkIndex_2214a, Cond.static yJ2_checkIndex_2214a, Cond.code yJ2_checkIndex_2214a cJ2_checkIndex_2214a 2 none, Cond.methodLink RJ2 48 yJ2_length_9d52b, Cond.static yJ2_length_9d52b, Cond.code yJ2_length_9d52b cJ2_length_9d52b 1 (some .int), Cond.methodLink RJ2 414 yJ0_checkIndex_df160, Cond.methodLink RJ2 71 yJ2_getChar_3b067, Cond.static yJ2_getChar_3b067, Cond.code yJ2_getChar_3b067 cJ2_getChar_3b067 2 (some .char), Cond.fieldLink RJ2 44 "java/lang/StringUTF16" "$assertionsDisabled" "Z", Cond.fieldLink RJ2 59 "java/lang/StringUTF16" "HI_BYTE_SHIFT" "I", Cond.fieldLink RJ2 63 "java/lang/StringUTF16" "LO_BYTE_SHIFT" "I"]
def wsJ0_charAt_5068e : List Cond := .code yJ0_charAt_5068e cJ0_charAt_5068e 2 (some .char) :: ((wsJ0_charAt_5068e_r1 ++ wsJ0_charAt_5068e_r2))
def wsJxf58ca_isNaN_12338 : List Cond := .code yJxf58ca_isNaN_12338 cJxf58ca_isNaN_12338 1 (some .boolean) :: ([])
def wsJxf58ca_floatToIntBits_5c35a : List Cond := .code yJxf58ca_floatToIntBits_5c35a cJxf58ca_floatToIntBits_5c35a 1 (some .int) :: ([.methodLink RJxf58ca 74 ⟨"java/lang/Float", "floatToRawIntBits", "(F)I"⟩, .native ⟨"java/lang/Float", "floatToRawIntBits", "(F)I"⟩, .static ⟨"java/lang/Float", "floatToRawIntBits", "(F)I"⟩, .initialized "java/lang/Float", .constant RJxf58ca 77 (2143289344), .methodLink RJxf58ca 59 yJxf58ca_isNaN_12338, .static yJxf58ca_isNaN_12338, .initialized RJxf58ca, .code yJxf58ca_isNaN_12338 cJxf58ca_isNaN_12338 1 (some .boolean)])
def wsJ9_abs_0f7a4 : List Cond := .code yJ9_abs_0f7a4 cJ9_abs_0f7a4 1 (some .int) :: ([])
def wsJ9_abs_067f4 : List Cond := .code yJ9_abs_067f4 cJ9_abs_067f4 2 (some .long) :: ([])
def wsJ9_max_7cf53 : List Cond := .code yJ9_max_7cf53 cJ9_max_7cf53 2 (some .int) :: ([])
theorem dJxf58ca_isNaN_12338_0 : decode cJxf58ca_isNaN_12338 0 = .ok (.fload_n 0, 1) := by decide +kernel
theorem dJxf58ca_isNaN_12338_1 : decode cJxf58ca_isNaN_12338 1 = .ok (.fload_n 0, 1) := by decide +kernel
theorem dJxf58ca_isNaN_12338_2 : decode cJxf58ca_isNaN_12338 2 = .ok (.fcmp .l, 1) := by decide +kernel
theorem dJxf58ca_isNaN_12338_3 : decode cJxf58ca_isNaN_12338 3 = .ok (.ifCond .eq 7, 3) := by decide +kernel
theorem dJxf58ca_isNaN_12338_6 : decode cJxf58ca_isNaN_12338 6 = .ok (.iconst 1, 1) := by decide +kernel
theorem dJxf58ca_isNaN_12338_7 : decode cJxf58ca_isNaN_12338 7 = .ok (.goto 4, 3) := by decide +kernel
theorem dJxf58ca_isNaN_12338_10 : decode cJxf58ca_isNaN_12338 10 = .ok (.iconst 0, 1) := by decide +kernel
theorem dJxf58ca_isNaN_12338_11 : decode cJxf58ca_isNaN_12338 11 = .ok (.ireturn, 1) := by decide +kernel
theorem dJxf58ca_floatToIntBits_5c35a_0 : decode cJxf58ca_floatToIntBits_5c35a 0 = .ok (.fload_n 0, 1) := by decide +kernel
theorem dJxf58ca_floatToIntBits_5c35a_1 : decode cJxf58ca_floatToIntBits_5c35a 1 = .ok (.invokestatic 59, 3) := by decide +kernel
theorem dJxf58ca_floatToIntBits_5c35a_4 : decode cJxf58ca_floatToIntBits_5c35a 4 = .ok (.ifCond .ne 8, 3) := by decide +kernel
theorem dJxf58ca_floatToIntBits_5c35a_7 : decode cJxf58ca_floatToIntBits_5c35a 7 = .ok (.fload_n 0, 1) := by decide +kernel
theorem dJxf58ca_floatToIntBits_5c35a_8 : decode cJxf58ca_floatToIntBits_5c35a 8 = .ok (.invokestatic 74, 3) := by decide +kernel
theorem dJxf58ca_floatToIntBits_5c35a_11 : decode cJxf58ca_floatToIntBits_5c35a 11 = .ok (.ireturn, 1) := by decide +kernel
theorem dJxf58ca_floatToIntBits_5c35a_12 : decode cJxf58ca_floatToIntBits_5c35a 12 = .ok (.ldc 77, 2) := by decide +kernel
theorem dJxf58ca_floatToIntBits_5c35a_14 : decode cJxf58ca_floatToIntBits_5c35a 14 = .ok (.ireturn, 1) := by decide +kernel
theorem dJ9_abs_0f7a4_0 : decode cJ9_abs_0f7a4 0 = .ok (.iload_n 0, 1) := by decide +kernel
theorem dJ9_abs_0f7a4_1 : decode cJ9_abs_0f7a4 1 = .ok (.ifCond .ge 8, 3) := by decide +kernel
theorem dJ9_abs_0f7a4_4 : decode cJ9_abs_0f7a4 4 = .ok (.iload_n 0, 1) := by decide +kernel
theorem dJ9_abs_0f7a4_5 : decode cJ9_abs_0f7a4 5 = .ok (.ineg, 1) := by decide +kernel
theorem dJ9_abs_0f7a4_6 : decode cJ9_abs_0f7a4 6 = .ok (.goto 4, 3) := by decide +kernel
theorem dJ9_abs_0f7a4_9 : decode cJ9_abs_0f7a4 9 = .ok (.iload_n 0, 1) := by decide +kernel
theorem dJ9_abs_0f7a4_10 : decode cJ9_abs_0f7a4 10 = .ok (.ireturn, 1) := by decide +kernel
theorem dJ9_abs_067f4_0 : decode cJ9_abs_067f4 0 = .ok (.lload_n 0, 1) := by decide +kernel
theorem dJ9_abs_067f4_1 : decode cJ9_abs_067f4 1 = .ok (.lconst 0, 1) := by decide +kernel
theorem dJ9_abs_067f4_2 : decode cJ9_abs_067f4 2 = .ok (.lcmp, 1) := by decide +kernel
theorem dJ9_abs_067f4_3 : decode cJ9_abs_067f4 3 = .ok (.ifCond .ge 8, 3) := by decide +kernel
theorem dJ9_abs_067f4_6 : decode cJ9_abs_067f4 6 = .ok (.lload_n 0, 1) := by decide +kernel
theorem dJ9_abs_067f4_7 : decode cJ9_abs_067f4 7 = .ok (.lneg, 1) := by decide +kernel
theorem dJ9_abs_067f4_8 : decode cJ9_abs_067f4 8 = .ok (.goto 4, 3) := by decide +kernel
theorem dJ9_abs_067f4_11 : decode cJ9_abs_067f4 11 = .ok (.lload_n 0, 1) := by decide +kernel
theorem dJ9_abs_067f4_12 : decode cJ9_abs_067f4 12 = .ok (.lreturn, 1) := by decide +kernel
theorem dJ9_max_7cf53_0 : decode cJ9_max_7cf53 0 = .ok (.iload_n 0, 1) := by decide +kernel
theorem dJ9_max_7cf53_1 : decode cJ9_max_7cf53 1 = .ok (.iload_n 1, 1) := by decide +kernel
theorem dJ9_max_7cf53_2 : decode cJ9_max_7cf53 2 = .ok (.if_icmp .lt 7, 3) := by decide +kernel
theorem dJ9_max_7cf53_5 : decode cJ9_max_7cf53 5 = .ok (.iload_n 0, 1) := by decide +kernel
theorem dJ9_max_7cf53_6 : decode cJ9_max_7cf53 6 = .ok (.goto 4, 3) := by decide +kernel
theorem dJ9_max_7cf53_9 : decode cJ9_max_7cf53 9 = .ok (.iload_n 1, 1) := by decide +kernel
theorem dJ9_max_7cf53_10 : decode cJ9_max_7cf53 10 = .ok (.ireturn, 1) := by decide +kernel
theorem dJ0_length_8abf5_0 : decode cJ0_length_8abf5 0 = .ok (.aload_n 0, 1) := by decide +kernel
theorem dJ0_length_8abf5_1 : decode cJ0_length_8abf5 1 = .ok (.getfield 9, 3) := by decide +kernel
theorem dJ0_length_8abf5_4 : decode cJ0_length_8abf5 4 = .ok (.arraylength, 1) := by decide +kernel
theorem dJ0_length_8abf5_5 : decode cJ0_length_8abf5 5 = .ok (.aload_n 0, 1) := by decide +kernel
theorem dJ0_length_8abf5_6 : decode cJ0_length_8abf5 6 = .ok (.invokevirtual 335, 3) := by decide +kernel
theorem dJ0_length_8abf5_9 : decode cJ0_length_8abf5 9 = .ok (.ishr, 1) := by decide +kernel
theorem dJ0_length_8abf5_10 : decode cJ0_length_8abf5 10 = .ok (.ireturn, 1) := by decide +kernel
theorem dJ0_charAt_5068e_0 : decode cJ0_charAt_5068e 0 = .ok (.aload_n 0, 1) := by decide +kernel
theorem dJ0_charAt_5068e_1 : decode cJ0_charAt_5068e 1 = .ok (.invokevirtual 492, 3) := by decide +kernel
theorem dJ0_charAt_5068e_4 : decode cJ0_charAt_5068e 4 = .ok (.ifCond .eq 12, 3) := by decide +kernel
theorem dJ0_charAt_5068e_7 : decode cJ0_charAt_5068e 7 = .ok (.aload_n 0, 1) := by decide +kernel
theorem dJ0_charAt_5068e_8 : decode cJ0_charAt_5068e 8 = .ok (.getfield 9, 3) := by decide +kernel
theorem dJ0_charAt_5068e_11 : decode cJ0_charAt_5068e 11 = .ok (.iload_n 1, 1) := by decide +kernel
theorem dJ0_charAt_5068e_12 : decode cJ0_charAt_5068e 12 = .ok (.invokestatic 495, 3) := by decide +kernel
theorem dJ0_charAt_5068e_15 : decode cJ0_charAt_5068e 15 = .ok (.ireturn, 1) := by decide +kernel
theorem dJ0_charAt_5068e_16 : decode cJ0_charAt_5068e 16 = .ok (.aload_n 0, 1) := by decide +kernel
theorem dJ0_charAt_5068e_17 : decode cJ0_charAt_5068e 17 = .ok (.getfield 9, 3) := by decide +kernel
theorem dJ0_charAt_5068e_20 : decode cJ0_charAt_5068e 20 = .ok (.iload_n 1, 1) := by decide +kernel
theorem dJ0_charAt_5068e_21 : decode cJ0_charAt_5068e 21 = .ok (.invokestatic 498, 3) := by decide +kernel
theorem dJ0_charAt_5068e_24 : decode cJ0_charAt_5068e 24 = .ok (.ireturn, 1) := by decide +kernel
theorem dJ0_coder_7d493_0 : decode cJ0_coder_7d493 0 = .ok (.getstatic 38, 3) := by decide +kernel
theorem dJ0_coder_7d493_3 : decode cJ0_coder_7d493 3 = .ok (.ifCond .eq 10, 3) := by decide +kernel
theorem dJ0_coder_7d493_6 : decode cJ0_coder_7d493 6 = .ok (.aload_n 0, 1) := by decide +kernel
theorem dJ0_coder_7d493_7 : decode cJ0_coder_7d493 7 = .ok (.getfield 15, 3) := by decide +kernel
theorem dJ0_coder_7d493_10 : decode cJ0_coder_7d493 10 = .ok (.goto 4, 3) := by decide +kernel
theorem dJ0_coder_7d493_13 : decode cJ0_coder_7d493 13 = .ok (.iconst 1, 1) := by decide +kernel
theorem dJ0_coder_7d493_14 : decode cJ0_coder_7d493 14 = .ok (.ireturn, 1) := by decide +kernel
theorem dJ0_isLatin1_aae02_0 : decode cJ0_isLatin1_aae02 0 = .ok (.getstatic 38, 3) := by decide +kernel
theorem dJ0_isLatin1_aae02_3 : decode cJ0_isLatin1_aae02 3 = .ok (.ifCond .eq 14, 3) := by decide +kernel
theorem dJ0_isLatin1_aae02_6 : decode cJ0_isLatin1_aae02 6 = .ok (.aload_n 0, 1) := by decide +kernel
theorem dJ0_isLatin1_aae02_7 : decode cJ0_isLatin1_aae02 7 = .ok (.getfield 15, 3) := by decide +kernel
theorem dJ0_isLatin1_aae02_10 : decode cJ0_isLatin1_aae02 10 = .ok (.ifCond .ne 7, 3) := by decide +kernel
theorem dJ0_isLatin1_aae02_13 : decode cJ0_isLatin1_aae02 13 = .ok (.iconst 1, 1) := by decide +kernel
theorem dJ0_isLatin1_aae02_14 : decode cJ0_isLatin1_aae02 14 = .ok (.goto 4, 3) := by decide +kernel
theorem dJ0_isLatin1_aae02_17 : decode cJ0_isLatin1_aae02 17 = .ok (.iconst 0, 1) := by decide +kernel
theorem dJ0_isLatin1_aae02_18 : decode cJ0_isLatin1_aae02 18 = .ok (.ireturn, 1) := by decide +kernel
theorem dJ0_checkIndex_df160_0 : decode cJ0_checkIndex_df160 0 = .ok (.iload_n 0, 1) := by decide +kernel
theorem dJ0_checkIndex_df160_1 : decode cJ0_checkIndex_df160 1 = .ok (.iload_n 1, 1) := by decide +kernel
theorem dJ0_checkIndex_df160_2 : decode cJ0_checkIndex_df160 2 = .ok (.getstatic 1053, 3) := by decide +kernel
theorem dJ0_checkIndex_df160_5 : decode cJ0_checkIndex_df160 5 = .ok (.invokestatic 1059, 3) := by decide +kernel
theorem dJ0_checkIndex_df160_8 : decode cJ0_checkIndex_df160 8 = .ok (.pop, 1) := by decide +kernel
theorem dJ0_checkIndex_df160_9 : decode cJ0_checkIndex_df160 9 = .ok (.return_, 1) := by decide +kernel
theorem dJ1_charAt_3b067_0 : decode cJ1_charAt_3b067 0 = .ok (.iload_n 1, 1) := by decide +kernel
theorem dJ1_charAt_3b067_1 : decode cJ1_charAt_3b067 1 = .ok (.aload_n 0, 1) := by decide +kernel
theorem dJ1_charAt_3b067_2 : decode cJ1_charAt_3b067 2 = .ok (.arraylength, 1) := by decide +kernel
theorem dJ1_charAt_3b067_3 : decode cJ1_charAt_3b067 3 = .ok (.invokestatic 9, 3) := by decide +kernel
theorem dJ1_charAt_3b067_6 : decode cJ1_charAt_3b067 6 = .ok (.aload_n 0, 1) := by decide +kernel
theorem dJ1_charAt_3b067_7 : decode cJ1_charAt_3b067 7 = .ok (.iload_n 1, 1) := by decide +kernel
theorem dJ1_charAt_3b067_8 : decode cJ1_charAt_3b067 8 = .ok (.baload, 1) := by decide +kernel
theorem dJ1_charAt_3b067_9 : decode cJ1_charAt_3b067 9 = .ok (.sipush 255, 3) := by decide +kernel
theorem dJ1_charAt_3b067_12 : decode cJ1_charAt_3b067 12 = .ok (.iand, 1) := by decide +kernel
theorem dJ1_charAt_3b067_13 : decode cJ1_charAt_3b067 13 = .ok (.i2c, 1) := by decide +kernel
theorem dJ1_charAt_3b067_14 : decode cJ1_charAt_3b067 14 = .ok (.ireturn, 1) := by decide +kernel
theorem dJ2_getChar_3b067_0 : decode cJ2_getChar_3b067 0 = .ok (.getstatic 44, 3) := by decide +kernel
theorem dJ2_getChar_3b067_3 : decode cJ2_getChar_3b067 3 = .ok (.ifCond .ne 25, 3) := by decide +kernel
theorem dJ2_getChar_3b067_6 : decode cJ2_getChar_3b067 6 = .ok (.iload_n 1, 1) := by decide +kernel
theorem dJ2_getChar_3b067_7 : decode cJ2_getChar_3b067 7 = .ok (.ifCond .lt 11, 3) := by decide +kernel
theorem dJ2_getChar_3b067_10 : decode cJ2_getChar_3b067 10 = .ok (.iload_n 1, 1) := by decide +kernel
theorem dJ2_getChar_3b067_11 : decode cJ2_getChar_3b067 11 = .ok (.aload_n 0, 1) := by decide +kernel
theorem dJ2_getChar_3b067_12 : decode cJ2_getChar_3b067 12 = .ok (.invokestatic 48, 3) := by decide +kernel
theorem dJ2_getChar_3b067_15 : decode cJ2_getChar_3b067 15 = .ok (.if_icmp .lt 13, 3) := by decide +kernel
theorem dJ2_getChar_3b067_18 : decode cJ2_getChar_3b067 18 = .ok (.new 52, 3) := by decide +kernel
theorem dJ2_getChar_3b067_21 : decode cJ2_getChar_3b067 21 = .ok (.dup, 1) := by decide +kernel
theorem dJ2_getChar_3b067_22 : decode cJ2_getChar_3b067 22 = .ok (.ldc 54, 2) := by decide +kernel
theorem dJ2_getChar_3b067_24 : decode cJ2_getChar_3b067 24 = .ok (.invokespecial 56, 3) := by decide +kernel
theorem dJ2_getChar_3b067_27 : decode cJ2_getChar_3b067 27 = .ok (.athrow, 1) := by decide +kernel
theorem dJ2_getChar_3b067_28 : decode cJ2_getChar_3b067 28 = .ok (.iload_n 1, 1) := by decide +kernel
theorem dJ2_getChar_3b067_29 : decode cJ2_getChar_3b067 29 = .ok (.iconst 1, 1) := by decide +kernel
theorem dJ2_getChar_3b067_30 : decode cJ2_getChar_3b067 30 = .ok (.ishl, 1) := by decide +kernel
theorem dJ2_getChar_3b067_31 : decode cJ2_getChar_3b067 31 = .ok (.istore_n 1, 1) := by decide +kernel
theorem dJ2_getChar_3b067_32 : decode cJ2_getChar_3b067 32 = .ok (.aload_n 0, 1) := by decide +kernel
theorem dJ2_getChar_3b067_33 : decode cJ2_getChar_3b067 33 = .ok (.iload_n 1, 1) := by decide +kernel
theorem dJ2_getChar_3b067_34 : decode cJ2_getChar_3b067 34 = .ok (.iinc 1 1, 3) := by decide +kernel
theorem dJ2_getChar_3b067_37 : decode cJ2_getChar_3b067 37 = .ok (.baload, 1) := by decide +kernel
theorem dJ2_getChar_3b067_38 : decode cJ2_getChar_3b067 38 = .ok (.sipush 255, 3) := by decide +kernel
theorem dJ2_getChar_3b067_41 : decode cJ2_getChar_3b067 41 = .ok (.iand, 1) := by decide +kernel
theorem dJ2_getChar_3b067_42 : decode cJ2_getChar_3b067 42 = .ok (.getstatic 59, 3) := by decide +kernel
theorem dJ2_getChar_3b067_45 : decode cJ2_getChar_3b067 45 = .ok (.ishl, 1) := by decide +kernel
theorem dJ2_getChar_3b067_46 : decode cJ2_getChar_3b067 46 = .ok (.aload_n 0, 1) := by decide +kernel
theorem dJ2_getChar_3b067_47 : decode cJ2_getChar_3b067 47 = .ok (.iload_n 1, 1) := by decide +kernel
theorem dJ2_getChar_3b067_48 : decode cJ2_getChar_3b067 48 = .ok (.baload, 1) := by decide +kernel
theorem dJ2_getChar_3b067_49 : decode cJ2_getChar_3b067 49 = .ok (.sipush 255, 3) := by decide +kernel
theorem dJ2_getChar_3b067_52 : decode cJ2_getChar_3b067 52 = .ok (.iand, 1) := by decide +kernel
theorem dJ2_getChar_3b067_53 : decode cJ2_getChar_3b067 53 = .ok (.getstatic 63, 3) := by decide +kernel
theorem dJ2_getChar_3b067_56 : decode cJ2_getChar_3b067 56 = .ok (.ishl, 1) := by decide +kernel
theorem dJ2_getChar_3b067_57 : decode cJ2_getChar_3b067 57 = .ok (.ior, 1) := by decide +kernel
theorem dJ2_getChar_3b067_58 : decode cJ2_getChar_3b067 58 = .ok (.i2c, 1) := by decide +kernel
theorem dJ2_getChar_3b067_59 : decode cJ2_getChar_3b067 59 = .ok (.ireturn, 1) := by decide +kernel
theorem dJ2_length_9d52b_0 : decode cJ2_length_9d52b 0 = .ok (.aload_n 0, 1) := by decide +kernel
theorem dJ2_length_9d52b_1 : decode cJ2_length_9d52b 1 = .ok (.arraylength, 1) := by decide +kernel
theorem dJ2_length_9d52b_2 : decode cJ2_length_9d52b 2 = .ok (.iconst 1, 1) := by decide +kernel
theorem dJ2_length_9d52b_3 : decode cJ2_length_9d52b 3 = .ok (.ishr, 1) := by decide +kernel
theorem dJ2_length_9d52b_4 : decode cJ2_length_9d52b 4 = .ok (.ireturn, 1) := by decide +kernel
theorem dJ2_charAt_3b067_0 : decode cJ2_charAt_3b067 0 = .ok (.iload_n 1, 1) := by decide +kernel
theorem dJ2_charAt_3b067_1 : decode cJ2_charAt_3b067 1 = .ok (.aload_n 0, 1) := by decide +kernel
theorem dJ2_charAt_3b067_2 : decode cJ2_charAt_3b067 2 = .ok (.invokestatic 67, 3) := by decide +kernel
theorem dJ2_charAt_3b067_5 : decode cJ2_charAt_3b067 5 = .ok (.aload_n 0, 1) := by decide +kernel
theorem dJ2_charAt_3b067_6 : decode cJ2_charAt_3b067 6 = .ok (.iload_n 1, 1) := by decide +kernel
theorem dJ2_charAt_3b067_7 : decode cJ2_charAt_3b067 7 = .ok (.invokestatic 71, 3) := by decide +kernel
theorem dJ2_charAt_3b067_10 : decode cJ2_charAt_3b067 10 = .ok (.ireturn, 1) := by decide +kernel
theorem dJ2_checkIndex_2214a_0 : decode cJ2_checkIndex_2214a 0 = .ok (.iload_n 0, 1) := by decide +kernel
theorem dJ2_checkIndex_2214a_1 : decode cJ2_checkIndex_2214a 1 = .ok (.aload_n 1, 1) := by decide +kernel
theorem dJ2_checkIndex_2214a_2 : decode cJ2_checkIndex_2214a 2 = .ok (.invokestatic 48, 3) := by decide +kernel
theorem dJ2_checkIndex_2214a_5 : decode cJ2_checkIndex_2214a 5 = .ok (.invokestatic 414, 3) := by decide +kernel
theorem dJ2_checkIndex_2214a_8 : decode cJ2_checkIndex_2214a 8 = .ok (.return_, 1) := by decide +kernel
theorem dJ3_checkIndex_8e157_0 : decode cJ3_checkIndex_8e157 0 = .ok (.iload_n 0, 1) := by decide +kernel
theorem dJ3_checkIndex_8e157_1 : decode cJ3_checkIndex_8e157 1 = .ok (.ifCond .lt 8, 3) := by decide +kernel
theorem dJ3_checkIndex_8e157_4 : decode cJ3_checkIndex_8e157 4 = .ok (.iload_n 0, 1) := by decide +kernel
theorem dJ3_checkIndex_8e157_5 : decode cJ3_checkIndex_8e157 5 = .ok (.iload_n 1, 1) := by decide +kernel
theorem dJ3_checkIndex_8e157_6 : decode cJ3_checkIndex_8e157 6 = .ok (.if_icmp .lt 10, 3) := by decide +kernel
theorem dJ3_checkIndex_8e157_9 : decode cJ3_checkIndex_8e157 9 = .ok (.aload_n 2, 1) := by decide +kernel
theorem dJ3_checkIndex_8e157_10 : decode cJ3_checkIndex_8e157 10 = .ok (.iload_n 0, 1) := by decide +kernel
theorem dJ3_checkIndex_8e157_11 : decode cJ3_checkIndex_8e157 11 = .ok (.iload_n 1, 1) := by decide +kernel
theorem dJ3_checkIndex_8e157_12 : decode cJ3_checkIndex_8e157 12 = .ok (.invokestatic 95, 3) := by decide +kernel
theorem dJ3_checkIndex_8e157_15 : decode cJ3_checkIndex_8e157 15 = .ok (.athrow, 1) := by decide +kernel
theorem dJ3_checkIndex_8e157_16 : decode cJ3_checkIndex_8e157 16 = .ok (.iload_n 0, 1) := by decide +kernel
theorem dJ3_checkIndex_8e157_17 : decode cJ3_checkIndex_8e157 17 = .ok (.ireturn, 1) := by decide +kernel
abbrev vwCl : List vw_C := [(RX0, TX0, 3), (RX1, TX1, 2), (RX2, TX2, 2), (RX3, TX3, 3), (RX4, TX4, 2), (RX5, TX5, 6), (RX6, TX6, 8), (RX7, TX7, 7), (RX8, TX8, 15)]
/-! ===== END printed: names ===== -/
end
section
theorem dX8_init_0 : decode cX8_init 0 = .ok (.aload_n 0, 1) := by decide +kernel
theorem dX8_init_1 : decode cX8_init 1 = .ok (.invokespecial 1, 3) := by decide +kernel
theorem dX8_init_4 : decode cX8_init 4 = .ok (.aload_n 0, 1) := by decide +kernel
theorem dX8_init_5 : decode cX8_init 5 = .ok (.sipush 200, 3) := by decide +kernel
theorem dX8_init_8 : decode cX8_init 8 = .ok (.newarray .int, 2) := by decide +kernel
theorem dX8_init_10 : decode cX8_init 10 = .ok (.putfield 7, 3) := by decide +kernel
theorem dX8_init_13 : decode cX8_init 13 = .ok (.aload_n 0, 1) := by decide +kernel
theorem dX8_init_14 : decode cX8_init 14 = .ok (.bipush 6, 2) := by decide +kernel
theorem dX8_init_16 : decode cX8_init 16 = .ok (.newarray .int, 2) := by decide +kernel
theorem dX8_init_18 : decode cX8_init 18 = .ok (.putfield 13, 3) := by decide +kernel
theorem dX8_init_21 : decode cX8_init 21 = .ok (.aload_n 0, 1) := by decide +kernel
theorem dX8_init_22 : decode cX8_init 22 = .ok (.bipush 42, 2) := by decide +kernel
theorem dX8_init_24 : decode cX8_init 24 = .ok (.newarray .int, 2) := by decide +kernel
theorem dX8_init_26 : decode cX8_init 26 = .ok (.putfield 16, 3) := by decide +kernel
theorem dX8_init_29 : decode cX8_init 29 = .ok (.aload_n 0, 1) := by decide +kernel
theorem dX8_init_30 : decode cX8_init 30 = .ok (.bipush 6, 2) := by decide +kernel
theorem dX8_init_32 : decode cX8_init 32 = .ok (.newarray .int, 2) := by decide +kernel
theorem dX8_init_34 : decode cX8_init 34 = .ok (.putfield 19, 3) := by decide +kernel
theorem dX8_init_37 : decode cX8_init 37 = .ok (.aload_n 0, 1) := by decide +kernel
theorem dX8_init_38 : decode cX8_init 38 = .ok (.bipush 42, 2) := by decide +kernel
theorem dX8_init_40 : decode cX8_init 40 = .ok (.newarray .int, 2) := by decide +kernel
theorem dX8_init_42 : decode cX8_init 42 = .ok (.putfield 22, 3) := by decide +kernel
theorem dX8_init_45 : decode cX8_init 45 = .ok (.aload_n 0, 1) := by decide +kernel
theorem dX8_init_46 : decode cX8_init 46 = .ok (.bipush 42, 2) := by decide +kernel
theorem dX8_init_48 : decode cX8_init 48 = .ok (.newarray .int, 2) := by decide +kernel
theorem dX8_init_50 : decode cX8_init 50 = .ok (.putfield 25, 3) := by decide +kernel
theorem dX8_init_53 : decode cX8_init 53 = .ok (.aload_n 0, 1) := by decide +kernel
theorem dX8_init_54 : decode cX8_init 54 = .ok (.sipush 252, 3) := by decide +kernel
theorem dX8_init_57 : decode cX8_init 57 = .ok (.newarray .int, 2) := by decide +kernel
theorem dX8_init_59 : decode cX8_init 59 = .ok (.putfield 28, 3) := by decide +kernel
theorem dX8_init_62 : decode cX8_init 62 = .ok (.aload_n 0, 1) := by decide +kernel
theorem dX8_init_63 : decode cX8_init 63 = .ok (.invokevirtual 31, 3) := by decide +kernel
theorem dX8_init_66 : decode cX8_init 66 = .ok (.aload_n 0, 1) := by decide +kernel
theorem dX8_init_67 : decode cX8_init 67 = .ok (.bipush 20, 2) := by decide +kernel
theorem dX8_init_69 : decode cX8_init 69 = .ok (.putfield 34, 3) := by decide +kernel
theorem dX8_init_72 : decode cX8_init 72 = .ok (.aload_n 0, 1) := by decide +kernel
theorem dX8_init_73 : decode cX8_init 73 = .ok (.iconst 3, 1) := by decide +kernel
theorem dX8_init_74 : decode cX8_init 74 = .ok (.putfield 38, 3) := by decide +kernel
theorem dX8_init_77 : decode cX8_init 77 = .ok (.aload_n 0, 1) := by decide +kernel
theorem dX8_init_78 : decode cX8_init 78 = .ok (.getfield 13, 3) := by decide +kernel
theorem dX8_init_81 : decode cX8_init 81 = .ok (.iconst 0, 1) := by decide +kernel
theorem dX8_init_82 : decode cX8_init 82 = .ok (.sipush 400, 3) := by decide +kernel
theorem dX8_init_85 : decode cX8_init 85 = .ok (.iastore, 1) := by decide +kernel
theorem dX8_init_86 : decode cX8_init 86 = .ok (.aload_n 0, 1) := by decide +kernel
theorem dX8_init_87 : decode cX8_init 87 = .ok (.getfield 13, 3) := by decide +kernel
theorem dX8_init_90 : decode cX8_init 90 = .ok (.iconst 1, 1) := by decide +kernel
theorem dX8_init_91 : decode cX8_init 91 = .ok (.sipush 1000, 3) := by decide +kernel
theorem dX8_init_94 : decode cX8_init 94 = .ok (.iastore, 1) := by decide +kernel
theorem dX8_init_95 : decode cX8_init 95 = .ok (.aload_n 0, 1) := by decide +kernel
theorem dX8_init_96 : decode cX8_init 96 = .ok (.getfield 13, 3) := by decide +kernel
theorem dX8_init_99 : decode cX8_init 99 = .ok (.iconst 2, 1) := by decide +kernel
theorem dX8_init_100 : decode cX8_init 100 = .ok (.sipush 1740, 3) := by decide +kernel
theorem dX8_init_103 : decode cX8_init 103 = .ok (.iastore, 1) := by decide +kernel
theorem dX8_init_104 : decode cX8_init 104 = .ok (.aload_n 0, 1) := by decide +kernel
theorem dX8_init_105 : decode cX8_init 105 = .ok (.getfield 16, 3) := by decide +kernel
theorem dX8_init_108 : decode cX8_init 108 = .ok (.bipush 7, 2) := by decide +kernel
theorem dX8_init_110 : decode cX8_init 110 = .ok (.iconst 3, 1) := by decide +kernel
theorem dX8_init_111 : decode cX8_init 111 = .ok (.iastore, 1) := by decide +kernel
theorem dX8_init_112 : decode cX8_init 112 = .ok (.aload_n 0, 1) := by decide +kernel
theorem dX8_init_113 : decode cX8_init 113 = .ok (.getfield 16, 3) := by decide +kernel
theorem dX8_init_116 : decode cX8_init 116 = .ok (.bipush 8, 2) := by decide +kernel
theorem dX8_init_118 : decode cX8_init 118 = .ok (.iconst 1, 1) := by decide +kernel
theorem dX8_init_119 : decode cX8_init 119 = .ok (.iastore, 1) := by decide +kernel
theorem dX8_init_120 : decode cX8_init 120 = .ok (.aload_n 0, 1) := by decide +kernel
theorem dX8_init_121 : decode cX8_init 121 = .ok (.getfield 16, 3) := by decide +kernel
theorem dX8_init_124 : decode cX8_init 124 = .ok (.bipush 9, 2) := by decide +kernel
theorem dX8_init_126 : decode cX8_init 126 = .ok (.sipush 660, 3) := by decide +kernel
theorem dX8_init_129 : decode cX8_init 129 = .ok (.iastore, 1) := by decide +kernel
theorem dX8_init_130 : decode cX8_init 130 = .ok (.aload_n 0, 1) := by decide +kernel
theorem dX8_init_131 : decode cX8_init 131 = .ok (.getfield 16, 3) := by decide +kernel
theorem dX8_init_134 : decode cX8_init 134 = .ok (.bipush 10, 2) := by decide +kernel
theorem dX8_init_136 : decode cX8_init 136 = .ok (.bipush 9, 2) := by decide +kernel
theorem dX8_init_138 : decode cX8_init 138 = .ok (.iastore, 1) := by decide +kernel
theorem dX8_init_139 : decode cX8_init 139 = .ok (.aload_n 0, 1) := by decide +kernel
theorem dX8_init_140 : decode cX8_init 140 = .ok (.invokevirtual 41, 3) := by decide +kernel
theorem dX8_init_143 : decode cX8_init 143 = .ok (.return_, 1) := by decide +kernel
theorem dX8_in_0 : decode cX8_in 0 = .ok (.lload_n 0, 1) := by decide +kernel
theorem dX8_in_1 : decode cX8_in 1 = .ok (.lload_n 2, 1) := by decide +kernel
theorem dX8_in_2 : decode cX8_in 2 = .ok (.lcmp, 1) := by decide +kernel
theorem dX8_in_3 : decode cX8_in 3 = .ok (.ifCond .lt 14, 3) := by decide +kernel
theorem dX8_in_6 : decode cX8_in 6 = .ok (.lload_n 0, 1) := by decide +kernel
theorem dX8_in_7 : decode cX8_in 7 = .ok (.lload 4, 2) := by decide +kernel
theorem dX8_in_9 : decode cX8_in 9 = .ok (.lcmp, 1) := by decide +kernel
theorem dX8_in_10 : decode cX8_in 10 = .ok (.ifCond .gt 7, 3) := by decide +kernel
theorem dX8_in_13 : decode cX8_in 13 = .ok (.iconst 1, 1) := by decide +kernel
theorem dX8_in_14 : decode cX8_in 14 = .ok (.goto 4, 3) := by decide +kernel
theorem dX8_in_17 : decode cX8_in 17 = .ok (.iconst 0, 1) := by decide +kernel
theorem dX8_in_18 : decode cX8_in 18 = .ok (.ireturn, 1) := by decide +kernel
theorem dX8_beginRead_0 : decode cX8_beginRead 0 = .ok (.aload_n 0, 1) := by decide +kernel
theorem dX8_beginRead_1 : decode cX8_beginRead 1 = .ok (.iconst 0, 1) := by decide +kernel
theorem dX8_beginRead_2 : decode cX8_beginRead 2 = .ok (.putfield 34, 3) := by decide +kernel
theorem dX8_beginRead_5 : decode cX8_beginRead 5 = .ok (.aload_n 0, 1) := by decide +kernel
theorem dX8_beginRead_6 : decode cX8_beginRead 6 = .ok (.iconst 0, 1) := by decide +kernel
theorem dX8_beginRead_7 : decode cX8_beginRead 7 = .ok (.putfield 38, 3) := by decide +kernel
theorem dX8_beginRead_10 : decode cX8_beginRead 10 = .ok (.iconst 0, 1) := by decide +kernel
theorem dX8_beginRead_11 : decode cX8_beginRead 11 = .ok (.istore_n 1, 1) := by decide +kernel
theorem dX8_beginRead_12 : decode cX8_beginRead 12 = .ok (.iload_n 1, 1) := by decide +kernel
theorem dX8_beginRead_13 : decode cX8_beginRead 13 = .ok (.bipush 42, 2) := by decide +kernel
theorem dX8_beginRead_15 : decode cX8_beginRead 15 = .ok (.if_icmp .ge 16, 3) := by decide +kernel
theorem dX8_beginRead_18 : decode cX8_beginRead 18 = .ok (.aload_n 0, 1) := by decide +kernel
theorem dX8_beginRead_19 : decode cX8_beginRead 19 = .ok (.getfield 16, 3) := by decide +kernel
theorem dX8_beginRead_22 : decode cX8_beginRead 22 = .ok (.iload_n 1, 1) := by decide +kernel
theorem dX8_beginRead_23 : decode cX8_beginRead 23 = .ok (.iconst 0, 1) := by decide +kernel
theorem dX8_beginRead_24 : decode cX8_beginRead 24 = .ok (.iastore, 1) := by decide +kernel
theorem dX8_beginRead_25 : decode cX8_beginRead 25 = .ok (.iinc 1 1, 3) := by decide +kernel
theorem dX8_beginRead_28 : decode cX8_beginRead 28 = .ok (.goto (-16), 3) := by decide +kernel
theorem dX8_beginRead_31 : decode cX8_beginRead 31 = .ok (.aload_n 0, 1) := by decide +kernel
theorem dX8_beginRead_32 : decode cX8_beginRead 32 = .ok (.getfield 16, 3) := by decide +kernel
theorem dX8_beginRead_35 : decode cX8_beginRead 35 = .ok (.iconst 5, 1) := by decide +kernel
theorem dX8_beginRead_36 : decode cX8_beginRead 36 = .ok (.iconst 4, 1) := by decide +kernel
theorem dX8_beginRead_37 : decode cX8_beginRead 37 = .ok (.iastore, 1) := by decide +kernel
theorem dX8_beginRead_38 : decode cX8_beginRead 38 = .ok (.aload_n 0, 1) := by decide +kernel
theorem dX8_beginRead_39 : decode cX8_beginRead 39 = .ok (.getfield 16, 3) := by decide +kernel
theorem dX8_beginRead_42 : decode cX8_beginRead 42 = .ok (.bipush 6, 2) := by decide +kernel
theorem dX8_beginRead_44 : decode cX8_beginRead 44 = .ok (.bipush 22, 2) := by decide +kernel
theorem dX8_beginRead_46 : decode cX8_beginRead 46 = .ok (.iastore, 1) := by decide +kernel
theorem dX8_beginRead_47 : decode cX8_beginRead 47 = .ok (.return_, 1) := by decide +kernel
theorem dX8_takeRead_0 : decode cX8_takeRead 0 = .ok (.aload_n 0, 1) := by decide +kernel
theorem dX8_takeRead_1 : decode cX8_takeRead 1 = .ok (.aload_n 0, 1) := by decide +kernel
theorem dX8_takeRead_2 : decode cX8_takeRead 2 = .ok (.getfield 34, 3) := by decide +kernel
theorem dX8_takeRead_5 : decode cX8_takeRead 5 = .ok (.putfield 44, 3) := by decide +kernel
theorem dX8_takeRead_8 : decode cX8_takeRead 8 = .ok (.aload_n 0, 1) := by decide +kernel
theorem dX8_takeRead_9 : decode cX8_takeRead 9 = .ok (.aload_n 0, 1) := by decide +kernel
theorem dX8_takeRead_10 : decode cX8_takeRead 10 = .ok (.getfield 38, 3) := by decide +kernel
theorem dX8_takeRead_13 : decode cX8_takeRead 13 = .ok (.putfield 47, 3) := by decide +kernel
theorem dX8_takeRead_16 : decode cX8_takeRead 16 = .ok (.iconst 0, 1) := by decide +kernel
theorem dX8_takeRead_17 : decode cX8_takeRead 17 = .ok (.istore_n 1, 1) := by decide +kernel
theorem dX8_takeRead_18 : decode cX8_takeRead 18 = .ok (.iload_n 1, 1) := by decide +kernel
theorem dX8_takeRead_19 : decode cX8_takeRead 19 = .ok (.bipush 6, 2) := by decide +kernel
theorem dX8_takeRead_21 : decode cX8_takeRead 21 = .ok (.if_icmp .ge 21, 3) := by decide +kernel
theorem dX8_takeRead_24 : decode cX8_takeRead 24 = .ok (.aload_n 0, 1) := by decide +kernel
theorem dX8_takeRead_25 : decode cX8_takeRead 25 = .ok (.getfield 19, 3) := by decide +kernel
theorem dX8_takeRead_28 : decode cX8_takeRead 28 = .ok (.iload_n 1, 1) := by decide +kernel
theorem dX8_takeRead_29 : decode cX8_takeRead 29 = .ok (.aload_n 0, 1) := by decide +kernel
theorem dX8_takeRead_30 : decode cX8_takeRead 30 = .ok (.getfield 13, 3) := by decide +kernel
theorem dX8_takeRead_33 : decode cX8_takeRead 33 = .ok (.iload_n 1, 1) := by decide +kernel
theorem dX8_takeRead_34 : decode cX8_takeRead 34 = .ok (.iaload, 1) := by decide +kernel
theorem dX8_takeRead_35 : decode cX8_takeRead 35 = .ok (.iastore, 1) := by decide +kernel
theorem dX8_takeRead_36 : decode cX8_takeRead 36 = .ok (.iinc 1 1, 3) := by decide +kernel
theorem dX8_takeRead_39 : decode cX8_takeRead 39 = .ok (.goto (-21), 3) := by decide +kernel
theorem dX8_takeRead_42 : decode cX8_takeRead 42 = .ok (.iconst 0, 1) := by decide +kernel
theorem dX8_takeRead_43 : decode cX8_takeRead 43 = .ok (.istore_n 1, 1) := by decide +kernel
theorem dX8_takeRead_44 : decode cX8_takeRead 44 = .ok (.iload_n 1, 1) := by decide +kernel
theorem dX8_takeRead_45 : decode cX8_takeRead 45 = .ok (.bipush 42, 2) := by decide +kernel
theorem dX8_takeRead_47 : decode cX8_takeRead 47 = .ok (.if_icmp .ge 21, 3) := by decide +kernel
theorem dX8_takeRead_50 : decode cX8_takeRead 50 = .ok (.aload_n 0, 1) := by decide +kernel
theorem dX8_takeRead_51 : decode cX8_takeRead 51 = .ok (.getfield 22, 3) := by decide +kernel
theorem dX8_takeRead_54 : decode cX8_takeRead 54 = .ok (.iload_n 1, 1) := by decide +kernel
theorem dX8_takeRead_55 : decode cX8_takeRead 55 = .ok (.aload_n 0, 1) := by decide +kernel
theorem dX8_takeRead_56 : decode cX8_takeRead 56 = .ok (.getfield 16, 3) := by decide +kernel
theorem dX8_takeRead_59 : decode cX8_takeRead 59 = .ok (.iload_n 1, 1) := by decide +kernel
theorem dX8_takeRead_60 : decode cX8_takeRead 60 = .ok (.iaload, 1) := by decide +kernel
theorem dX8_takeRead_61 : decode cX8_takeRead 61 = .ok (.iastore, 1) := by decide +kernel
theorem dX8_takeRead_62 : decode cX8_takeRead 62 = .ok (.iinc 1 1, 3) := by decide +kernel
theorem dX8_takeRead_65 : decode cX8_takeRead 65 = .ok (.goto (-21), 3) := by decide +kernel
theorem dX8_takeRead_68 : decode cX8_takeRead 68 = .ok (.aload_n 0, 1) := by decide +kernel
theorem dX8_takeRead_69 : decode cX8_takeRead 69 = .ok (.iconst 0, 1) := by decide +kernel
theorem dX8_takeRead_70 : decode cX8_takeRead 70 = .ok (.putfield 50, 3) := by decide +kernel
theorem dX8_takeRead_73 : decode cX8_takeRead 73 = .ok (.return_, 1) := by decide +kernel
theorem dX8_append_0 : decode cX8_append 0 = .ok (.iload_n 1, 1) := by decide +kernel
theorem dX8_append_1 : decode cX8_append 1 = .ok (.i2l, 1) := by decide +kernel
theorem dX8_append_2 : decode cX8_append 2 = .ok (.ldc2_w 53, 3) := by decide +kernel
theorem dX8_append_5 : decode cX8_append 5 = .ok (.ldc2_w 55, 3) := by decide +kernel
theorem dX8_append_8 : decode cX8_append 8 = .ok (.invokestatic 57, 3) := by decide +kernel
theorem dX8_append_11 : decode cX8_append 11 = .ok (.ifCond .ne 5, 3) := by decide +kernel
theorem dX8_append_14 : decode cX8_append 14 = .ok (.iconst (-1), 1) := by decide +kernel
theorem dX8_append_15 : decode cX8_append 15 = .ok (.ireturn, 1) := by decide +kernel
theorem dX8_append_16 : decode cX8_append 16 = .ok (.aload_n 0, 1) := by decide +kernel
theorem dX8_append_17 : decode cX8_append 17 = .ok (.getfield 61, 3) := by decide +kernel
theorem dX8_append_20 : decode cX8_append 20 = .ok (.sipush 200, 3) := by decide +kernel
theorem dX8_append_23 : decode cX8_append 23 = .ok (.if_icmp .ne 6, 3) := by decide +kernel
theorem dX8_append_26 : decode cX8_append 26 = .ok (.bipush (-3), 2) := by decide +kernel
theorem dX8_append_28 : decode cX8_append 28 = .ok (.ireturn, 1) := by decide +kernel
theorem dX8_append_29 : decode cX8_append 29 = .ok (.aload_n 0, 1) := by decide +kernel
theorem dX8_append_30 : decode cX8_append 30 = .ok (.getfield 7, 3) := by decide +kernel
theorem dX8_append_33 : decode cX8_append 33 = .ok (.aload_n 0, 1) := by decide +kernel
theorem dX8_append_34 : decode cX8_append 34 = .ok (.getfield 61, 3) := by decide +kernel
theorem dX8_append_37 : decode cX8_append 37 = .ok (.iload_n 1, 1) := by decide +kernel
theorem dX8_append_38 : decode cX8_append 38 = .ok (.iastore, 1) := by decide +kernel
theorem dX8_append_39 : decode cX8_append 39 = .ok (.aload_n 0, 1) := by decide +kernel
theorem dX8_append_40 : decode cX8_append 40 = .ok (.dup, 1) := by decide +kernel
theorem dX8_append_41 : decode cX8_append 41 = .ok (.getfield 61, 3) := by decide +kernel
theorem dX8_append_44 : decode cX8_append 44 = .ok (.iconst 1, 1) := by decide +kernel
theorem dX8_append_45 : decode cX8_append 45 = .ok (.iadd, 1) := by decide +kernel
theorem dX8_append_46 : decode cX8_append 46 = .ok (.putfield 61, 3) := by decide +kernel
theorem dX8_append_49 : decode cX8_append 49 = .ok (.aload_n 0, 1) := by decide +kernel
theorem dX8_append_50 : decode cX8_append 50 = .ok (.getfield 61, 3) := by decide +kernel
theorem dX8_append_53 : decode cX8_append 53 = .ok (.ireturn, 1) := by decide +kernel
theorem dX8_clearText_0 : decode cX8_clearText 0 = .ok (.aload_n 0, 1) := by decide +kernel
theorem dX8_clearText_1 : decode cX8_clearText 1 = .ok (.getfield 61, 3) := by decide +kernel
theorem dX8_clearText_4 : decode cX8_clearText 4 = .ok (.istore_n 1, 1) := by decide +kernel
theorem dX8_clearText_5 : decode cX8_clearText 5 = .ok (.aload_n 0, 1) := by decide +kernel
theorem dX8_clearText_6 : decode cX8_clearText 6 = .ok (.iconst 0, 1) := by decide +kernel
theorem dX8_clearText_7 : decode cX8_clearText 7 = .ok (.putfield 61, 3) := by decide +kernel
theorem dX8_clearText_10 : decode cX8_clearText 10 = .ok (.iload_n 1, 1) := by decide +kernel
theorem dX8_clearText_11 : decode cX8_clearText 11 = .ok (.ireturn, 1) := by decide +kernel
theorem dX8_letterHere_0 : decode cX8_letterHere 0 = .ok (.aload_n 0, 1) := by decide +kernel
theorem dX8_letterHere_1 : decode cX8_letterHere 1 = .ok (.getfield 64, 3) := by decide +kernel
theorem dX8_letterHere_4 : decode cX8_letterHere 4 = .ok (.aload_n 0, 1) := by decide +kernel
theorem dX8_letterHere_5 : decode cX8_letterHere 5 = .ok (.getfield 61, 3) := by decide +kernel
theorem dX8_letterHere_8 : decode cX8_letterHere 8 = .ok (.if_icmp .ge 15, 3) := by decide +kernel
theorem dX8_letterHere_11 : decode cX8_letterHere 11 = .ok (.aload_n 0, 1) := by decide +kernel
theorem dX8_letterHere_12 : decode cX8_letterHere 12 = .ok (.getfield 7, 3) := by decide +kernel
theorem dX8_letterHere_15 : decode cX8_letterHere 15 = .ok (.aload_n 0, 1) := by decide +kernel
theorem dX8_letterHere_16 : decode cX8_letterHere 16 = .ok (.getfield 64, 3) := by decide +kernel
theorem dX8_letterHere_19 : decode cX8_letterHere 19 = .ok (.iaload, 1) := by decide +kernel
theorem dX8_letterHere_20 : decode cX8_letterHere 20 = .ok (.goto 4, 3) := by decide +kernel
theorem dX8_letterHere_23 : decode cX8_letterHere 23 = .ok (.iconst 0, 1) := by decide +kernel
theorem dX8_letterHere_24 : decode cX8_letterHere 24 = .ok (.ireturn, 1) := by decide +kernel
theorem dX8_isNumber_0 : decode cX8_isNumber 0 = .ok (.aload_n 0, 1) := by decide +kernel
theorem dX8_isNumber_1 : decode cX8_isNumber 1 = .ok (.iconst 0, 1) := by decide +kernel
theorem dX8_isNumber_2 : decode cX8_isNumber 2 = .ok (.putfield 67, 3) := by decide +kernel
theorem dX8_isNumber_5 : decode cX8_isNumber 5 = .ok (.iconst 0, 1) := by decide +kernel
theorem dX8_isNumber_6 : decode cX8_isNumber 6 = .ok (.istore 4, 2) := by decide +kernel
theorem dX8_isNumber_8 : decode cX8_isNumber 8 = .ok (.aload_n 0, 1) := by decide +kernel
theorem dX8_isNumber_9 : decode cX8_isNumber 9 = .ok (.invokevirtual 70, 3) := by decide +kernel
theorem dX8_isNumber_12 : decode cX8_isNumber 12 = .ok (.i2l, 1) := by decide +kernel
theorem dX8_isNumber_13 : decode cX8_isNumber 13 = .ok (.ldc2_w 74, 3) := by decide +kernel
theorem dX8_isNumber_16 : decode cX8_isNumber 16 = .ok (.ldc2_w 76, 3) := by decide +kernel
theorem dX8_isNumber_19 : decode cX8_isNumber 19 = .ok (.invokestatic 57, 3) := by decide +kernel
theorem dX8_isNumber_22 : decode cX8_isNumber 22 = .ok (.ifCond .eq 44, 3) := by decide +kernel
theorem dX8_isNumber_25 : decode cX8_isNumber 25 = .ok (.iload 4, 2) := by decide +kernel
theorem dX8_isNumber_27 : decode cX8_isNumber 27 = .ok (.iconst 4, 1) := by decide +kernel
theorem dX8_isNumber_28 : decode cX8_isNumber 28 = .ok (.if_icmp .ge 38, 3) := by decide +kernel
theorem dX8_isNumber_31 : decode cX8_isNumber 31 = .ok (.aload_n 0, 1) := by decide +kernel
theorem dX8_isNumber_32 : decode cX8_isNumber 32 = .ok (.bipush 10, 2) := by decide +kernel
theorem dX8_isNumber_34 : decode cX8_isNumber 34 = .ok (.aload_n 0, 1) := by decide +kernel
theorem dX8_isNumber_35 : decode cX8_isNumber 35 = .ok (.getfield 67, 3) := by decide +kernel
theorem dX8_isNumber_38 : decode cX8_isNumber 38 = .ok (.imul, 1) := by decide +kernel
theorem dX8_isNumber_39 : decode cX8_isNumber 39 = .ok (.aload_n 0, 1) := by decide +kernel
theorem dX8_isNumber_40 : decode cX8_isNumber 40 = .ok (.invokevirtual 70, 3) := by decide +kernel
theorem dX8_isNumber_43 : decode cX8_isNumber 43 = .ok (.iadd, 1) := by decide +kernel
theorem dX8_isNumber_44 : decode cX8_isNumber 44 = .ok (.bipush 48, 2) := by decide +kernel
theorem dX8_isNumber_46 : decode cX8_isNumber 46 = .ok (.isub, 1) := by decide +kernel
theorem dX8_isNumber_47 : decode cX8_isNumber 47 = .ok (.putfield 67, 3) := by decide +kernel
theorem dX8_isNumber_50 : decode cX8_isNumber 50 = .ok (.iinc 4 1, 3) := by decide +kernel
theorem dX8_isNumber_53 : decode cX8_isNumber 53 = .ok (.aload_n 0, 1) := by decide +kernel
theorem dX8_isNumber_54 : decode cX8_isNumber 54 = .ok (.dup, 1) := by decide +kernel
theorem dX8_isNumber_55 : decode cX8_isNumber 55 = .ok (.getfield 64, 3) := by decide +kernel
theorem dX8_isNumber_58 : decode cX8_isNumber 58 = .ok (.iconst 1, 1) := by decide +kernel
theorem dX8_isNumber_59 : decode cX8_isNumber 59 = .ok (.iadd, 1) := by decide +kernel
theorem dX8_isNumber_60 : decode cX8_isNumber 60 = .ok (.putfield 64, 3) := by decide +kernel
theorem dX8_isNumber_63 : decode cX8_isNumber 63 = .ok (.goto (-55), 3) := by decide +kernel
theorem dX8_isNumber_66 : decode cX8_isNumber 66 = .ok (.iload 4, 2) := by decide +kernel
theorem dX8_isNumber_68 : decode cX8_isNumber 68 = .ok (.ifCond .le 30, 3) := by decide +kernel
theorem dX8_isNumber_71 : decode cX8_isNumber 71 = .ok (.aload_n 0, 1) := by decide +kernel
theorem dX8_isNumber_72 : decode cX8_isNumber 72 = .ok (.getfield 67, 3) := by decide +kernel
theorem dX8_isNumber_75 : decode cX8_isNumber 75 = .ok (.i2l, 1) := by decide +kernel
theorem dX8_isNumber_76 : decode cX8_isNumber 76 = .ok (.iload_n 1, 1) := by decide +kernel
theorem dX8_isNumber_77 : decode cX8_isNumber 77 = .ok (.i2l, 1) := by decide +kernel
theorem dX8_isNumber_78 : decode cX8_isNumber 78 = .ok (.iload_n 2, 1) := by decide +kernel
theorem dX8_isNumber_79 : decode cX8_isNumber 79 = .ok (.i2l, 1) := by decide +kernel
theorem dX8_isNumber_80 : decode cX8_isNumber 80 = .ok (.invokestatic 57, 3) := by decide +kernel
theorem dX8_isNumber_83 : decode cX8_isNumber 83 = .ok (.ifCond .eq 15, 3) := by decide +kernel
theorem dX8_isNumber_86 : decode cX8_isNumber 86 = .ok (.aload_n 0, 1) := by decide +kernel
theorem dX8_isNumber_87 : decode cX8_isNumber 87 = .ok (.invokevirtual 70, 3) := by decide +kernel
theorem dX8_isNumber_90 : decode cX8_isNumber 90 = .ok (.iload_n 3, 1) := by decide +kernel
theorem dX8_isNumber_91 : decode cX8_isNumber 91 = .ok (.if_icmp .ne 7, 3) := by decide +kernel
theorem dX8_isNumber_94 : decode cX8_isNumber 94 = .ok (.iconst 1, 1) := by decide +kernel
theorem dX8_isNumber_95 : decode cX8_isNumber 95 = .ok (.goto 4, 3) := by decide +kernel
theorem dX8_isNumber_98 : decode cX8_isNumber 98 = .ok (.iconst 0, 1) := by decide +kernel
theorem dX8_isNumber_99 : decode cX8_isNumber 99 = .ok (.istore 5, 2) := by decide +kernel
theorem dX8_isNumber_101 : decode cX8_isNumber 101 = .ok (.aload_n 0, 1) := by decide +kernel
theorem dX8_isNumber_102 : decode cX8_isNumber 102 = .ok (.dup, 1) := by decide +kernel
theorem dX8_isNumber_103 : decode cX8_isNumber 103 = .ok (.getfield 64, 3) := by decide +kernel
theorem dX8_isNumber_106 : decode cX8_isNumber 106 = .ok (.iconst 1, 1) := by decide +kernel
theorem dX8_isNumber_107 : decode cX8_isNumber 107 = .ok (.iadd, 1) := by decide +kernel
theorem dX8_isNumber_108 : decode cX8_isNumber 108 = .ok (.putfield 64, 3) := by decide +kernel
theorem dX8_isNumber_111 : decode cX8_isNumber 111 = .ok (.iload 5, 2) := by decide +kernel
theorem dX8_isNumber_113 : decode cX8_isNumber 113 = .ok (.ireturn, 1) := by decide +kernel
theorem dX8_statement_0 : decode cX8_statement 0 = .ok (.aload_n 0, 1) := by decide +kernel
theorem dX8_statement_1 : decode cX8_statement 1 = .ok (.invokevirtual 70, 3) := by decide +kernel
theorem dX8_statement_4 : decode cX8_statement 4 = .ok (.istore_n 1, 1) := by decide +kernel
theorem dX8_statement_5 : decode cX8_statement 5 = .ok (.aload_n 0, 1) := by decide +kernel
theorem dX8_statement_6 : decode cX8_statement 6 = .ok (.dup, 1) := by decide +kernel
theorem dX8_statement_7 : decode cX8_statement 7 = .ok (.getfield 64, 3) := by decide +kernel
theorem dX8_statement_10 : decode cX8_statement 10 = .ok (.iconst 1, 1) := by decide +kernel
theorem dX8_statement_11 : decode cX8_statement 11 = .ok (.iadd, 1) := by decide +kernel
theorem dX8_statement_12 : decode cX8_statement 12 = .ok (.putfield 64, 3) := by decide +kernel
theorem dX8_statement_15 : decode cX8_statement 15 = .ok (.iload_n 1, 1) := by decide +kernel
theorem dX8_statement_16 : decode cX8_statement 16 = .ok (.tableswitch 275 100 114 #[270, 275, 275, 275, 275, 110, 275, 275, 275, 163, 275, 275, 76, 275, 196], 76) := by decide +kernel
theorem dX8_statement_92 : decode cX8_statement 92 = .ok (.aload_n 0, 1) := by decide +kernel
theorem dX8_statement_93 : decode cX8_statement 93 = .ok (.bipush 8, 2) := by decide +kernel
theorem dX8_statement_95 : decode cX8_statement 95 = .ok (.bipush 80, 2) := by decide +kernel
theorem dX8_statement_97 : decode cX8_statement 97 = .ok (.bipush 59, 2) := by decide +kernel
theorem dX8_statement_99 : decode cX8_statement 99 = .ok (.invokevirtual 78, 3) := by decide +kernel
theorem dX8_statement_102 : decode cX8_statement 102 = .ok (.ifCond .eq 12, 3) := by decide +kernel
theorem dX8_statement_105 : decode cX8_statement 105 = .ok (.aload_n 0, 1) := by decide +kernel
theorem dX8_statement_106 : decode cX8_statement 106 = .ok (.getfield 67, 3) := by decide +kernel
theorem dX8_statement_109 : decode cX8_statement 109 = .ok (.iconst 4, 1) := by decide +kernel
theorem dX8_statement_110 : decode cX8_statement 110 = .ok (.irem, 1) := by decide +kernel
theorem dX8_statement_111 : decode cX8_statement 111 = .ok (.ifCond .eq 5, 3) := by decide +kernel
theorem dX8_statement_114 : decode cX8_statement 114 = .ok (.iconst 0, 1) := by decide +kernel
theorem dX8_statement_115 : decode cX8_statement 115 = .ok (.ireturn, 1) := by decide +kernel
theorem dX8_statement_116 : decode cX8_statement 116 = .ok (.aload_n 0, 1) := by decide +kernel
theorem dX8_statement_117 : decode cX8_statement 117 = .ok (.aload_n 0, 1) := by decide +kernel
theorem dX8_statement_118 : decode cX8_statement 118 = .ok (.getfield 67, 3) := by decide +kernel
theorem dX8_statement_121 : decode cX8_statement 121 = .ok (.putfield 34, 3) := by decide +kernel
theorem dX8_statement_124 : decode cX8_statement 124 = .ok (.iconst 1, 1) := by decide +kernel
theorem dX8_statement_125 : decode cX8_statement 125 = .ok (.ireturn, 1) := by decide +kernel
theorem dX8_statement_126 : decode cX8_statement 126 = .ok (.aload_n 0, 1) := by decide +kernel
theorem dX8_statement_127 : decode cX8_statement 127 = .ok (.bipush 8, 2) := by decide +kernel
theorem dX8_statement_129 : decode cX8_statement 129 = .ok (.bipush 80, 2) := by decide +kernel
theorem dX8_statement_131 : decode cX8_statement 131 = .ok (.bipush 44, 2) := by decide +kernel
theorem dX8_statement_133 : decode cX8_statement 133 = .ok (.invokevirtual 78, 3) := by decide +kernel
theorem dX8_statement_136 : decode cX8_statement 136 = .ok (.ifCond .ne 5, 3) := by decide +kernel
theorem dX8_statement_139 : decode cX8_statement 139 = .ok (.iconst 0, 1) := by decide +kernel
theorem dX8_statement_140 : decode cX8_statement 140 = .ok (.ireturn, 1) := by decide +kernel
theorem dX8_statement_141 : decode cX8_statement 141 = .ok (.aload_n 0, 1) := by decide +kernel
theorem dX8_statement_142 : decode cX8_statement 142 = .ok (.getfield 16, 3) := by decide +kernel
theorem dX8_statement_145 : decode cX8_statement 145 = .ok (.bipush 6, 2) := by decide +kernel
theorem dX8_statement_147 : decode cX8_statement 147 = .ok (.aload_n 0, 1) := by decide +kernel
theorem dX8_statement_148 : decode cX8_statement 148 = .ok (.getfield 67, 3) := by decide +kernel
theorem dX8_statement_151 : decode cX8_statement 151 = .ok (.iastore, 1) := by decide +kernel
theorem dX8_statement_152 : decode cX8_statement 152 = .ok (.aload_n 0, 1) := by decide +kernel
theorem dX8_statement_153 : decode cX8_statement 153 = .ok (.iconst 0, 1) := by decide +kernel
theorem dX8_statement_154 : decode cX8_statement 154 = .ok (.bipush 79, 2) := by decide +kernel
theorem dX8_statement_156 : decode cX8_statement 156 = .ok (.bipush 59, 2) := by decide +kernel
theorem dX8_statement_158 : decode cX8_statement 158 = .ok (.invokevirtual 78, 3) := by decide +kernel
theorem dX8_statement_161 : decode cX8_statement 161 = .ok (.ifCond .ne 5, 3) := by decide +kernel
theorem dX8_statement_164 : decode cX8_statement 164 = .ok (.iconst 0, 1) := by decide +kernel
theorem dX8_statement_165 : decode cX8_statement 165 = .ok (.ireturn, 1) := by decide +kernel
theorem dX8_statement_166 : decode cX8_statement 166 = .ok (.aload_n 0, 1) := by decide +kernel
theorem dX8_statement_167 : decode cX8_statement 167 = .ok (.getfield 16, 3) := by decide +kernel
theorem dX8_statement_170 : decode cX8_statement 170 = .ok (.bipush 7, 2) := by decide +kernel
theorem dX8_statement_172 : decode cX8_statement 172 = .ok (.aload_n 0, 1) := by decide +kernel
theorem dX8_statement_173 : decode cX8_statement 173 = .ok (.getfield 67, 3) := by decide +kernel
theorem dX8_statement_176 : decode cX8_statement 176 = .ok (.iastore, 1) := by decide +kernel
theorem dX8_statement_177 : decode cX8_statement 177 = .ok (.iconst 1, 1) := by decide +kernel
theorem dX8_statement_178 : decode cX8_statement 178 = .ok (.ireturn, 1) := by decide +kernel
theorem dX8_statement_179 : decode cX8_statement 179 = .ok (.aload_n 0, 1) := by decide +kernel
theorem dX8_statement_180 : decode cX8_statement 180 = .ok (.iconst 1, 1) := by decide +kernel
theorem dX8_statement_181 : decode cX8_statement 181 = .ok (.iconst 4, 1) := by decide +kernel
theorem dX8_statement_182 : decode cX8_statement 182 = .ok (.bipush 59, 2) := by decide +kernel
theorem dX8_statement_184 : decode cX8_statement 184 = .ok (.invokevirtual 78, 3) := by decide +kernel
theorem dX8_statement_187 : decode cX8_statement 187 = .ok (.ifCond .eq 11, 3) := by decide +kernel
theorem dX8_statement_190 : decode cX8_statement 190 = .ok (.aload_n 0, 1) := by decide +kernel
theorem dX8_statement_191 : decode cX8_statement 191 = .ok (.getfield 67, 3) := by decide +kernel
theorem dX8_statement_194 : decode cX8_statement 194 = .ok (.iconst 3, 1) := by decide +kernel
theorem dX8_statement_195 : decode cX8_statement 195 = .ok (.if_icmp .ne 5, 3) := by decide +kernel
theorem dX8_statement_198 : decode cX8_statement 198 = .ok (.iconst 0, 1) := by decide +kernel
theorem dX8_statement_199 : decode cX8_statement 199 = .ok (.ireturn, 1) := by decide +kernel
theorem dX8_statement_200 : decode cX8_statement 200 = .ok (.aload_n 0, 1) := by decide +kernel
theorem dX8_statement_201 : decode cX8_statement 201 = .ok (.getfield 16, 3) := by decide +kernel
theorem dX8_statement_204 : decode cX8_statement 204 = .ok (.iconst 5, 1) := by decide +kernel
theorem dX8_statement_205 : decode cX8_statement 205 = .ok (.aload_n 0, 1) := by decide +kernel
theorem dX8_statement_206 : decode cX8_statement 206 = .ok (.getfield 67, 3) := by decide +kernel
theorem dX8_statement_209 : decode cX8_statement 209 = .ok (.iastore, 1) := by decide +kernel
theorem dX8_statement_210 : decode cX8_statement 210 = .ok (.iconst 1, 1) := by decide +kernel
theorem dX8_statement_211 : decode cX8_statement 211 = .ok (.ireturn, 1) := by decide +kernel
theorem dX8_statement_212 : decode cX8_statement 212 = .ok (.aload_n 0, 1) := by decide +kernel
theorem dX8_statement_213 : decode cX8_statement 213 = .ok (.iconst 0, 1) := by decide +kernel
theorem dX8_statement_214 : decode cX8_statement 214 = .ok (.sipush 9999, 3) := by decide +kernel
theorem dX8_statement_217 : decode cX8_statement 217 = .ok (.bipush 59, 2) := by decide +kernel
theorem dX8_statement_219 : decode cX8_statement 219 = .ok (.invokevirtual 78, 3) := by decide +kernel
theorem dX8_statement_222 : decode cX8_statement 222 = .ok (.ifCond .eq 37, 3) := by decide +kernel
theorem dX8_statement_225 : decode cX8_statement 225 = .ok (.aload_n 0, 1) := by decide +kernel
theorem dX8_statement_226 : decode cX8_statement 226 = .ok (.getfield 38, 3) := by decide +kernel
theorem dX8_statement_229 : decode cX8_statement 229 = .ok (.bipush 6, 2) := by decide +kernel
theorem dX8_statement_231 : decode cX8_statement 231 = .ok (.if_icmp .eq 28, 3) := by decide +kernel
theorem dX8_statement_234 : decode cX8_statement 234 = .ok (.aload_n 0, 1) := by decide +kernel
theorem dX8_statement_235 : decode cX8_statement 235 = .ok (.getfield 38, 3) := by decide +kernel
theorem dX8_statement_238 : decode cX8_statement 238 = .ok (.ifCond .le 23, 3) := by decide +kernel
theorem dX8_statement_241 : decode cX8_statement 241 = .ok (.aload_n 0, 1) := by decide +kernel
theorem dX8_statement_242 : decode cX8_statement 242 = .ok (.getfield 67, 3) := by decide +kernel
theorem dX8_statement_245 : decode cX8_statement 245 = .ok (.aload_n 0, 1) := by decide +kernel
theorem dX8_statement_246 : decode cX8_statement 246 = .ok (.getfield 13, 3) := by decide +kernel
theorem dX8_statement_249 : decode cX8_statement 249 = .ok (.aload_n 0, 1) := by decide +kernel
theorem dX8_statement_250 : decode cX8_statement 250 = .ok (.getfield 38, 3) := by decide +kernel
theorem dX8_statement_253 : decode cX8_statement 253 = .ok (.iconst 1, 1) := by decide +kernel
theorem dX8_statement_254 : decode cX8_statement 254 = .ok (.isub, 1) := by decide +kernel
theorem dX8_statement_255 : decode cX8_statement 255 = .ok (.iaload, 1) := by decide +kernel
theorem dX8_statement_256 : decode cX8_statement 256 = .ok (.if_icmp .gt 5, 3) := by decide +kernel
theorem dX8_statement_259 : decode cX8_statement 259 = .ok (.iconst 0, 1) := by decide +kernel
theorem dX8_statement_260 : decode cX8_statement 260 = .ok (.ireturn, 1) := by decide +kernel
theorem dX8_statement_261 : decode cX8_statement 261 = .ok (.aload_n 0, 1) := by decide +kernel
theorem dX8_statement_262 : decode cX8_statement 262 = .ok (.getfield 13, 3) := by decide +kernel
theorem dX8_statement_265 : decode cX8_statement 265 = .ok (.aload_n 0, 1) := by decide +kernel
theorem dX8_statement_266 : decode cX8_statement 266 = .ok (.getfield 38, 3) := by decide +kernel
theorem dX8_statement_269 : decode cX8_statement 269 = .ok (.aload_n 0, 1) := by decide +kernel
theorem dX8_statement_270 : decode cX8_statement 270 = .ok (.getfield 67, 3) := by decide +kernel
theorem dX8_statement_273 : decode cX8_statement 273 = .ok (.iastore, 1) := by decide +kernel
theorem dX8_statement_274 : decode cX8_statement 274 = .ok (.aload_n 0, 1) := by decide +kernel
theorem dX8_statement_275 : decode cX8_statement 275 = .ok (.dup, 1) := by decide +kernel
theorem dX8_statement_276 : decode cX8_statement 276 = .ok (.getfield 38, 3) := by decide +kernel
theorem dX8_statement_279 : decode cX8_statement 279 = .ok (.iconst 1, 1) := by decide +kernel
theorem dX8_statement_280 : decode cX8_statement 280 = .ok (.iadd, 1) := by decide +kernel
theorem dX8_statement_281 : decode cX8_statement 281 = .ok (.putfield 38, 3) := by decide +kernel
theorem dX8_statement_284 : decode cX8_statement 284 = .ok (.iconst 1, 1) := by decide +kernel
theorem dX8_statement_285 : decode cX8_statement 285 = .ok (.ireturn, 1) := by decide +kernel
theorem dX8_statement_286 : decode cX8_statement 286 = .ok (.aload_n 0, 1) := by decide +kernel
theorem dX8_statement_287 : decode cX8_statement 287 = .ok (.invokevirtual 82, 3) := by decide +kernel
theorem dX8_statement_290 : decode cX8_statement 290 = .ok (.ireturn, 1) := by decide +kernel
theorem dX8_statement_291 : decode cX8_statement 291 = .ok (.iconst 0, 1) := by decide +kernel
theorem dX8_statement_292 : decode cX8_statement 292 = .ok (.ireturn, 1) := by decide +kernel
theorem dX8_dirtStatement_0 : decode cX8_dirtStatement 0 = .ok (.aload_n 0, 1) := by decide +kernel
theorem dX8_dirtStatement_1 : decode cX8_dirtStatement 1 = .ok (.iconst 0, 1) := by decide +kernel
theorem dX8_dirtStatement_2 : decode cX8_dirtStatement 2 = .ok (.sipush 9999, 3) := by decide +kernel
theorem dX8_dirtStatement_5 : decode cX8_dirtStatement 5 = .ok (.bipush 44, 2) := by decide +kernel
theorem dX8_dirtStatement_7 : decode cX8_dirtStatement 7 = .ok (.invokevirtual 78, 3) := by decide +kernel
theorem dX8_dirtStatement_10 : decode cX8_dirtStatement 10 = .ok (.ifCond .eq 14, 3) := by decide +kernel
theorem dX8_dirtStatement_13 : decode cX8_dirtStatement 13 = .ok (.aload_n 0, 1) := by decide +kernel
theorem dX8_dirtStatement_14 : decode cX8_dirtStatement 14 = .ok (.getfield 16, 3) := by decide +kernel
theorem dX8_dirtStatement_17 : decode cX8_dirtStatement 17 = .ok (.bipush 8, 2) := by decide +kernel
theorem dX8_dirtStatement_19 : decode cX8_dirtStatement 19 = .ok (.iaload, 1) := by decide +kernel
theorem dX8_dirtStatement_20 : decode cX8_dirtStatement 20 = .ok (.iconst 4, 1) := by decide +kernel
theorem dX8_dirtStatement_21 : decode cX8_dirtStatement 21 = .ok (.if_icmp .ne 5, 3) := by decide +kernel
theorem dX8_dirtStatement_24 : decode cX8_dirtStatement 24 = .ok (.iconst 0, 1) := by decide +kernel
theorem dX8_dirtStatement_25 : decode cX8_dirtStatement 25 = .ok (.ireturn, 1) := by decide +kernel
theorem dX8_dirtStatement_26 : decode cX8_dirtStatement 26 = .ok (.bipush 9, 2) := by decide +kernel
theorem dX8_dirtStatement_28 : decode cX8_dirtStatement 28 = .ok (.iconst 2, 1) := by decide +kernel
theorem dX8_dirtStatement_29 : decode cX8_dirtStatement 29 = .ok (.aload_n 0, 1) := by decide +kernel
theorem dX8_dirtStatement_30 : decode cX8_dirtStatement 30 = .ok (.getfield 16, 3) := by decide +kernel
theorem dX8_dirtStatement_33 : decode cX8_dirtStatement 33 = .ok (.bipush 8, 2) := by decide +kernel
theorem dX8_dirtStatement_35 : decode cX8_dirtStatement 35 = .ok (.iaload, 1) := by decide +kernel
theorem dX8_dirtStatement_36 : decode cX8_dirtStatement 36 = .ok (.imul, 1) := by decide +kernel
theorem dX8_dirtStatement_37 : decode cX8_dirtStatement 37 = .ok (.iadd, 1) := by decide +kernel
theorem dX8_dirtStatement_38 : decode cX8_dirtStatement 38 = .ok (.istore_n 1, 1) := by decide +kernel
theorem dX8_dirtStatement_39 : decode cX8_dirtStatement 39 = .ok (.aload_n 0, 1) := by decide +kernel
theorem dX8_dirtStatement_40 : decode cX8_dirtStatement 40 = .ok (.getfield 16, 3) := by decide +kernel
theorem dX8_dirtStatement_43 : decode cX8_dirtStatement 43 = .ok (.iload_n 1, 1) := by decide +kernel
theorem dX8_dirtStatement_44 : decode cX8_dirtStatement 44 = .ok (.aload_n 0, 1) := by decide +kernel
theorem dX8_dirtStatement_45 : decode cX8_dirtStatement 45 = .ok (.getfield 67, 3) := by decide +kernel
theorem dX8_dirtStatement_48 : decode cX8_dirtStatement 48 = .ok (.iastore, 1) := by decide +kernel
theorem dX8_dirtStatement_49 : decode cX8_dirtStatement 49 = .ok (.aload_n 0, 1) := by decide +kernel
theorem dX8_dirtStatement_50 : decode cX8_dirtStatement 50 = .ok (.iconst 1, 1) := by decide +kernel
theorem dX8_dirtStatement_51 : decode cX8_dirtStatement 51 = .ok (.bipush 99, 2) := by decide +kernel
theorem dX8_dirtStatement_53 : decode cX8_dirtStatement 53 = .ok (.bipush 59, 2) := by decide +kernel
theorem dX8_dirtStatement_55 : decode cX8_dirtStatement 55 = .ok (.invokevirtual 78, 3) := by decide +kernel
theorem dX8_dirtStatement_58 : decode cX8_dirtStatement 58 = .ok (.ifCond .ne 5, 3) := by decide +kernel
theorem dX8_dirtStatement_61 : decode cX8_dirtStatement 61 = .ok (.iconst 0, 1) := by decide +kernel
theorem dX8_dirtStatement_62 : decode cX8_dirtStatement 62 = .ok (.ireturn, 1) := by decide +kernel
theorem dX8_dirtStatement_63 : decode cX8_dirtStatement 63 = .ok (.aload_n 0, 1) := by decide +kernel
theorem dX8_dirtStatement_64 : decode cX8_dirtStatement 64 = .ok (.getfield 16, 3) := by decide +kernel
theorem dX8_dirtStatement_67 : decode cX8_dirtStatement 67 = .ok (.iload_n 1, 1) := by decide +kernel
theorem dX8_dirtStatement_68 : decode cX8_dirtStatement 68 = .ok (.iconst 1, 1) := by decide +kernel
theorem dX8_dirtStatement_69 : decode cX8_dirtStatement 69 = .ok (.iadd, 1) := by decide +kernel
theorem dX8_dirtStatement_70 : decode cX8_dirtStatement 70 = .ok (.aload_n 0, 1) := by decide +kernel
theorem dX8_dirtStatement_71 : decode cX8_dirtStatement 71 = .ok (.getfield 67, 3) := by decide +kernel
theorem dX8_dirtStatement_74 : decode cX8_dirtStatement 74 = .ok (.iastore, 1) := by decide +kernel
theorem dX8_dirtStatement_75 : decode cX8_dirtStatement 75 = .ok (.aload_n 0, 1) := by decide +kernel
theorem dX8_dirtStatement_76 : decode cX8_dirtStatement 76 = .ok (.getfield 16, 3) := by decide +kernel
theorem dX8_dirtStatement_79 : decode cX8_dirtStatement 79 = .ok (.bipush 8, 2) := by decide +kernel
theorem dX8_dirtStatement_81 : decode cX8_dirtStatement 81 = .ok (.dup2, 1) := by decide +kernel
theorem dX8_dirtStatement_82 : decode cX8_dirtStatement 82 = .ok (.iaload, 1) := by decide +kernel
theorem dX8_dirtStatement_83 : decode cX8_dirtStatement 83 = .ok (.iconst 1, 1) := by decide +kernel
theorem dX8_dirtStatement_84 : decode cX8_dirtStatement 84 = .ok (.iadd, 1) := by decide +kernel
theorem dX8_dirtStatement_85 : decode cX8_dirtStatement 85 = .ok (.iastore, 1) := by decide +kernel
theorem dX8_dirtStatement_86 : decode cX8_dirtStatement 86 = .ok (.iconst 1, 1) := by decide +kernel
theorem dX8_dirtStatement_87 : decode cX8_dirtStatement 87 = .ok (.ireturn, 1) := by decide +kernel
theorem dX8_readAll_0 : decode cX8_readAll 0 = .ok (.aload_n 0, 1) := by decide +kernel
theorem dX8_readAll_1 : decode cX8_readAll 1 = .ok (.invokevirtual 31, 3) := by decide +kernel
theorem dX8_readAll_4 : decode cX8_readAll 4 = .ok (.aload_n 0, 1) := by decide +kernel
theorem dX8_readAll_5 : decode cX8_readAll 5 = .ok (.iconst 0, 1) := by decide +kernel
theorem dX8_readAll_6 : decode cX8_readAll 6 = .ok (.putfield 64, 3) := by decide +kernel
theorem dX8_readAll_9 : decode cX8_readAll 9 = .ok (.aload_n 0, 1) := by decide +kernel
theorem dX8_readAll_10 : decode cX8_readAll 10 = .ok (.getfield 64, 3) := by decide +kernel
theorem dX8_readAll_13 : decode cX8_readAll 13 = .ok (.aload_n 0, 1) := by decide +kernel
theorem dX8_readAll_14 : decode cX8_readAll 14 = .ok (.getfield 61, 3) := by decide +kernel
theorem dX8_readAll_17 : decode cX8_readAll 17 = .ok (.if_icmp .ge 20, 3) := by decide +kernel
theorem dX8_readAll_20 : decode cX8_readAll 20 = .ok (.aload_n 0, 1) := by decide +kernel
theorem dX8_readAll_21 : decode cX8_readAll 21 = .ok (.getfield 64, 3) := by decide +kernel
theorem dX8_readAll_24 : decode cX8_readAll 24 = .ok (.istore_n 1, 1) := by decide +kernel
theorem dX8_readAll_25 : decode cX8_readAll 25 = .ok (.aload_n 0, 1) := by decide +kernel
theorem dX8_readAll_26 : decode cX8_readAll 26 = .ok (.invokevirtual 86, 3) := by decide +kernel
theorem dX8_readAll_29 : decode cX8_readAll 29 = .ok (.ifCond .ne 5, 3) := by decide +kernel
theorem dX8_readAll_32 : decode cX8_readAll 32 = .ok (.iload_n 1, 1) := by decide +kernel
theorem dX8_readAll_33 : decode cX8_readAll 33 = .ok (.ireturn, 1) := by decide +kernel
theorem dX8_readAll_34 : decode cX8_readAll 34 = .ok (.goto (-25), 3) := by decide +kernel
theorem dX8_readAll_37 : decode cX8_readAll 37 = .ok (.bipush (-4), 2) := by decide +kernel
theorem dX8_readAll_39 : decode cX8_readAll 39 = .ok (.ireturn, 1) := by decide +kernel
theorem dX8_firstError_0 : decode cX8_firstError 0 = .ok (.aload_n 0, 1) := by decide +kernel
theorem dX8_firstError_1 : decode cX8_firstError 1 = .ok (.invokevirtual 89, 3) := by decide +kernel
theorem dX8_firstError_4 : decode cX8_firstError 4 = .ok (.ireturn, 1) := by decide +kernel
theorem dX8_configure_0 : decode cX8_configure 0 = .ok (.aload_n 0, 1) := by decide +kernel
theorem dX8_configure_1 : decode cX8_configure 1 = .ok (.invokevirtual 89, 3) := by decide +kernel
theorem dX8_configure_4 : decode cX8_configure 4 = .ok (.bipush (-4), 2) := by decide +kernel
theorem dX8_configure_6 : decode cX8_configure 6 = .ok (.if_icmp .ne 10, 3) := by decide +kernel
theorem dX8_configure_9 : decode cX8_configure 9 = .ok (.aload_n 0, 1) := by decide +kernel
theorem dX8_configure_10 : decode cX8_configure 10 = .ok (.getfield 34, 3) := by decide +kernel
theorem dX8_configure_13 : decode cX8_configure 13 = .ok (.ifCond .ne 6, 3) := by decide +kernel
theorem dX8_configure_16 : decode cX8_configure 16 = .ok (.bipush (-2), 2) := by decide +kernel
theorem dX8_configure_18 : decode cX8_configure 18 = .ok (.ireturn, 1) := by decide +kernel
theorem dX8_configure_19 : decode cX8_configure 19 = .ok (.aload_n 0, 1) := by decide +kernel
theorem dX8_configure_20 : decode cX8_configure 20 = .ok (.invokevirtual 41, 3) := by decide +kernel
theorem dX8_configure_23 : decode cX8_configure 23 = .ok (.aload_n 0, 1) := by decide +kernel
theorem dX8_configure_24 : decode cX8_configure 24 = .ok (.getfield 47, 3) := by decide +kernel
theorem dX8_configure_27 : decode cX8_configure 27 = .ok (.ireturn, 1) := by decide +kernel
theorem dX8_keeps_0 : decode cX8_keeps 0 = .ok (.aload_n 0, 1) := by decide +kernel
theorem dX8_keeps_1 : decode cX8_keeps 1 = .ok (.getfield 50, 3) := by decide +kernel
theorem dX8_keeps_4 : decode cX8_keeps 4 = .ok (.bipush 6, 2) := by decide +kernel
theorem dX8_keeps_6 : decode cX8_keeps 6 = .ok (.if_icmp .ne 43, 3) := by decide +kernel
theorem dX8_keeps_9 : decode cX8_keeps 9 = .ok (.iconst 0, 1) := by decide +kernel
theorem dX8_keeps_10 : decode cX8_keeps 10 = .ok (.istore_n 1, 1) := by decide +kernel
theorem dX8_keeps_11 : decode cX8_keeps 11 = .ok (.iload_n 1, 1) := by decide +kernel
theorem dX8_keeps_12 : decode cX8_keeps 12 = .ok (.sipush 210, 3) := by decide +kernel
theorem dX8_keeps_15 : decode cX8_keeps 15 = .ok (.if_icmp .ge 24, 3) := by decide +kernel
theorem dX8_keeps_18 : decode cX8_keeps 18 = .ok (.aload_n 0, 1) := by decide +kernel
theorem dX8_keeps_19 : decode cX8_keeps 19 = .ok (.getfield 28, 3) := by decide +kernel
theorem dX8_keeps_22 : decode cX8_keeps 22 = .ok (.iload_n 1, 1) := by decide +kernel
theorem dX8_keeps_23 : decode cX8_keeps 23 = .ok (.aload_n 0, 1) := by decide +kernel
theorem dX8_keeps_24 : decode cX8_keeps 24 = .ok (.getfield 28, 3) := by decide +kernel
theorem dX8_keeps_27 : decode cX8_keeps 27 = .ok (.bipush 42, 2) := by decide +kernel
theorem dX8_keeps_29 : decode cX8_keeps 29 = .ok (.iload_n 1, 1) := by decide +kernel
theorem dX8_keeps_30 : decode cX8_keeps 30 = .ok (.iadd, 1) := by decide +kernel
theorem dX8_keeps_31 : decode cX8_keeps 31 = .ok (.iaload, 1) := by decide +kernel
theorem dX8_keeps_32 : decode cX8_keeps 32 = .ok (.iastore, 1) := by decide +kernel
theorem dX8_keeps_33 : decode cX8_keeps 33 = .ok (.iinc 1 1, 3) := by decide +kernel
theorem dX8_keeps_36 : decode cX8_keeps 36 = .ok (.goto (-25), 3) := by decide +kernel
theorem dX8_keeps_39 : decode cX8_keeps 39 = .ok (.aload_n 0, 1) := by decide +kernel
theorem dX8_keeps_40 : decode cX8_keeps 40 = .ok (.dup, 1) := by decide +kernel
theorem dX8_keeps_41 : decode cX8_keeps 41 = .ok (.getfield 50, 3) := by decide +kernel
theorem dX8_keeps_44 : decode cX8_keeps 44 = .ok (.iconst 1, 1) := by decide +kernel
theorem dX8_keeps_45 : decode cX8_keeps 45 = .ok (.isub, 1) := by decide +kernel
theorem dX8_keeps_46 : decode cX8_keeps 46 = .ok (.putfield 50, 3) := by decide +kernel
theorem dX8_keeps_49 : decode cX8_keeps 49 = .ok (.iconst 0, 1) := by decide +kernel
theorem dX8_keeps_50 : decode cX8_keeps 50 = .ok (.istore_n 1, 1) := by decide +kernel
theorem dX8_keeps_51 : decode cX8_keeps 51 = .ok (.iload_n 1, 1) := by decide +kernel
theorem dX8_keeps_52 : decode cX8_keeps 52 = .ok (.bipush 42, 2) := by decide +kernel
theorem dX8_keeps_54 : decode cX8_keeps 54 = .ok (.if_icmp .ge 29, 3) := by decide +kernel
theorem dX8_keeps_57 : decode cX8_keeps 57 = .ok (.aload_n 0, 1) := by decide +kernel
theorem dX8_keeps_58 : decode cX8_keeps 58 = .ok (.getfield 28, 3) := by decide +kernel
theorem dX8_keeps_61 : decode cX8_keeps 61 = .ok (.bipush 42, 2) := by decide +kernel
theorem dX8_keeps_63 : decode cX8_keeps 63 = .ok (.aload_n 0, 1) := by decide +kernel
theorem dX8_keeps_64 : decode cX8_keeps 64 = .ok (.getfield 50, 3) := by decide +kernel
theorem dX8_keeps_67 : decode cX8_keeps 67 = .ok (.imul, 1) := by decide +kernel
theorem dX8_keeps_68 : decode cX8_keeps 68 = .ok (.iload_n 1, 1) := by decide +kernel
theorem dX8_keeps_69 : decode cX8_keeps 69 = .ok (.iadd, 1) := by decide +kernel
theorem dX8_keeps_70 : decode cX8_keeps 70 = .ok (.aload_n 0, 1) := by decide +kernel
theorem dX8_keeps_71 : decode cX8_keeps 71 = .ok (.getfield 22, 3) := by decide +kernel
theorem dX8_keeps_74 : decode cX8_keeps 74 = .ok (.iload_n 1, 1) := by decide +kernel
theorem dX8_keeps_75 : decode cX8_keeps 75 = .ok (.iaload, 1) := by decide +kernel
theorem dX8_keeps_76 : decode cX8_keeps 76 = .ok (.iastore, 1) := by decide +kernel
theorem dX8_keeps_77 : decode cX8_keeps 77 = .ok (.iinc 1 1, 3) := by decide +kernel
theorem dX8_keeps_80 : decode cX8_keeps 80 = .ok (.goto (-29), 3) := by decide +kernel
theorem dX8_keeps_83 : decode cX8_keeps 83 = .ok (.aload_n 0, 1) := by decide +kernel
theorem dX8_keeps_84 : decode cX8_keeps 84 = .ok (.dup, 1) := by decide +kernel
theorem dX8_keeps_85 : decode cX8_keeps 85 = .ok (.getfield 50, 3) := by decide +kernel
theorem dX8_keeps_88 : decode cX8_keeps 88 = .ok (.iconst 1, 1) := by decide +kernel
theorem dX8_keeps_89 : decode cX8_keeps 89 = .ok (.iadd, 1) := by decide +kernel
theorem dX8_keeps_90 : decode cX8_keeps 90 = .ok (.putfield 50, 3) := by decide +kernel
theorem dX8_keeps_93 : decode cX8_keeps 93 = .ok (.return_, 1) := by decide +kernel
theorem dX8_undo_0 : decode cX8_undo 0 = .ok (.aload_n 0, 1) := by decide +kernel
theorem dX8_undo_1 : decode cX8_undo 1 = .ok (.getfield 50, 3) := by decide +kernel
theorem dX8_undo_4 : decode cX8_undo 4 = .ok (.ifCond .ne 6, 3) := by decide +kernel
theorem dX8_undo_7 : decode cX8_undo 7 = .ok (.bipush (-2), 2) := by decide +kernel
theorem dX8_undo_9 : decode cX8_undo 9 = .ok (.ireturn, 1) := by decide +kernel
theorem dX8_undo_10 : decode cX8_undo 10 = .ok (.aload_n 0, 1) := by decide +kernel
theorem dX8_undo_11 : decode cX8_undo 11 = .ok (.dup, 1) := by decide +kernel
theorem dX8_undo_12 : decode cX8_undo 12 = .ok (.getfield 50, 3) := by decide +kernel
theorem dX8_undo_15 : decode cX8_undo 15 = .ok (.iconst 1, 1) := by decide +kernel
theorem dX8_undo_16 : decode cX8_undo 16 = .ok (.isub, 1) := by decide +kernel
theorem dX8_undo_17 : decode cX8_undo 17 = .ok (.putfield 50, 3) := by decide +kernel
theorem dX8_undo_20 : decode cX8_undo 20 = .ok (.iconst 0, 1) := by decide +kernel
theorem dX8_undo_21 : decode cX8_undo 21 = .ok (.istore_n 1, 1) := by decide +kernel
theorem dX8_undo_22 : decode cX8_undo 22 = .ok (.iload_n 1, 1) := by decide +kernel
theorem dX8_undo_23 : decode cX8_undo 23 = .ok (.bipush 42, 2) := by decide +kernel
theorem dX8_undo_25 : decode cX8_undo 25 = .ok (.if_icmp .ge 29, 3) := by decide +kernel
theorem dX8_undo_28 : decode cX8_undo 28 = .ok (.aload_n 0, 1) := by decide +kernel
theorem dX8_undo_29 : decode cX8_undo 29 = .ok (.getfield 22, 3) := by decide +kernel
theorem dX8_undo_32 : decode cX8_undo 32 = .ok (.iload_n 1, 1) := by decide +kernel
theorem dX8_undo_33 : decode cX8_undo 33 = .ok (.aload_n 0, 1) := by decide +kernel
theorem dX8_undo_34 : decode cX8_undo 34 = .ok (.getfield 28, 3) := by decide +kernel
theorem dX8_undo_37 : decode cX8_undo 37 = .ok (.bipush 42, 2) := by decide +kernel
theorem dX8_undo_39 : decode cX8_undo 39 = .ok (.aload_n 0, 1) := by decide +kernel
theorem dX8_undo_40 : decode cX8_undo 40 = .ok (.getfield 50, 3) := by decide +kernel
theorem dX8_undo_43 : decode cX8_undo 43 = .ok (.imul, 1) := by decide +kernel
theorem dX8_undo_44 : decode cX8_undo 44 = .ok (.iload_n 1, 1) := by decide +kernel
theorem dX8_undo_45 : decode cX8_undo 45 = .ok (.iadd, 1) := by decide +kernel
theorem dX8_undo_46 : decode cX8_undo 46 = .ok (.iaload, 1) := by decide +kernel
theorem dX8_undo_47 : decode cX8_undo 47 = .ok (.iastore, 1) := by decide +kernel
theorem dX8_undo_48 : decode cX8_undo 48 = .ok (.iinc 1 1, 3) := by decide +kernel
theorem dX8_undo_51 : decode cX8_undo 51 = .ok (.goto (-29), 3) := by decide +kernel
theorem dX8_undo_54 : decode cX8_undo 54 = .ok (.aload_n 0, 1) := by decide +kernel
theorem dX8_undo_55 : decode cX8_undo 55 = .ok (.getfield 50, 3) := by decide +kernel
theorem dX8_undo_58 : decode cX8_undo 58 = .ok (.ireturn, 1) := by decide +kernel
theorem dX8_aside_0 : decode cX8_aside 0 = .ok (.iconst 0, 1) := by decide +kernel
theorem dX8_aside_1 : decode cX8_aside 1 = .ok (.istore_n 1, 1) := by decide +kernel
theorem dX8_aside_2 : decode cX8_aside 2 = .ok (.iload_n 1, 1) := by decide +kernel
theorem dX8_aside_3 : decode cX8_aside 3 = .ok (.bipush 42, 2) := by decide +kernel
theorem dX8_aside_5 : decode cX8_aside 5 = .ok (.if_icmp .ge 21, 3) := by decide +kernel
theorem dX8_aside_8 : decode cX8_aside 8 = .ok (.aload_n 0, 1) := by decide +kernel
theorem dX8_aside_9 : decode cX8_aside 9 = .ok (.getfield 25, 3) := by decide +kernel
theorem dX8_aside_12 : decode cX8_aside 12 = .ok (.iload_n 1, 1) := by decide +kernel
theorem dX8_aside_13 : decode cX8_aside 13 = .ok (.aload_n 0, 1) := by decide +kernel
theorem dX8_aside_14 : decode cX8_aside 14 = .ok (.getfield 22, 3) := by decide +kernel
theorem dX8_aside_17 : decode cX8_aside 17 = .ok (.iload_n 1, 1) := by decide +kernel
theorem dX8_aside_18 : decode cX8_aside 18 = .ok (.iaload, 1) := by decide +kernel
theorem dX8_aside_19 : decode cX8_aside 19 = .ok (.iastore, 1) := by decide +kernel
theorem dX8_aside_20 : decode cX8_aside 20 = .ok (.iinc 1 1, 3) := by decide +kernel
theorem dX8_aside_23 : decode cX8_aside 23 = .ok (.goto (-21), 3) := by decide +kernel
theorem dX8_aside_26 : decode cX8_aside 26 = .ok (.return_, 1) := by decide +kernel
theorem dX8_isDirty_0 : decode cX8_isDirty 0 = .ok (.iconst 0, 1) := by decide +kernel
theorem dX8_isDirty_1 : decode cX8_isDirty 1 = .ok (.istore_n 2, 1) := by decide +kernel
theorem dX8_isDirty_2 : decode cX8_isDirty 2 = .ok (.iconst 0, 1) := by decide +kernel
theorem dX8_isDirty_3 : decode cX8_isDirty 3 = .ok (.istore_n 3, 1) := by decide +kernel
theorem dX8_isDirty_4 : decode cX8_isDirty 4 = .ok (.iload_n 3, 1) := by decide +kernel
theorem dX8_isDirty_5 : decode cX8_isDirty 5 = .ok (.aload_n 0, 1) := by decide +kernel
theorem dX8_isDirty_6 : decode cX8_isDirty 6 = .ok (.getfield 25, 3) := by decide +kernel
theorem dX8_isDirty_9 : decode cX8_isDirty 9 = .ok (.bipush 8, 2) := by decide +kernel
theorem dX8_isDirty_11 : decode cX8_isDirty 11 = .ok (.iaload, 1) := by decide +kernel
theorem dX8_isDirty_12 : decode cX8_isDirty 12 = .ok (.if_icmp .ge 62, 3) := by decide +kernel
theorem dX8_isDirty_15 : decode cX8_isDirty 15 = .ok (.aload_n 0, 1) := by decide +kernel
theorem dX8_isDirty_16 : decode cX8_isDirty 16 = .ok (.getfield 25, 3) := by decide +kernel
theorem dX8_isDirty_19 : decode cX8_isDirty 19 = .ok (.bipush 9, 2) := by decide +kernel
theorem dX8_isDirty_21 : decode cX8_isDirty 21 = .ok (.iconst 2, 1) := by decide +kernel
theorem dX8_isDirty_22 : decode cX8_isDirty 22 = .ok (.iload_n 3, 1) := by decide +kernel
theorem dX8_isDirty_23 : decode cX8_isDirty 23 = .ok (.imul, 1) := by decide +kernel
theorem dX8_isDirty_24 : decode cX8_isDirty 24 = .ok (.iadd, 1) := by decide +kernel
theorem dX8_isDirty_25 : decode cX8_isDirty 25 = .ok (.iaload, 1) := by decide +kernel
theorem dX8_isDirty_26 : decode cX8_isDirty 26 = .ok (.istore 4, 2) := by decide +kernel
theorem dX8_isDirty_28 : decode cX8_isDirty 28 = .ok (.iload_n 2, 1) := by decide +kernel
theorem dX8_isDirty_29 : decode cX8_isDirty 29 = .ok (.ifCond .ne 33, 3) := by decide +kernel
theorem dX8_isDirty_32 : decode cX8_isDirty 32 = .ok (.iload_n 1, 1) := by decide +kernel
theorem dX8_isDirty_33 : decode cX8_isDirty 33 = .ok (.i2l, 1) := by decide +kernel
theorem dX8_isDirty_34 : decode cX8_isDirty 34 = .ok (.iload 4, 2) := by decide +kernel
theorem dX8_isDirty_36 : decode cX8_isDirty 36 = .ok (.i2l, 1) := by decide +kernel
theorem dX8_isDirty_37 : decode cX8_isDirty 37 = .ok (.iload 4, 2) := by decide +kernel
theorem dX8_isDirty_39 : decode cX8_isDirty 39 = .ok (.aload_n 0, 1) := by decide +kernel
theorem dX8_isDirty_40 : decode cX8_isDirty 40 = .ok (.getfield 25, 3) := by decide +kernel
theorem dX8_isDirty_43 : decode cX8_isDirty 43 = .ok (.bipush 9, 2) := by decide +kernel
theorem dX8_isDirty_45 : decode cX8_isDirty 45 = .ok (.iconst 2, 1) := by decide +kernel
theorem dX8_isDirty_46 : decode cX8_isDirty 46 = .ok (.iload_n 3, 1) := by decide +kernel
theorem dX8_isDirty_47 : decode cX8_isDirty 47 = .ok (.imul, 1) := by decide +kernel
theorem dX8_isDirty_48 : decode cX8_isDirty 48 = .ok (.iadd, 1) := by decide +kernel
theorem dX8_isDirty_49 : decode cX8_isDirty 49 = .ok (.iconst 1, 1) := by decide +kernel
theorem dX8_isDirty_50 : decode cX8_isDirty 50 = .ok (.iadd, 1) := by decide +kernel
theorem dX8_isDirty_51 : decode cX8_isDirty 51 = .ok (.iaload, 1) := by decide +kernel
theorem dX8_isDirty_52 : decode cX8_isDirty 52 = .ok (.iadd, 1) := by decide +kernel
theorem dX8_isDirty_53 : decode cX8_isDirty 53 = .ok (.iconst 1, 1) := by decide +kernel
theorem dX8_isDirty_54 : decode cX8_isDirty 54 = .ok (.isub, 1) := by decide +kernel
theorem dX8_isDirty_55 : decode cX8_isDirty 55 = .ok (.i2l, 1) := by decide +kernel
theorem dX8_isDirty_56 : decode cX8_isDirty 56 = .ok (.invokestatic 57, 3) := by decide +kernel
theorem dX8_isDirty_59 : decode cX8_isDirty 59 = .ok (.ifCond .eq 7, 3) := by decide +kernel
theorem dX8_isDirty_62 : decode cX8_isDirty 62 = .ok (.iconst 1, 1) := by decide +kernel
theorem dX8_isDirty_63 : decode cX8_isDirty 63 = .ok (.goto 4, 3) := by decide +kernel
theorem dX8_isDirty_66 : decode cX8_isDirty 66 = .ok (.iconst 0, 1) := by decide +kernel
theorem dX8_isDirty_67 : decode cX8_isDirty 67 = .ok (.istore_n 2, 1) := by decide +kernel
theorem dX8_isDirty_68 : decode cX8_isDirty 68 = .ok (.iinc 3 1, 3) := by decide +kernel
theorem dX8_isDirty_71 : decode cX8_isDirty 71 = .ok (.goto (-67), 3) := by decide +kernel
theorem dX8_isDirty_74 : decode cX8_isDirty 74 = .ok (.iload_n 2, 1) := by decide +kernel
theorem dX8_isDirty_75 : decode cX8_isDirty 75 = .ok (.ireturn, 1) := by decide +kernel
theorem dX8_logs_0 : decode cX8_logs 0 = .ok (.aload_n 0, 1) := by decide +kernel
theorem dX8_logs_1 : decode cX8_logs 1 = .ok (.getfield 25, 3) := by decide +kernel
theorem dX8_logs_4 : decode cX8_logs 4 = .ok (.bipush 17, 2) := by decide +kernel
theorem dX8_logs_6 : decode cX8_logs 6 = .ok (.iaload, 1) := by decide +kernel
theorem dX8_logs_7 : decode cX8_logs 7 = .ok (.bipush 8, 2) := by decide +kernel
theorem dX8_logs_9 : decode cX8_logs 9 = .ok (.if_icmp .ne 46, 3) := by decide +kernel
theorem dX8_logs_12 : decode cX8_logs 12 = .ok (.iconst 0, 1) := by decide +kernel
theorem dX8_logs_13 : decode cX8_logs 13 = .ok (.istore_n 3, 1) := by decide +kernel
theorem dX8_logs_14 : decode cX8_logs 14 = .ok (.iload_n 3, 1) := by decide +kernel
theorem dX8_logs_15 : decode cX8_logs 15 = .ok (.bipush 21, 2) := by decide +kernel
theorem dX8_logs_17 : decode cX8_logs 17 = .ok (.if_icmp .ge 27, 3) := by decide +kernel
theorem dX8_logs_20 : decode cX8_logs 20 = .ok (.aload_n 0, 1) := by decide +kernel
theorem dX8_logs_21 : decode cX8_logs 21 = .ok (.getfield 25, 3) := by decide +kernel
theorem dX8_logs_24 : decode cX8_logs 24 = .ok (.bipush 18, 2) := by decide +kernel
theorem dX8_logs_26 : decode cX8_logs 26 = .ok (.iload_n 3, 1) := by decide +kernel
theorem dX8_logs_27 : decode cX8_logs 27 = .ok (.iadd, 1) := by decide +kernel
theorem dX8_logs_28 : decode cX8_logs 28 = .ok (.aload_n 0, 1) := by decide +kernel
theorem dX8_logs_29 : decode cX8_logs 29 = .ok (.getfield 25, 3) := by decide +kernel
theorem dX8_logs_32 : decode cX8_logs 32 = .ok (.bipush 21, 2) := by decide +kernel
theorem dX8_logs_34 : decode cX8_logs 34 = .ok (.iload_n 3, 1) := by decide +kernel
theorem dX8_logs_35 : decode cX8_logs 35 = .ok (.iadd, 1) := by decide +kernel
theorem dX8_logs_36 : decode cX8_logs 36 = .ok (.iaload, 1) := by decide +kernel
theorem dX8_logs_37 : decode cX8_logs 37 = .ok (.iastore, 1) := by decide +kernel
theorem dX8_logs_38 : decode cX8_logs 38 = .ok (.iinc 3 1, 3) := by decide +kernel
theorem dX8_logs_41 : decode cX8_logs 41 = .ok (.goto (-27), 3) := by decide +kernel
theorem dX8_logs_44 : decode cX8_logs 44 = .ok (.aload_n 0, 1) := by decide +kernel
theorem dX8_logs_45 : decode cX8_logs 45 = .ok (.getfield 25, 3) := by decide +kernel
theorem dX8_logs_48 : decode cX8_logs 48 = .ok (.bipush 17, 2) := by decide +kernel
theorem dX8_logs_50 : decode cX8_logs 50 = .ok (.dup2, 1) := by decide +kernel
theorem dX8_logs_51 : decode cX8_logs 51 = .ok (.iaload, 1) := by decide +kernel
theorem dX8_logs_52 : decode cX8_logs 52 = .ok (.iconst 1, 1) := by decide +kernel
theorem dX8_logs_53 : decode cX8_logs 53 = .ok (.isub, 1) := by decide +kernel
theorem dX8_logs_54 : decode cX8_logs 54 = .ok (.iastore, 1) := by decide +kernel
theorem dX8_logs_55 : decode cX8_logs 55 = .ok (.bipush 18, 2) := by decide +kernel
theorem dX8_logs_57 : decode cX8_logs 57 = .ok (.iconst 3, 1) := by decide +kernel
theorem dX8_logs_58 : decode cX8_logs 58 = .ok (.aload_n 0, 1) := by decide +kernel
theorem dX8_logs_59 : decode cX8_logs 59 = .ok (.getfield 25, 3) := by decide +kernel
theorem dX8_logs_62 : decode cX8_logs 62 = .ok (.bipush 17, 2) := by decide +kernel
theorem dX8_logs_64 : decode cX8_logs 64 = .ok (.iaload, 1) := by decide +kernel
theorem dX8_logs_65 : decode cX8_logs 65 = .ok (.imul, 1) := by decide +kernel
theorem dX8_logs_66 : decode cX8_logs 66 = .ok (.iadd, 1) := by decide +kernel
theorem dX8_logs_67 : decode cX8_logs 67 = .ok (.istore_n 3, 1) := by decide +kernel
theorem dX8_logs_68 : decode cX8_logs 68 = .ok (.aload_n 0, 1) := by decide +kernel
theorem dX8_logs_69 : decode cX8_logs 69 = .ok (.getfield 25, 3) := by decide +kernel
theorem dX8_logs_72 : decode cX8_logs 72 = .ok (.iload_n 3, 1) := by decide +kernel
theorem dX8_logs_73 : decode cX8_logs 73 = .ok (.iload_n 1, 1) := by decide +kernel
theorem dX8_logs_74 : decode cX8_logs 74 = .ok (.iastore, 1) := by decide +kernel
theorem dX8_logs_75 : decode cX8_logs 75 = .ok (.aload_n 0, 1) := by decide +kernel
theorem dX8_logs_76 : decode cX8_logs 76 = .ok (.getfield 25, 3) := by decide +kernel
theorem dX8_logs_79 : decode cX8_logs 79 = .ok (.iload_n 3, 1) := by decide +kernel
theorem dX8_logs_80 : decode cX8_logs 80 = .ok (.iconst 1, 1) := by decide +kernel
theorem dX8_logs_81 : decode cX8_logs 81 = .ok (.iadd, 1) := by decide +kernel
theorem dX8_logs_82 : decode cX8_logs 82 = .ok (.iload_n 2, 1) := by decide +kernel
theorem dX8_logs_83 : decode cX8_logs 83 = .ok (.iastore, 1) := by decide +kernel
theorem dX8_logs_84 : decode cX8_logs 84 = .ok (.aload_n 0, 1) := by decide +kernel
theorem dX8_logs_85 : decode cX8_logs 85 = .ok (.getfield 25, 3) := by decide +kernel
theorem dX8_logs_88 : decode cX8_logs 88 = .ok (.iload_n 3, 1) := by decide +kernel
theorem dX8_logs_89 : decode cX8_logs 89 = .ok (.iconst 2, 1) := by decide +kernel
theorem dX8_logs_90 : decode cX8_logs 90 = .ok (.iadd, 1) := by decide +kernel
theorem dX8_logs_91 : decode cX8_logs 91 = .ok (.aload_n 0, 1) := by decide +kernel
theorem dX8_logs_92 : decode cX8_logs 92 = .ok (.getfield 25, 3) := by decide +kernel
theorem dX8_logs_95 : decode cX8_logs 95 = .ok (.iconst 1, 1) := by decide +kernel
theorem dX8_logs_96 : decode cX8_logs 96 = .ok (.iaload, 1) := by decide +kernel
theorem dX8_logs_97 : decode cX8_logs 97 = .ok (.iastore, 1) := by decide +kernel
theorem dX8_logs_98 : decode cX8_logs 98 = .ok (.aload_n 0, 1) := by decide +kernel
theorem dX8_logs_99 : decode cX8_logs 99 = .ok (.getfield 25, 3) := by decide +kernel
theorem dX8_logs_102 : decode cX8_logs 102 = .ok (.bipush 17, 2) := by decide +kernel
theorem dX8_logs_104 : decode cX8_logs 104 = .ok (.dup2, 1) := by decide +kernel
theorem dX8_logs_105 : decode cX8_logs 105 = .ok (.iaload, 1) := by decide +kernel
theorem dX8_logs_106 : decode cX8_logs 106 = .ok (.iconst 1, 1) := by decide +kernel
theorem dX8_logs_107 : decode cX8_logs 107 = .ok (.iadd, 1) := by decide +kernel
theorem dX8_logs_108 : decode cX8_logs 108 = .ok (.iastore, 1) := by decide +kernel
theorem dX8_logs_109 : decode cX8_logs 109 = .ok (.return_, 1) := by decide +kernel
theorem dX8_isCounted_0 : decode cX8_isCounted 0 = .ok (.aload_n 0, 1) := by decide +kernel
theorem dX8_isCounted_1 : decode cX8_isCounted 1 = .ok (.getfield 25, 3) := by decide +kernel
theorem dX8_isCounted_4 : decode cX8_isCounted 4 = .ok (.iconst 5, 1) := by decide +kernel
theorem dX8_isCounted_5 : decode cX8_isCounted 5 = .ok (.iaload, 1) := by decide +kernel
theorem dX8_isCounted_6 : decode cX8_isCounted 6 = .ok (.iconst 4, 1) := by decide +kernel
theorem dX8_isCounted_7 : decode cX8_isCounted 7 = .ok (.if_icmp .eq 23, 3) := by decide +kernel
theorem dX8_isCounted_10 : decode cX8_isCounted 10 = .ok (.iload_n 1, 1) := by decide +kernel
theorem dX8_isCounted_11 : decode cX8_isCounted 11 = .ok (.iconst 3, 1) := by decide +kernel
theorem dX8_isCounted_12 : decode cX8_isCounted 12 = .ok (.if_icmp .eq 18, 3) := by decide +kernel
theorem dX8_isCounted_15 : decode cX8_isCounted 15 = .ok (.aload_n 0, 1) := by decide +kernel
theorem dX8_isCounted_16 : decode cX8_isCounted 16 = .ok (.getfield 25, 3) := by decide +kernel
theorem dX8_isCounted_19 : decode cX8_isCounted 19 = .ok (.iconst 5, 1) := by decide +kernel
theorem dX8_isCounted_20 : decode cX8_isCounted 20 = .ok (.iaload, 1) := by decide +kernel
theorem dX8_isCounted_21 : decode cX8_isCounted 21 = .ok (.iconst 2, 1) := by decide +kernel
theorem dX8_isCounted_22 : decode cX8_isCounted 22 = .ok (.if_icmp .ne 12, 3) := by decide +kernel
theorem dX8_isCounted_25 : decode cX8_isCounted 25 = .ok (.iload_n 1, 1) := by decide +kernel
theorem dX8_isCounted_26 : decode cX8_isCounted 26 = .ok (.iconst 1, 1) := by decide +kernel
theorem dX8_isCounted_27 : decode cX8_isCounted 27 = .ok (.if_icmp .ne 7, 3) := by decide +kernel
theorem dX8_isCounted_30 : decode cX8_isCounted 30 = .ok (.iconst 1, 1) := by decide +kernel
theorem dX8_isCounted_31 : decode cX8_isCounted 31 = .ok (.goto 4, 3) := by decide +kernel
theorem dX8_isCounted_34 : decode cX8_isCounted 34 = .ok (.iconst 0, 1) := by decide +kernel
theorem dX8_isCounted_35 : decode cX8_isCounted 35 = .ok (.ireturn, 1) := by decide +kernel
theorem dX8_decodes_0 : decode cX8_decodes 0 = .ok (.iconst 4, 1) := by decide +kernel
theorem dX8_decodes_1 : decode cX8_decodes 1 = .ok (.iload_n 1, 1) := by decide +kernel
theorem dX8_decodes_2 : decode cX8_decodes 2 = .ok (.aload_n 0, 1) := by decide +kernel
theorem dX8_decodes_3 : decode cX8_decodes 3 = .ok (.getfield 44, 3) := by decide +kernel
theorem dX8_decodes_6 : decode cX8_decodes 6 = .ok (.irem, 1) := by decide +kernel
theorem dX8_decodes_7 : decode cX8_decodes 7 = .ok (.imul, 1) := by decide +kernel
theorem dX8_decodes_8 : decode cX8_decodes 8 = .ok (.aload_n 0, 1) := by decide +kernel
theorem dX8_decodes_9 : decode cX8_decodes 9 = .ok (.getfield 44, 3) := by decide +kernel
theorem dX8_decodes_12 : decode cX8_decodes 12 = .ok (.idiv, 1) := by decide +kernel
theorem dX8_decodes_13 : decode cX8_decodes 13 = .ok (.istore_n 2, 1) := by decide +kernel
theorem dX8_decodes_14 : decode cX8_decodes 14 = .ok (.iload_n 2, 1) := by decide +kernel
theorem dX8_decodes_15 : decode cX8_decodes 15 = .ok (.aload_n 0, 1) := by decide +kernel
theorem dX8_decodes_16 : decode cX8_decodes 16 = .ok (.getfield 25, 3) := by decide +kernel
theorem dX8_decodes_19 : decode cX8_decodes 19 = .ok (.iconst 2, 1) := by decide +kernel
theorem dX8_decodes_20 : decode cX8_decodes 20 = .ok (.iaload, 1) := by decide +kernel
theorem dX8_decodes_21 : decode cX8_decodes 21 = .ok (.isub, 1) := by decide +kernel
theorem dX8_decodes_22 : decode cX8_decodes 22 = .ok (.iconst 4, 1) := by decide +kernel
theorem dX8_decodes_23 : decode cX8_decodes 23 = .ok (.iadd, 1) := by decide +kernel
theorem dX8_decodes_24 : decode cX8_decodes 24 = .ok (.iconst 4, 1) := by decide +kernel
theorem dX8_decodes_25 : decode cX8_decodes 25 = .ok (.irem, 1) := by decide +kernel
theorem dX8_decodes_26 : decode cX8_decodes 26 = .ok (.istore_n 3, 1) := by decide +kernel
theorem dX8_decodes_27 : decode cX8_decodes 27 = .ok (.iload_n 3, 1) := by decide +kernel
theorem dX8_decodes_28 : decode cX8_decodes 28 = .ok (.iconst 2, 1) := by decide +kernel
theorem dX8_decodes_29 : decode cX8_decodes 29 = .ok (.if_icmp .ne 54, 3) := by decide +kernel
theorem dX8_decodes_32 : decode cX8_decodes 32 = .ok (.aload_n 0, 1) := by decide +kernel
theorem dX8_decodes_33 : decode cX8_decodes 33 = .ok (.getfield 25, 3) := by decide +kernel
theorem dX8_decodes_36 : decode cX8_decodes 36 = .ok (.iconst 3, 1) := by decide +kernel
theorem dX8_decodes_37 : decode cX8_decodes 37 = .ok (.dup2, 1) := by decide +kernel
theorem dX8_decodes_38 : decode cX8_decodes 38 = .ok (.iaload, 1) := by decide +kernel
theorem dX8_decodes_39 : decode cX8_decodes 39 = .ok (.iconst 1, 1) := by decide +kernel
theorem dX8_decodes_40 : decode cX8_decodes 40 = .ok (.iadd, 1) := by decide +kernel
theorem dX8_decodes_41 : decode cX8_decodes 41 = .ok (.iastore, 1) := by decide +kernel
theorem dX8_decodes_42 : decode cX8_decodes 42 = .ok (.aload_n 0, 1) := by decide +kernel
theorem dX8_decodes_43 : decode cX8_decodes 43 = .ok (.getfield 25, 3) := by decide +kernel
theorem dX8_decodes_46 : decode cX8_decodes 46 = .ok (.bipush 17, 2) := by decide +kernel
theorem dX8_decodes_48 : decode cX8_decodes 48 = .ok (.iaload, 1) := by decide +kernel
theorem dX8_decodes_49 : decode cX8_decodes 49 = .ok (.ifCond .eq 25, 3) := by decide +kernel
theorem dX8_decodes_52 : decode cX8_decodes 52 = .ok (.aload_n 0, 1) := by decide +kernel
theorem dX8_decodes_53 : decode cX8_decodes 53 = .ok (.getfield 25, 3) := by decide +kernel
theorem dX8_decodes_56 : decode cX8_decodes 56 = .ok (.bipush 18, 2) := by decide +kernel
theorem dX8_decodes_58 : decode cX8_decodes 58 = .ok (.iconst 3, 1) := by decide +kernel
theorem dX8_decodes_59 : decode cX8_decodes 59 = .ok (.aload_n 0, 1) := by decide +kernel
theorem dX8_decodes_60 : decode cX8_decodes 60 = .ok (.getfield 25, 3) := by decide +kernel
theorem dX8_decodes_63 : decode cX8_decodes 63 = .ok (.bipush 17, 2) := by decide +kernel
theorem dX8_decodes_65 : decode cX8_decodes 65 = .ok (.iaload, 1) := by decide +kernel
theorem dX8_decodes_66 : decode cX8_decodes 66 = .ok (.imul, 1) := by decide +kernel
theorem dX8_decodes_67 : decode cX8_decodes 67 = .ok (.iadd, 1) := by decide +kernel
theorem dX8_decodes_68 : decode cX8_decodes 68 = .ok (.iconst 3, 1) := by decide +kernel
theorem dX8_decodes_69 : decode cX8_decodes 69 = .ok (.isub, 1) := by decide +kernel
theorem dX8_decodes_70 : decode cX8_decodes 70 = .ok (.iaload, 1) := by decide +kernel
theorem dX8_decodes_71 : decode cX8_decodes 71 = .ok (.ifCond .ne 74, 3) := by decide +kernel
theorem dX8_decodes_74 : decode cX8_decodes 74 = .ok (.aload_n 0, 1) := by decide +kernel
theorem dX8_decodes_75 : decode cX8_decodes 75 = .ok (.iconst 1, 1) := by decide +kernel
theorem dX8_decodes_76 : decode cX8_decodes 76 = .ok (.iload_n 1, 1) := by decide +kernel
theorem dX8_decodes_77 : decode cX8_decodes 77 = .ok (.invokevirtual 92, 3) := by decide +kernel
theorem dX8_decodes_80 : decode cX8_decodes 80 = .ok (.goto 65, 3) := by decide +kernel
theorem dX8_decodes_83 : decode cX8_decodes 83 = .ok (.iload_n 3, 1) := by decide +kernel
theorem dX8_decodes_84 : decode cX8_decodes 84 = .ok (.iconst 1, 1) := by decide +kernel
theorem dX8_decodes_85 : decode cX8_decodes 85 = .ok (.if_icmp .ne 33, 3) := by decide +kernel
theorem dX8_decodes_88 : decode cX8_decodes 88 = .ok (.aload_n 0, 1) := by decide +kernel
theorem dX8_decodes_89 : decode cX8_decodes 89 = .ok (.getfield 25, 3) := by decide +kernel
theorem dX8_decodes_92 : decode cX8_decodes 92 = .ok (.iconst 1, 1) := by decide +kernel
theorem dX8_decodes_93 : decode cX8_decodes 93 = .ok (.dup2, 1) := by decide +kernel
theorem dX8_decodes_94 : decode cX8_decodes 94 = .ok (.iaload, 1) := by decide +kernel
theorem dX8_decodes_95 : decode cX8_decodes 95 = .ok (.aload_n 0, 1) := by decide +kernel
theorem dX8_decodes_96 : decode cX8_decodes 96 = .ok (.aload_n 0, 1) := by decide +kernel
theorem dX8_decodes_97 : decode cX8_decodes 97 = .ok (.getfield 25, 3) := by decide +kernel
theorem dX8_decodes_100 : decode cX8_decodes 100 = .ok (.iconst 2, 1) := by decide +kernel
theorem dX8_decodes_101 : decode cX8_decodes 101 = .ok (.iaload, 1) := by decide +kernel
theorem dX8_decodes_102 : decode cX8_decodes 102 = .ok (.invokevirtual 96, 3) := by decide +kernel
theorem dX8_decodes_105 : decode cX8_decodes 105 = .ok (.ifCond .eq 7, 3) := by decide +kernel
theorem dX8_decodes_108 : decode cX8_decodes 108 = .ok (.iconst 1, 1) := by decide +kernel
theorem dX8_decodes_109 : decode cX8_decodes 109 = .ok (.goto 4, 3) := by decide +kernel
theorem dX8_decodes_112 : decode cX8_decodes 112 = .ok (.iconst 0, 1) := by decide +kernel
theorem dX8_decodes_113 : decode cX8_decodes 113 = .ok (.iadd, 1) := by decide +kernel
theorem dX8_decodes_114 : decode cX8_decodes 114 = .ok (.iastore, 1) := by decide +kernel
theorem dX8_decodes_115 : decode cX8_decodes 115 = .ok (.goto 30, 3) := by decide +kernel
theorem dX8_decodes_118 : decode cX8_decodes 118 = .ok (.iload_n 3, 1) := by decide +kernel
theorem dX8_decodes_119 : decode cX8_decodes 119 = .ok (.iconst 3, 1) := by decide +kernel
theorem dX8_decodes_120 : decode cX8_decodes 120 = .ok (.if_icmp .ne 25, 3) := by decide +kernel
theorem dX8_decodes_123 : decode cX8_decodes 123 = .ok (.aload_n 0, 1) := by decide +kernel
theorem dX8_decodes_124 : decode cX8_decodes 124 = .ok (.getfield 25, 3) := by decide +kernel
theorem dX8_decodes_127 : decode cX8_decodes 127 = .ok (.iconst 1, 1) := by decide +kernel
theorem dX8_decodes_128 : decode cX8_decodes 128 = .ok (.dup2, 1) := by decide +kernel
theorem dX8_decodes_129 : decode cX8_decodes 129 = .ok (.iaload, 1) := by decide +kernel
theorem dX8_decodes_130 : decode cX8_decodes 130 = .ok (.aload_n 0, 1) := by decide +kernel
theorem dX8_decodes_131 : decode cX8_decodes 131 = .ok (.iload_n 2, 1) := by decide +kernel
theorem dX8_decodes_132 : decode cX8_decodes 132 = .ok (.invokevirtual 96, 3) := by decide +kernel
theorem dX8_decodes_135 : decode cX8_decodes 135 = .ok (.ifCond .eq 7, 3) := by decide +kernel
theorem dX8_decodes_138 : decode cX8_decodes 138 = .ok (.iconst 1, 1) := by decide +kernel
theorem dX8_decodes_139 : decode cX8_decodes 139 = .ok (.goto 4, 3) := by decide +kernel
theorem dX8_decodes_142 : decode cX8_decodes 142 = .ok (.iconst 0, 1) := by decide +kernel
theorem dX8_decodes_143 : decode cX8_decodes 143 = .ok (.isub, 1) := by decide +kernel
theorem dX8_decodes_144 : decode cX8_decodes 144 = .ok (.iastore, 1) := by decide +kernel
theorem dX8_decodes_145 : decode cX8_decodes 145 = .ok (.aload_n 0, 1) := by decide +kernel
theorem dX8_decodes_146 : decode cX8_decodes 146 = .ok (.getfield 25, 3) := by decide +kernel
theorem dX8_decodes_149 : decode cX8_decodes 149 = .ok (.iconst 2, 1) := by decide +kernel
theorem dX8_decodes_150 : decode cX8_decodes 150 = .ok (.iload_n 2, 1) := by decide +kernel
theorem dX8_decodes_151 : decode cX8_decodes 151 = .ok (.iastore, 1) := by decide +kernel
theorem dX8_decodes_152 : decode cX8_decodes 152 = .ok (.return_, 1) := by decide +kernel
theorem dX8_sampleAt_0 : decode cX8_sampleAt 0 = .ok (.aload_n 0, 1) := by decide +kernel
theorem dX8_sampleAt_1 : decode cX8_sampleAt 1 = .ok (.getfield 25, 3) := by decide +kernel
theorem dX8_sampleAt_4 : decode cX8_sampleAt 4 = .ok (.iconst 4, 1) := by decide +kernel
theorem dX8_sampleAt_5 : decode cX8_sampleAt 5 = .ok (.dup2, 1) := by decide +kernel
theorem dX8_sampleAt_6 : decode cX8_sampleAt 6 = .ok (.iaload, 1) := by decide +kernel
theorem dX8_sampleAt_7 : decode cX8_sampleAt 7 = .ok (.iconst 1, 1) := by decide +kernel
theorem dX8_sampleAt_8 : decode cX8_sampleAt 8 = .ok (.iadd, 1) := by decide +kernel
theorem dX8_sampleAt_9 : decode cX8_sampleAt 9 = .ok (.iastore, 1) := by decide +kernel
theorem dX8_sampleAt_10 : decode cX8_sampleAt 10 = .ok (.aload_n 0, 1) := by decide +kernel
theorem dX8_sampleAt_11 : decode cX8_sampleAt 11 = .ok (.iload_n 2, 1) := by decide +kernel
theorem dX8_sampleAt_12 : decode cX8_sampleAt 12 = .ok (.invokevirtual 100, 3) := by decide +kernel
theorem dX8_sampleAt_15 : decode cX8_sampleAt 15 = .ok (.ifCond .ne 8, 3) := by decide +kernel
theorem dX8_sampleAt_18 : decode cX8_sampleAt 18 = .ok (.aload_n 0, 1) := by decide +kernel
theorem dX8_sampleAt_19 : decode cX8_sampleAt 19 = .ok (.iload_n 2, 1) := by decide +kernel
theorem dX8_sampleAt_20 : decode cX8_sampleAt 20 = .ok (.invokevirtual 103, 3) := by decide +kernel
theorem dX8_sampleAt_23 : decode cX8_sampleAt 23 = .ok (.iconst 0, 1) := by decide +kernel
theorem dX8_sampleAt_24 : decode cX8_sampleAt 24 = .ok (.istore_n 3, 1) := by decide +kernel
theorem dX8_sampleAt_25 : decode cX8_sampleAt 25 = .ok (.iload_n 3, 1) := by decide +kernel
theorem dX8_sampleAt_26 : decode cX8_sampleAt 26 = .ok (.aload_n 0, 1) := by decide +kernel
theorem dX8_sampleAt_27 : decode cX8_sampleAt 27 = .ok (.getfield 47, 3) := by decide +kernel
theorem dX8_sampleAt_30 : decode cX8_sampleAt 30 = .ok (.if_icmp .ge 76, 3) := by decide +kernel
theorem dX8_sampleAt_33 : decode cX8_sampleAt 33 = .ok (.iload_n 1, 1) := by decide +kernel
theorem dX8_sampleAt_34 : decode cX8_sampleAt 34 = .ok (.iload_n 2, 1) := by decide +kernel
theorem dX8_sampleAt_35 : decode cX8_sampleAt 35 = .ok (.if_icmp .ge 12, 3) := by decide +kernel
theorem dX8_sampleAt_38 : decode cX8_sampleAt 38 = .ok (.aload_n 0, 1) := by decide +kernel
theorem dX8_sampleAt_39 : decode cX8_sampleAt 39 = .ok (.getfield 19, 3) := by decide +kernel
theorem dX8_sampleAt_42 : decode cX8_sampleAt 42 = .ok (.iload_n 3, 1) := by decide +kernel
theorem dX8_sampleAt_43 : decode cX8_sampleAt 43 = .ok (.iaload, 1) := by decide +kernel
theorem dX8_sampleAt_44 : decode cX8_sampleAt 44 = .ok (.goto 16, 3) := by decide +kernel
theorem dX8_sampleAt_47 : decode cX8_sampleAt 47 = .ok (.aload_n 0, 1) := by decide +kernel
theorem dX8_sampleAt_48 : decode cX8_sampleAt 48 = .ok (.getfield 19, 3) := by decide +kernel
theorem dX8_sampleAt_51 : decode cX8_sampleAt 51 = .ok (.aload_n 0, 1) := by decide +kernel
theorem dX8_sampleAt_52 : decode cX8_sampleAt 52 = .ok (.getfield 47, 3) := by decide +kernel
theorem dX8_sampleAt_55 : decode cX8_sampleAt 55 = .ok (.iconst 1, 1) := by decide +kernel
theorem dX8_sampleAt_56 : decode cX8_sampleAt 56 = .ok (.isub, 1) := by decide +kernel
theorem dX8_sampleAt_57 : decode cX8_sampleAt 57 = .ok (.iload_n 3, 1) := by decide +kernel
theorem dX8_sampleAt_58 : decode cX8_sampleAt 58 = .ok (.isub, 1) := by decide +kernel
theorem dX8_sampleAt_59 : decode cX8_sampleAt 59 = .ok (.iaload, 1) := by decide +kernel
theorem dX8_sampleAt_60 : decode cX8_sampleAt 60 = .ok (.istore 4, 2) := by decide +kernel
theorem dX8_sampleAt_62 : decode cX8_sampleAt 62 = .ok (.iload_n 1, 1) := by decide +kernel
theorem dX8_sampleAt_63 : decode cX8_sampleAt 63 = .ok (.iload_n 2, 1) := by decide +kernel
theorem dX8_sampleAt_64 : decode cX8_sampleAt 64 = .ok (.if_icmp .ge 18, 3) := by decide +kernel
theorem dX8_sampleAt_67 : decode cX8_sampleAt 67 = .ok (.iload_n 1, 1) := by decide +kernel
theorem dX8_sampleAt_68 : decode cX8_sampleAt 68 = .ok (.iload 4, 2) := by decide +kernel
theorem dX8_sampleAt_70 : decode cX8_sampleAt 70 = .ok (.if_icmp .ge 30, 3) := by decide +kernel
theorem dX8_sampleAt_73 : decode cX8_sampleAt 73 = .ok (.iload 4, 2) := by decide +kernel
theorem dX8_sampleAt_75 : decode cX8_sampleAt 75 = .ok (.iload_n 2, 1) := by decide +kernel
theorem dX8_sampleAt_76 : decode cX8_sampleAt 76 = .ok (.if_icmp .gt 24, 3) := by decide +kernel
theorem dX8_sampleAt_79 : decode cX8_sampleAt 79 = .ok (.goto 15, 3) := by decide +kernel
theorem dX8_sampleAt_82 : decode cX8_sampleAt 82 = .ok (.iload_n 2, 1) := by decide +kernel
theorem dX8_sampleAt_83 : decode cX8_sampleAt 83 = .ok (.iload 4, 2) := by decide +kernel
theorem dX8_sampleAt_85 : decode cX8_sampleAt 85 = .ok (.if_icmp .gt 15, 3) := by decide +kernel
theorem dX8_sampleAt_88 : decode cX8_sampleAt 88 = .ok (.iload 4, 2) := by decide +kernel
theorem dX8_sampleAt_90 : decode cX8_sampleAt 90 = .ok (.iload_n 1, 1) := by decide +kernel
theorem dX8_sampleAt_91 : decode cX8_sampleAt 91 = .ok (.if_icmp .ge 9, 3) := by decide +kernel
theorem dX8_sampleAt_94 : decode cX8_sampleAt 94 = .ok (.aload_n 0, 1) := by decide +kernel
theorem dX8_sampleAt_95 : decode cX8_sampleAt 95 = .ok (.iconst 0, 1) := by decide +kernel
theorem dX8_sampleAt_96 : decode cX8_sampleAt 96 = .ok (.iload_n 2, 1) := by decide +kernel
theorem dX8_sampleAt_97 : decode cX8_sampleAt 97 = .ok (.invokevirtual 92, 3) := by decide +kernel
theorem dX8_sampleAt_100 : decode cX8_sampleAt 100 = .ok (.iinc 3 1, 3) := by decide +kernel
theorem dX8_sampleAt_103 : decode cX8_sampleAt 103 = .ok (.goto (-78), 3) := by decide +kernel
theorem dX8_sampleAt_106 : decode cX8_sampleAt 106 = .ok (.aload_n 0, 1) := by decide +kernel
theorem dX8_sampleAt_107 : decode cX8_sampleAt 107 = .ok (.getfield 25, 3) := by decide +kernel
theorem dX8_sampleAt_110 : decode cX8_sampleAt 110 = .ok (.iconst 0, 1) := by decide +kernel
theorem dX8_sampleAt_111 : decode cX8_sampleAt 111 = .ok (.iload_n 2, 1) := by decide +kernel
theorem dX8_sampleAt_112 : decode cX8_sampleAt 112 = .ok (.iastore, 1) := by decide +kernel
theorem dX8_sampleAt_113 : decode cX8_sampleAt 113 = .ok (.return_, 1) := by decide +kernel
theorem dX8_moves_0 : decode cX8_moves 0 = .ok (.aload_n 0, 1) := by decide +kernel
theorem dX8_moves_1 : decode cX8_moves 1 = .ok (.getfield 25, 3) := by decide +kernel
theorem dX8_moves_4 : decode cX8_moves 4 = .ok (.iconst 0, 1) := by decide +kernel
theorem dX8_moves_5 : decode cX8_moves 5 = .ok (.iaload, 1) := by decide +kernel
theorem dX8_moves_6 : decode cX8_moves 6 = .ok (.iload_n 1, 1) := by decide +kernel
theorem dX8_moves_7 : decode cX8_moves 7 = .ok (.if_icmp .eq 64, 3) := by decide +kernel
theorem dX8_moves_10 : decode cX8_moves 10 = .ok (.aload_n 0, 1) := by decide +kernel
theorem dX8_moves_11 : decode cX8_moves 11 = .ok (.getfield 25, 3) := by decide +kernel
theorem dX8_moves_14 : decode cX8_moves 14 = .ok (.iconst 0, 1) := by decide +kernel
theorem dX8_moves_15 : decode cX8_moves 15 = .ok (.iaload, 1) := by decide +kernel
theorem dX8_moves_16 : decode cX8_moves 16 = .ok (.istore_n 3, 1) := by decide +kernel
theorem dX8_moves_17 : decode cX8_moves 17 = .ok (.iload_n 1, 1) := by decide +kernel
theorem dX8_moves_18 : decode cX8_moves 18 = .ok (.iload_n 3, 1) := by decide +kernel
theorem dX8_moves_19 : decode cX8_moves 19 = .ok (.if_icmp .le 9, 3) := by decide +kernel
theorem dX8_moves_22 : decode cX8_moves 22 = .ok (.iload_n 1, 1) := by decide +kernel
theorem dX8_moves_23 : decode cX8_moves 23 = .ok (.iload_n 3, 1) := by decide +kernel
theorem dX8_moves_24 : decode cX8_moves 24 = .ok (.isub, 1) := by decide +kernel
theorem dX8_moves_25 : decode cX8_moves 25 = .ok (.goto 6, 3) := by decide +kernel
theorem dX8_moves_28 : decode cX8_moves 28 = .ok (.iload_n 3, 1) := by decide +kernel
theorem dX8_moves_29 : decode cX8_moves 29 = .ok (.iload_n 1, 1) := by decide +kernel
theorem dX8_moves_30 : decode cX8_moves 30 = .ok (.isub, 1) := by decide +kernel
theorem dX8_moves_31 : decode cX8_moves 31 = .ok (.istore 4, 2) := by decide +kernel
theorem dX8_moves_33 : decode cX8_moves 33 = .ok (.iload 4, 2) := by decide +kernel
theorem dX8_moves_35 : decode cX8_moves 35 = .ok (.iload_n 2, 1) := by decide +kernel
theorem dX8_moves_36 : decode cX8_moves 36 = .ok (.if_icmp .ge 8, 3) := by decide +kernel
theorem dX8_moves_39 : decode cX8_moves 39 = .ok (.iload 4, 2) := by decide +kernel
theorem dX8_moves_41 : decode cX8_moves 41 = .ok (.goto 4, 3) := by decide +kernel
theorem dX8_moves_44 : decode cX8_moves 44 = .ok (.iload_n 2, 1) := by decide +kernel
theorem dX8_moves_45 : decode cX8_moves 45 = .ok (.istore 5, 2) := by decide +kernel
theorem dX8_moves_47 : decode cX8_moves 47 = .ok (.aload_n 0, 1) := by decide +kernel
theorem dX8_moves_48 : decode cX8_moves 48 = .ok (.iload_n 3, 1) := by decide +kernel
theorem dX8_moves_49 : decode cX8_moves 49 = .ok (.iload_n 1, 1) := by decide +kernel
theorem dX8_moves_50 : decode cX8_moves 50 = .ok (.iload_n 3, 1) := by decide +kernel
theorem dX8_moves_51 : decode cX8_moves 51 = .ok (.if_icmp .le 10, 3) := by decide +kernel
theorem dX8_moves_54 : decode cX8_moves 54 = .ok (.iload_n 3, 1) := by decide +kernel
theorem dX8_moves_55 : decode cX8_moves 55 = .ok (.iload 5, 2) := by decide +kernel
theorem dX8_moves_57 : decode cX8_moves 57 = .ok (.iadd, 1) := by decide +kernel
theorem dX8_moves_58 : decode cX8_moves 58 = .ok (.goto 7, 3) := by decide +kernel
theorem dX8_moves_61 : decode cX8_moves 61 = .ok (.iload_n 3, 1) := by decide +kernel
theorem dX8_moves_62 : decode cX8_moves 62 = .ok (.iload 5, 2) := by decide +kernel
theorem dX8_moves_64 : decode cX8_moves 64 = .ok (.isub, 1) := by decide +kernel
theorem dX8_moves_65 : decode cX8_moves 65 = .ok (.invokevirtual 107, 3) := by decide +kernel
theorem dX8_moves_68 : decode cX8_moves 68 = .ok (.goto (-68), 3) := by decide +kernel
theorem dX8_moves_71 : decode cX8_moves 71 = .ok (.return_, 1) := by decide +kernel
theorem dX8_isMove_0 : decode cX8_isMove 0 = .ok (.iload_n 0, 1) := by decide +kernel
theorem dX8_isMove_1 : decode cX8_isMove 1 = .ok (.i2l, 1) := by decide +kernel
theorem dX8_isMove_2 : decode cX8_isMove 2 = .ok (.lconst 0, 1) := by decide +kernel
theorem dX8_isMove_3 : decode cX8_isMove 3 = .ok (.ldc2_w 110, 3) := by decide +kernel
theorem dX8_isMove_6 : decode cX8_isMove 6 = .ok (.invokestatic 57, 3) := by decide +kernel
theorem dX8_isMove_9 : decode cX8_isMove 9 = .ok (.ifCond .eq 19, 3) := by decide +kernel
theorem dX8_isMove_12 : decode cX8_isMove 12 = .ok (.iload_n 1, 1) := by decide +kernel
theorem dX8_isMove_13 : decode cX8_isMove 13 = .ok (.i2l, 1) := by decide +kernel
theorem dX8_isMove_14 : decode cX8_isMove 14 = .ok (.lconst 1, 1) := by decide +kernel
theorem dX8_isMove_15 : decode cX8_isMove 15 = .ok (.ldc2_w 112, 3) := by decide +kernel
theorem dX8_isMove_18 : decode cX8_isMove 18 = .ok (.invokestatic 57, 3) := by decide +kernel
theorem dX8_isMove_21 : decode cX8_isMove 21 = .ok (.ifCond .eq 7, 3) := by decide +kernel
theorem dX8_isMove_24 : decode cX8_isMove 24 = .ok (.iconst 1, 1) := by decide +kernel
theorem dX8_isMove_25 : decode cX8_isMove 25 = .ok (.goto 4, 3) := by decide +kernel
theorem dX8_isMove_28 : decode cX8_isMove 28 = .ok (.iconst 0, 1) := by decide +kernel
theorem dX8_isMove_29 : decode cX8_isMove 29 = .ok (.ireturn, 1) := by decide +kernel
theorem dX8_expects_0 : decode cX8_expects 0 = .ok (.iload_n 2, 1) := by decide +kernel
theorem dX8_expects_1 : decode cX8_expects 1 = .ok (.iload_n 1, 1) := by decide +kernel
theorem dX8_expects_2 : decode cX8_expects 2 = .ok (.imul, 1) := by decide +kernel
theorem dX8_expects_3 : decode cX8_expects 3 = .ok (.aload_n 0, 1) := by decide +kernel
theorem dX8_expects_4 : decode cX8_expects 4 = .ok (.getfield 44, 3) := by decide +kernel
theorem dX8_expects_7 : decode cX8_expects 7 = .ok (.idiv, 1) := by decide +kernel
theorem dX8_expects_8 : decode cX8_expects 8 = .ok (.ireturn, 1) := by decide +kernel
theorem dX8_slipOf_0 : decode cX8_slipOf 0 = .ok (.aload_n 1, 1) := by decide +kernel
theorem dX8_slipOf_1 : decode cX8_slipOf 1 = .ok (.iconst 1, 1) := by decide +kernel
theorem dX8_slipOf_2 : decode cX8_slipOf 2 = .ok (.iaload, 1) := by decide +kernel
theorem dX8_slipOf_3 : decode cX8_slipOf 3 = .ok (.aload_n 0, 1) := by decide +kernel
theorem dX8_slipOf_4 : decode cX8_slipOf 4 = .ok (.aload_n 1, 1) := by decide +kernel
theorem dX8_slipOf_5 : decode cX8_slipOf 5 = .ok (.iconst 0, 1) := by decide +kernel
theorem dX8_slipOf_6 : decode cX8_slipOf 6 = .ok (.iaload, 1) := by decide +kernel
theorem dX8_slipOf_7 : decode cX8_slipOf 7 = .ok (.aload_n 1, 1) := by decide +kernel
theorem dX8_slipOf_8 : decode cX8_slipOf 8 = .ok (.iconst 5, 1) := by decide +kernel
theorem dX8_slipOf_9 : decode cX8_slipOf 9 = .ok (.iaload, 1) := by decide +kernel
theorem dX8_slipOf_10 : decode cX8_slipOf 10 = .ok (.invokevirtual 114, 3) := by decide +kernel
theorem dX8_slipOf_13 : decode cX8_slipOf 13 = .ok (.isub, 1) := by decide +kernel
theorem dX8_slipOf_14 : decode cX8_slipOf 14 = .ok (.i2l, 1) := by decide +kernel
theorem dX8_slipOf_15 : decode cX8_slipOf 15 = .ok (.lreturn, 1) := by decide +kernel
theorem dX8_moveTo_0 : decode cX8_moveTo 0 = .ok (.iload_n 1, 1) := by decide +kernel
theorem dX8_moveTo_1 : decode cX8_moveTo 1 = .ok (.iload_n 2, 1) := by decide +kernel
theorem dX8_moveTo_2 : decode cX8_moveTo 2 = .ok (.invokestatic 118, 3) := by decide +kernel
theorem dX8_moveTo_5 : decode cX8_moveTo 5 = .ok (.ifCond .ne 5, 3) := by decide +kernel
theorem dX8_moveTo_8 : decode cX8_moveTo 8 = .ok (.iconst (-1), 1) := by decide +kernel
theorem dX8_moveTo_9 : decode cX8_moveTo 9 = .ok (.ireturn, 1) := by decide +kernel
theorem dX8_moveTo_10 : decode cX8_moveTo 10 = .ok (.aload_n 0, 1) := by decide +kernel
theorem dX8_moveTo_11 : decode cX8_moveTo 11 = .ok (.invokevirtual 122, 3) := by decide +kernel
theorem dX8_moveTo_14 : decode cX8_moveTo 14 = .ok (.aload_n 0, 1) := by decide +kernel
theorem dX8_moveTo_15 : decode cX8_moveTo 15 = .ok (.invokevirtual 125, 3) := by decide +kernel
theorem dX8_moveTo_18 : decode cX8_moveTo 18 = .ok (.aload_n 0, 1) := by decide +kernel
theorem dX8_moveTo_19 : decode cX8_moveTo 19 = .ok (.iload_n 1, 1) := by decide +kernel
theorem dX8_moveTo_20 : decode cX8_moveTo 20 = .ok (.iload_n 2, 1) := by decide +kernel
theorem dX8_moveTo_21 : decode cX8_moveTo 21 = .ok (.invokevirtual 128, 3) := by decide +kernel
theorem dX8_moveTo_24 : decode cX8_moveTo 24 = .ok (.aload_n 0, 1) := by decide +kernel
theorem dX8_moveTo_25 : decode cX8_moveTo 25 = .ok (.getfield 25, 3) := by decide +kernel
theorem dX8_moveTo_28 : decode cX8_moveTo 28 = .ok (.iconst 3, 1) := by decide +kernel
theorem dX8_moveTo_29 : decode cX8_moveTo 29 = .ok (.iaload, 1) := by decide +kernel
theorem dX8_moveTo_30 : decode cX8_moveTo 30 = .ok (.aload_n 0, 1) := by decide +kernel
theorem dX8_moveTo_31 : decode cX8_moveTo 31 = .ok (.getfield 22, 3) := by decide +kernel
theorem dX8_moveTo_34 : decode cX8_moveTo 34 = .ok (.iconst 3, 1) := by decide +kernel
theorem dX8_moveTo_35 : decode cX8_moveTo 35 = .ok (.iaload, 1) := by decide +kernel
theorem dX8_moveTo_36 : decode cX8_moveTo 36 = .ok (.isub, 1) := by decide +kernel
theorem dX8_moveTo_37 : decode cX8_moveTo 37 = .ok (.istore_n 3, 1) := by decide +kernel
theorem dX8_moveTo_38 : decode cX8_moveTo 38 = .ok (.aload_n 0, 1) := by decide +kernel
theorem dX8_moveTo_39 : decode cX8_moveTo 39 = .ok (.getfield 22, 3) := by decide +kernel
theorem dX8_moveTo_42 : decode cX8_moveTo 42 = .ok (.astore 4, 2) := by decide +kernel
theorem dX8_moveTo_44 : decode cX8_moveTo 44 = .ok (.aload_n 0, 1) := by decide +kernel
theorem dX8_moveTo_45 : decode cX8_moveTo 45 = .ok (.aload_n 0, 1) := by decide +kernel
theorem dX8_moveTo_46 : decode cX8_moveTo 46 = .ok (.getfield 25, 3) := by decide +kernel
theorem dX8_moveTo_49 : decode cX8_moveTo 49 = .ok (.putfield 22, 3) := by decide +kernel
theorem dX8_moveTo_52 : decode cX8_moveTo 52 = .ok (.aload_n 0, 1) := by decide +kernel
theorem dX8_moveTo_53 : decode cX8_moveTo 53 = .ok (.aload 4, 2) := by decide +kernel
theorem dX8_moveTo_55 : decode cX8_moveTo 55 = .ok (.putfield 25, 3) := by decide +kernel
theorem dX8_moveTo_58 : decode cX8_moveTo 58 = .ok (.iload_n 3, 1) := by decide +kernel
theorem dX8_moveTo_59 : decode cX8_moveTo 59 = .ok (.ireturn, 1) := by decide +kernel
theorem dX8_predictSlip_0 : decode cX8_predictSlip 0 = .ok (.iload_n 1, 1) := by decide +kernel
theorem dX8_predictSlip_1 : decode cX8_predictSlip 1 = .ok (.iload_n 2, 1) := by decide +kernel
theorem dX8_predictSlip_2 : decode cX8_predictSlip 2 = .ok (.invokestatic 118, 3) := by decide +kernel
theorem dX8_predictSlip_5 : decode cX8_predictSlip 5 = .ok (.ifCond .ne 7, 3) := by decide +kernel
theorem dX8_predictSlip_8 : decode cX8_predictSlip 8 = .ok (.ldc2_w 131, 3) := by decide +kernel
theorem dX8_predictSlip_11 : decode cX8_predictSlip 11 = .ok (.lreturn, 1) := by decide +kernel
theorem dX8_predictSlip_12 : decode cX8_predictSlip 12 = .ok (.aload_n 0, 1) := by decide +kernel
theorem dX8_predictSlip_13 : decode cX8_predictSlip 13 = .ok (.invokevirtual 125, 3) := by decide +kernel
theorem dX8_predictSlip_16 : decode cX8_predictSlip 16 = .ok (.aload_n 0, 1) := by decide +kernel
theorem dX8_predictSlip_17 : decode cX8_predictSlip 17 = .ok (.iload_n 1, 1) := by decide +kernel
theorem dX8_predictSlip_18 : decode cX8_predictSlip 18 = .ok (.iload_n 2, 1) := by decide +kernel
theorem dX8_predictSlip_19 : decode cX8_predictSlip 19 = .ok (.invokevirtual 128, 3) := by decide +kernel
theorem dX8_predictSlip_22 : decode cX8_predictSlip 22 = .ok (.aload_n 0, 1) := by decide +kernel
theorem dX8_predictSlip_23 : decode cX8_predictSlip 23 = .ok (.aload_n 0, 1) := by decide +kernel
theorem dX8_predictSlip_24 : decode cX8_predictSlip 24 = .ok (.getfield 25, 3) := by decide +kernel
theorem dX8_predictSlip_27 : decode cX8_predictSlip 27 = .ok (.invokevirtual 133, 3) := by decide +kernel
theorem dX8_predictSlip_30 : decode cX8_predictSlip 30 = .ok (.lreturn, 1) := by decide +kernel
theorem dX8_fastestSafeSpeed_0 : decode cX8_fastestSafeSpeed 0 = .ok (.iload_n 1, 1) := by decide +kernel
theorem dX8_fastestSafeSpeed_1 : decode cX8_fastestSafeSpeed 1 = .ok (.i2l, 1) := by decide +kernel
theorem dX8_fastestSafeSpeed_2 : decode cX8_fastestSafeSpeed 2 = .ok (.lconst 0, 1) := by decide +kernel
theorem dX8_fastestSafeSpeed_3 : decode cX8_fastestSafeSpeed 3 = .ok (.ldc2_w 110, 3) := by decide +kernel
theorem dX8_fastestSafeSpeed_6 : decode cX8_fastestSafeSpeed 6 = .ok (.invokestatic 57, 3) := by decide +kernel
theorem dX8_fastestSafeSpeed_9 : decode cX8_fastestSafeSpeed 9 = .ok (.ifCond .ne 5, 3) := by decide +kernel
theorem dX8_fastestSafeSpeed_12 : decode cX8_fastestSafeSpeed 12 = .ok (.iconst (-1), 1) := by decide +kernel
theorem dX8_fastestSafeSpeed_13 : decode cX8_fastestSafeSpeed 13 = .ok (.ireturn, 1) := by decide +kernel
theorem dX8_fastestSafeSpeed_14 : decode cX8_fastestSafeSpeed 14 = .ok (.bipush 99, 2) := by decide +kernel
theorem dX8_fastestSafeSpeed_16 : decode cX8_fastestSafeSpeed 16 = .ok (.istore_n 2, 1) := by decide +kernel
theorem dX8_fastestSafeSpeed_17 : decode cX8_fastestSafeSpeed 17 = .ok (.iload_n 2, 1) := by decide +kernel
theorem dX8_fastestSafeSpeed_18 : decode cX8_fastestSafeSpeed 18 = .ok (.ifCond .le 56, 3) := by decide +kernel
theorem dX8_fastestSafeSpeed_21 : decode cX8_fastestSafeSpeed 21 = .ok (.aload_n 0, 1) := by decide +kernel
theorem dX8_fastestSafeSpeed_22 : decode cX8_fastestSafeSpeed 22 = .ok (.invokevirtual 125, 3) := by decide +kernel
theorem dX8_fastestSafeSpeed_25 : decode cX8_fastestSafeSpeed 25 = .ok (.aload_n 0, 1) := by decide +kernel
theorem dX8_fastestSafeSpeed_26 : decode cX8_fastestSafeSpeed 26 = .ok (.iload_n 1, 1) := by decide +kernel
theorem dX8_fastestSafeSpeed_27 : decode cX8_fastestSafeSpeed 27 = .ok (.iload_n 2, 1) := by decide +kernel
theorem dX8_fastestSafeSpeed_28 : decode cX8_fastestSafeSpeed 28 = .ok (.invokevirtual 128, 3) := by decide +kernel
theorem dX8_fastestSafeSpeed_31 : decode cX8_fastestSafeSpeed 31 = .ok (.aload_n 0, 1) := by decide +kernel
theorem dX8_fastestSafeSpeed_32 : decode cX8_fastestSafeSpeed 32 = .ok (.getfield 25, 3) := by decide +kernel
theorem dX8_fastestSafeSpeed_35 : decode cX8_fastestSafeSpeed 35 = .ok (.iconst 3, 1) := by decide +kernel
theorem dX8_fastestSafeSpeed_36 : decode cX8_fastestSafeSpeed 36 = .ok (.iaload, 1) := by decide +kernel
theorem dX8_fastestSafeSpeed_37 : decode cX8_fastestSafeSpeed 37 = .ok (.aload_n 0, 1) := by decide +kernel
theorem dX8_fastestSafeSpeed_38 : decode cX8_fastestSafeSpeed 38 = .ok (.getfield 22, 3) := by decide +kernel
theorem dX8_fastestSafeSpeed_41 : decode cX8_fastestSafeSpeed 41 = .ok (.iconst 3, 1) := by decide +kernel
theorem dX8_fastestSafeSpeed_42 : decode cX8_fastestSafeSpeed 42 = .ok (.iaload, 1) := by decide +kernel
theorem dX8_fastestSafeSpeed_43 : decode cX8_fastestSafeSpeed 43 = .ok (.if_icmp .ne 25, 3) := by decide +kernel
theorem dX8_fastestSafeSpeed_46 : decode cX8_fastestSafeSpeed 46 = .ok (.aload_n 0, 1) := by decide +kernel
theorem dX8_fastestSafeSpeed_47 : decode cX8_fastestSafeSpeed 47 = .ok (.aload_n 0, 1) := by decide +kernel
theorem dX8_fastestSafeSpeed_48 : decode cX8_fastestSafeSpeed 48 = .ok (.getfield 25, 3) := by decide +kernel
theorem dX8_fastestSafeSpeed_51 : decode cX8_fastestSafeSpeed 51 = .ok (.invokevirtual 133, 3) := by decide +kernel
theorem dX8_fastestSafeSpeed_54 : decode cX8_fastestSafeSpeed 54 = .ok (.aload_n 0, 1) := by decide +kernel
theorem dX8_fastestSafeSpeed_55 : decode cX8_fastestSafeSpeed 55 = .ok (.aload_n 0, 1) := by decide +kernel
theorem dX8_fastestSafeSpeed_56 : decode cX8_fastestSafeSpeed 56 = .ok (.getfield 22, 3) := by decide +kernel
theorem dX8_fastestSafeSpeed_59 : decode cX8_fastestSafeSpeed 59 = .ok (.invokevirtual 133, 3) := by decide +kernel
theorem dX8_fastestSafeSpeed_62 : decode cX8_fastestSafeSpeed 62 = .ok (.lcmp, 1) := by decide +kernel
theorem dX8_fastestSafeSpeed_63 : decode cX8_fastestSafeSpeed 63 = .ok (.ifCond .ne 5, 3) := by decide +kernel
theorem dX8_fastestSafeSpeed_66 : decode cX8_fastestSafeSpeed 66 = .ok (.iload_n 2, 1) := by decide +kernel
theorem dX8_fastestSafeSpeed_67 : decode cX8_fastestSafeSpeed 67 = .ok (.ireturn, 1) := by decide +kernel
theorem dX8_fastestSafeSpeed_68 : decode cX8_fastestSafeSpeed 68 = .ok (.iinc 2 (-1), 3) := by decide +kernel
theorem dX8_fastestSafeSpeed_71 : decode cX8_fastestSafeSpeed 71 = .ok (.goto (-54), 3) := by decide +kernel
theorem dX8_fastestSafeSpeed_74 : decode cX8_fastestSafeSpeed 74 = .ok (.bipush (-4), 2) := by decide +kernel
theorem dX8_fastestSafeSpeed_76 : decode cX8_fastestSafeSpeed 76 = .ok (.ireturn, 1) := by decide +kernel
theorem dX8_setMode_0 : decode cX8_setMode 0 = .ok (.iload_n 1, 1) := by decide +kernel
theorem dX8_setMode_1 : decode cX8_setMode 1 = .ok (.iconst 1, 1) := by decide +kernel
theorem dX8_setMode_2 : decode cX8_setMode 2 = .ok (.if_icmp .eq 15, 3) := by decide +kernel
theorem dX8_setMode_5 : decode cX8_setMode 5 = .ok (.iload_n 1, 1) := by decide +kernel
theorem dX8_setMode_6 : decode cX8_setMode 6 = .ok (.iconst 2, 1) := by decide +kernel
theorem dX8_setMode_7 : decode cX8_setMode 7 = .ok (.if_icmp .eq 10, 3) := by decide +kernel
theorem dX8_setMode_10 : decode cX8_setMode 10 = .ok (.iload_n 1, 1) := by decide +kernel
theorem dX8_setMode_11 : decode cX8_setMode 11 = .ok (.iconst 4, 1) := by decide +kernel
theorem dX8_setMode_12 : decode cX8_setMode 12 = .ok (.if_icmp .eq 5, 3) := by decide +kernel
theorem dX8_setMode_15 : decode cX8_setMode 15 = .ok (.iconst (-1), 1) := by decide +kernel
theorem dX8_setMode_16 : decode cX8_setMode 16 = .ok (.ireturn, 1) := by decide +kernel
theorem dX8_setMode_17 : decode cX8_setMode 17 = .ok (.aload_n 0, 1) := by decide +kernel
theorem dX8_setMode_18 : decode cX8_setMode 18 = .ok (.invokevirtual 122, 3) := by decide +kernel
theorem dX8_setMode_21 : decode cX8_setMode 21 = .ok (.aload_n 0, 1) := by decide +kernel
theorem dX8_setMode_22 : decode cX8_setMode 22 = .ok (.getfield 22, 3) := by decide +kernel
theorem dX8_setMode_25 : decode cX8_setMode 25 = .ok (.iconst 5, 1) := by decide +kernel
theorem dX8_setMode_26 : decode cX8_setMode 26 = .ok (.iaload, 1) := by decide +kernel
theorem dX8_setMode_27 : decode cX8_setMode 27 = .ok (.istore_n 2, 1) := by decide +kernel
theorem dX8_setMode_28 : decode cX8_setMode 28 = .ok (.aload_n 0, 1) := by decide +kernel
theorem dX8_setMode_29 : decode cX8_setMode 29 = .ok (.getfield 22, 3) := by decide +kernel
theorem dX8_setMode_32 : decode cX8_setMode 32 = .ok (.iconst 5, 1) := by decide +kernel
theorem dX8_setMode_33 : decode cX8_setMode 33 = .ok (.iload_n 1, 1) := by decide +kernel
theorem dX8_setMode_34 : decode cX8_setMode 34 = .ok (.iastore, 1) := by decide +kernel
theorem dX8_setMode_35 : decode cX8_setMode 35 = .ok (.aload_n 0, 1) := by decide +kernel
theorem dX8_setMode_36 : decode cX8_setMode 36 = .ok (.getfield 22, 3) := by decide +kernel
theorem dX8_setMode_39 : decode cX8_setMode 39 = .ok (.iconst 1, 1) := by decide +kernel
theorem dX8_setMode_40 : decode cX8_setMode 40 = .ok (.aload_n 0, 1) := by decide +kernel
theorem dX8_setMode_41 : decode cX8_setMode 41 = .ok (.aload_n 0, 1) := by decide +kernel
theorem dX8_setMode_42 : decode cX8_setMode 42 = .ok (.getfield 22, 3) := by decide +kernel
theorem dX8_setMode_45 : decode cX8_setMode 45 = .ok (.iconst 0, 1) := by decide +kernel
theorem dX8_setMode_46 : decode cX8_setMode 46 = .ok (.iaload, 1) := by decide +kernel
theorem dX8_setMode_47 : decode cX8_setMode 47 = .ok (.iload_n 1, 1) := by decide +kernel
theorem dX8_setMode_48 : decode cX8_setMode 48 = .ok (.invokevirtual 114, 3) := by decide +kernel
theorem dX8_setMode_51 : decode cX8_setMode 51 = .ok (.iastore, 1) := by decide +kernel
theorem dX8_setMode_52 : decode cX8_setMode 52 = .ok (.aload_n 0, 1) := by decide +kernel
theorem dX8_setMode_53 : decode cX8_setMode 53 = .ok (.getfield 22, 3) := by decide +kernel
theorem dX8_setMode_56 : decode cX8_setMode 56 = .ok (.bipush 17, 2) := by decide +kernel
theorem dX8_setMode_58 : decode cX8_setMode 58 = .ok (.iconst 0, 1) := by decide +kernel
theorem dX8_setMode_59 : decode cX8_setMode 59 = .ok (.iastore, 1) := by decide +kernel
theorem dX8_setMode_60 : decode cX8_setMode 60 = .ok (.iload_n 2, 1) := by decide +kernel
theorem dX8_setMode_61 : decode cX8_setMode 61 = .ok (.ireturn, 1) := by decide +kernel
theorem dX8_setIndexGrating_0 : decode cX8_setIndexGrating 0 = .ok (.iload_n 1, 1) := by decide +kernel
theorem dX8_setIndexGrating_1 : decode cX8_setIndexGrating 1 = .ok (.i2l, 1) := by decide +kernel
theorem dX8_setIndexGrating_2 : decode cX8_setIndexGrating 2 = .ok (.ldc2_w 137, 3) := by decide +kernel
theorem dX8_setIndexGrating_5 : decode cX8_setIndexGrating 5 = .ok (.ldc2_w 139, 3) := by decide +kernel
theorem dX8_setIndexGrating_8 : decode cX8_setIndexGrating 8 = .ok (.invokestatic 57, 3) := by decide +kernel
theorem dX8_setIndexGrating_11 : decode cX8_setIndexGrating 11 = .ok (.ifCond .eq 15, 3) := by decide +kernel
theorem dX8_setIndexGrating_14 : decode cX8_setIndexGrating 14 = .ok (.iload_n 2, 1) := by decide +kernel
theorem dX8_setIndexGrating_15 : decode cX8_setIndexGrating 15 = .ok (.i2l, 1) := by decide +kernel
theorem dX8_setIndexGrating_16 : decode cX8_setIndexGrating 16 = .ok (.lconst 0, 1) := by decide +kernel
theorem dX8_setIndexGrating_17 : decode cX8_setIndexGrating 17 = .ok (.ldc2_w 141, 3) := by decide +kernel
theorem dX8_setIndexGrating_20 : decode cX8_setIndexGrating 20 = .ok (.invokestatic 57, 3) := by decide +kernel
theorem dX8_setIndexGrating_23 : decode cX8_setIndexGrating 23 = .ok (.ifCond .ne 5, 3) := by decide +kernel
theorem dX8_setIndexGrating_26 : decode cX8_setIndexGrating 26 = .ok (.iconst (-1), 1) := by decide +kernel
theorem dX8_setIndexGrating_27 : decode cX8_setIndexGrating 27 = .ok (.ireturn, 1) := by decide +kernel
theorem dX8_setIndexGrating_28 : decode cX8_setIndexGrating 28 = .ok (.aload_n 0, 1) := by decide +kernel
theorem dX8_setIndexGrating_29 : decode cX8_setIndexGrating 29 = .ok (.invokevirtual 122, 3) := by decide +kernel
theorem dX8_setIndexGrating_32 : decode cX8_setIndexGrating 32 = .ok (.aload_n 0, 1) := by decide +kernel
theorem dX8_setIndexGrating_33 : decode cX8_setIndexGrating 33 = .ok (.getfield 22, 3) := by decide +kernel
theorem dX8_setIndexGrating_36 : decode cX8_setIndexGrating 36 = .ok (.bipush 6, 2) := by decide +kernel
theorem dX8_setIndexGrating_38 : decode cX8_setIndexGrating 38 = .ok (.iaload, 1) := by decide +kernel
theorem dX8_setIndexGrating_39 : decode cX8_setIndexGrating 39 = .ok (.istore_n 3, 1) := by decide +kernel
theorem dX8_setIndexGrating_40 : decode cX8_setIndexGrating 40 = .ok (.aload_n 0, 1) := by decide +kernel
theorem dX8_setIndexGrating_41 : decode cX8_setIndexGrating 41 = .ok (.getfield 22, 3) := by decide +kernel
theorem dX8_setIndexGrating_44 : decode cX8_setIndexGrating 44 = .ok (.bipush 6, 2) := by decide +kernel
theorem dX8_setIndexGrating_46 : decode cX8_setIndexGrating 46 = .ok (.iload_n 1, 1) := by decide +kernel
theorem dX8_setIndexGrating_47 : decode cX8_setIndexGrating 47 = .ok (.iastore, 1) := by decide +kernel
theorem dX8_setIndexGrating_48 : decode cX8_setIndexGrating 48 = .ok (.aload_n 0, 1) := by decide +kernel
theorem dX8_setIndexGrating_49 : decode cX8_setIndexGrating 49 = .ok (.getfield 22, 3) := by decide +kernel
theorem dX8_setIndexGrating_52 : decode cX8_setIndexGrating 52 = .ok (.bipush 7, 2) := by decide +kernel
theorem dX8_setIndexGrating_54 : decode cX8_setIndexGrating 54 = .ok (.iload_n 2, 1) := by decide +kernel
theorem dX8_setIndexGrating_55 : decode cX8_setIndexGrating 55 = .ok (.iastore, 1) := by decide +kernel
theorem dX8_setIndexGrating_56 : decode cX8_setIndexGrating 56 = .ok (.iload_n 3, 1) := by decide +kernel
theorem dX8_setIndexGrating_57 : decode cX8_setIndexGrating 57 = .ok (.ireturn, 1) := by decide +kernel
theorem dX8_addDirt_0 : decode cX8_addDirt 0 = .ok (.iload_n 1, 1) := by decide +kernel
theorem dX8_addDirt_1 : decode cX8_addDirt 1 = .ok (.i2l, 1) := by decide +kernel
theorem dX8_addDirt_2 : decode cX8_addDirt 2 = .ok (.lconst 0, 1) := by decide +kernel
theorem dX8_addDirt_3 : decode cX8_addDirt 3 = .ok (.ldc2_w 110, 3) := by decide +kernel
theorem dX8_addDirt_6 : decode cX8_addDirt 6 = .ok (.invokestatic 57, 3) := by decide +kernel
theorem dX8_addDirt_9 : decode cX8_addDirt 9 = .ok (.ifCond .eq 15, 3) := by decide +kernel
theorem dX8_addDirt_12 : decode cX8_addDirt 12 = .ok (.iload_n 2, 1) := by decide +kernel
theorem dX8_addDirt_13 : decode cX8_addDirt 13 = .ok (.i2l, 1) := by decide +kernel
theorem dX8_addDirt_14 : decode cX8_addDirt 14 = .ok (.lconst 1, 1) := by decide +kernel
theorem dX8_addDirt_15 : decode cX8_addDirt 15 = .ok (.ldc2_w 112, 3) := by decide +kernel
theorem dX8_addDirt_18 : decode cX8_addDirt 18 = .ok (.invokestatic 57, 3) := by decide +kernel
theorem dX8_addDirt_21 : decode cX8_addDirt 21 = .ok (.ifCond .ne 5, 3) := by decide +kernel
theorem dX8_addDirt_24 : decode cX8_addDirt 24 = .ok (.iconst (-1), 1) := by decide +kernel
theorem dX8_addDirt_25 : decode cX8_addDirt 25 = .ok (.ireturn, 1) := by decide +kernel
theorem dX8_addDirt_26 : decode cX8_addDirt 26 = .ok (.aload_n 0, 1) := by decide +kernel
theorem dX8_addDirt_27 : decode cX8_addDirt 27 = .ok (.getfield 22, 3) := by decide +kernel
theorem dX8_addDirt_30 : decode cX8_addDirt 30 = .ok (.bipush 8, 2) := by decide +kernel
theorem dX8_addDirt_32 : decode cX8_addDirt 32 = .ok (.iaload, 1) := by decide +kernel
theorem dX8_addDirt_33 : decode cX8_addDirt 33 = .ok (.iconst 4, 1) := by decide +kernel
theorem dX8_addDirt_34 : decode cX8_addDirt 34 = .ok (.if_icmp .ne 6, 3) := by decide +kernel
theorem dX8_addDirt_37 : decode cX8_addDirt 37 = .ok (.bipush (-3), 2) := by decide +kernel
theorem dX8_addDirt_39 : decode cX8_addDirt 39 = .ok (.ireturn, 1) := by decide +kernel
theorem dX8_addDirt_40 : decode cX8_addDirt 40 = .ok (.aload_n 0, 1) := by decide +kernel
theorem dX8_addDirt_41 : decode cX8_addDirt 41 = .ok (.invokevirtual 122, 3) := by decide +kernel
theorem dX8_addDirt_44 : decode cX8_addDirt 44 = .ok (.aload_n 0, 1) := by decide +kernel
theorem dX8_addDirt_45 : decode cX8_addDirt 45 = .ok (.getfield 22, 3) := by decide +kernel
theorem dX8_addDirt_48 : decode cX8_addDirt 48 = .ok (.bipush 9, 2) := by decide +kernel
theorem dX8_addDirt_50 : decode cX8_addDirt 50 = .ok (.iconst 2, 1) := by decide +kernel
theorem dX8_addDirt_51 : decode cX8_addDirt 51 = .ok (.aload_n 0, 1) := by decide +kernel
theorem dX8_addDirt_52 : decode cX8_addDirt 52 = .ok (.getfield 22, 3) := by decide +kernel
theorem dX8_addDirt_55 : decode cX8_addDirt 55 = .ok (.bipush 8, 2) := by decide +kernel
theorem dX8_addDirt_57 : decode cX8_addDirt 57 = .ok (.iaload, 1) := by decide +kernel
theorem dX8_addDirt_58 : decode cX8_addDirt 58 = .ok (.imul, 1) := by decide +kernel
theorem dX8_addDirt_59 : decode cX8_addDirt 59 = .ok (.iadd, 1) := by decide +kernel
theorem dX8_addDirt_60 : decode cX8_addDirt 60 = .ok (.iload_n 1, 1) := by decide +kernel
theorem dX8_addDirt_61 : decode cX8_addDirt 61 = .ok (.iastore, 1) := by decide +kernel
theorem dX8_addDirt_62 : decode cX8_addDirt 62 = .ok (.aload_n 0, 1) := by decide +kernel
theorem dX8_addDirt_63 : decode cX8_addDirt 63 = .ok (.getfield 22, 3) := by decide +kernel
theorem dX8_addDirt_66 : decode cX8_addDirt 66 = .ok (.bipush 9, 2) := by decide +kernel
theorem dX8_addDirt_68 : decode cX8_addDirt 68 = .ok (.iconst 2, 1) := by decide +kernel
theorem dX8_addDirt_69 : decode cX8_addDirt 69 = .ok (.aload_n 0, 1) := by decide +kernel
theorem dX8_addDirt_70 : decode cX8_addDirt 70 = .ok (.getfield 22, 3) := by decide +kernel
theorem dX8_addDirt_73 : decode cX8_addDirt 73 = .ok (.bipush 8, 2) := by decide +kernel
theorem dX8_addDirt_75 : decode cX8_addDirt 75 = .ok (.iaload, 1) := by decide +kernel
theorem dX8_addDirt_76 : decode cX8_addDirt 76 = .ok (.imul, 1) := by decide +kernel
theorem dX8_addDirt_77 : decode cX8_addDirt 77 = .ok (.iadd, 1) := by decide +kernel
theorem dX8_addDirt_78 : decode cX8_addDirt 78 = .ok (.iconst 1, 1) := by decide +kernel
theorem dX8_addDirt_79 : decode cX8_addDirt 79 = .ok (.iadd, 1) := by decide +kernel
theorem dX8_addDirt_80 : decode cX8_addDirt 80 = .ok (.iload_n 2, 1) := by decide +kernel
theorem dX8_addDirt_81 : decode cX8_addDirt 81 = .ok (.iastore, 1) := by decide +kernel
theorem dX8_addDirt_82 : decode cX8_addDirt 82 = .ok (.aload_n 0, 1) := by decide +kernel
theorem dX8_addDirt_83 : decode cX8_addDirt 83 = .ok (.getfield 22, 3) := by decide +kernel
theorem dX8_addDirt_86 : decode cX8_addDirt 86 = .ok (.bipush 8, 2) := by decide +kernel
theorem dX8_addDirt_88 : decode cX8_addDirt 88 = .ok (.dup2, 1) := by decide +kernel
theorem dX8_addDirt_89 : decode cX8_addDirt 89 = .ok (.iaload, 1) := by decide +kernel
theorem dX8_addDirt_90 : decode cX8_addDirt 90 = .ok (.iconst 1, 1) := by decide +kernel
theorem dX8_addDirt_91 : decode cX8_addDirt 91 = .ok (.iadd, 1) := by decide +kernel
theorem dX8_addDirt_92 : decode cX8_addDirt 92 = .ok (.iastore, 1) := by decide +kernel
theorem dX8_addDirt_93 : decode cX8_addDirt 93 = .ok (.aload_n 0, 1) := by decide +kernel
theorem dX8_addDirt_94 : decode cX8_addDirt 94 = .ok (.getfield 22, 3) := by decide +kernel
theorem dX8_addDirt_97 : decode cX8_addDirt 97 = .ok (.bipush 8, 2) := by decide +kernel
theorem dX8_addDirt_99 : decode cX8_addDirt 99 = .ok (.iaload, 1) := by decide +kernel
theorem dX8_addDirt_100 : decode cX8_addDirt 100 = .ok (.ireturn, 1) := by decide +kernel
theorem dX8_removeDirt_0 : decode cX8_removeDirt 0 = .ok (.iload_n 1, 1) := by decide +kernel
theorem dX8_removeDirt_1 : decode cX8_removeDirt 1 = .ok (.i2l, 1) := by decide +kernel
theorem dX8_removeDirt_2 : decode cX8_removeDirt 2 = .ok (.lconst 0, 1) := by decide +kernel
theorem dX8_removeDirt_3 : decode cX8_removeDirt 3 = .ok (.aload_n 0, 1) := by decide +kernel
theorem dX8_removeDirt_4 : decode cX8_removeDirt 4 = .ok (.getfield 22, 3) := by decide +kernel
theorem dX8_removeDirt_7 : decode cX8_removeDirt 7 = .ok (.bipush 8, 2) := by decide +kernel
theorem dX8_removeDirt_9 : decode cX8_removeDirt 9 = .ok (.iaload, 1) := by decide +kernel
theorem dX8_removeDirt_10 : decode cX8_removeDirt 10 = .ok (.iconst 1, 1) := by decide +kernel
theorem dX8_removeDirt_11 : decode cX8_removeDirt 11 = .ok (.isub, 1) := by decide +kernel
theorem dX8_removeDirt_12 : decode cX8_removeDirt 12 = .ok (.i2l, 1) := by decide +kernel
theorem dX8_removeDirt_13 : decode cX8_removeDirt 13 = .ok (.invokestatic 57, 3) := by decide +kernel
theorem dX8_removeDirt_16 : decode cX8_removeDirt 16 = .ok (.ifCond .ne 5, 3) := by decide +kernel
theorem dX8_removeDirt_19 : decode cX8_removeDirt 19 = .ok (.iconst (-1), 1) := by decide +kernel
theorem dX8_removeDirt_20 : decode cX8_removeDirt 20 = .ok (.ireturn, 1) := by decide +kernel
theorem dX8_removeDirt_21 : decode cX8_removeDirt 21 = .ok (.aload_n 0, 1) := by decide +kernel
theorem dX8_removeDirt_22 : decode cX8_removeDirt 22 = .ok (.invokevirtual 122, 3) := by decide +kernel
theorem dX8_removeDirt_25 : decode cX8_removeDirt 25 = .ok (.aload_n 0, 1) := by decide +kernel
theorem dX8_removeDirt_26 : decode cX8_removeDirt 26 = .ok (.getfield 22, 3) := by decide +kernel
theorem dX8_removeDirt_29 : decode cX8_removeDirt 29 = .ok (.bipush 9, 2) := by decide +kernel
theorem dX8_removeDirt_31 : decode cX8_removeDirt 31 = .ok (.iconst 2, 1) := by decide +kernel
theorem dX8_removeDirt_32 : decode cX8_removeDirt 32 = .ok (.iload_n 1, 1) := by decide +kernel
theorem dX8_removeDirt_33 : decode cX8_removeDirt 33 = .ok (.imul, 1) := by decide +kernel
theorem dX8_removeDirt_34 : decode cX8_removeDirt 34 = .ok (.iadd, 1) := by decide +kernel
theorem dX8_removeDirt_35 : decode cX8_removeDirt 35 = .ok (.iconst 1, 1) := by decide +kernel
theorem dX8_removeDirt_36 : decode cX8_removeDirt 36 = .ok (.iadd, 1) := by decide +kernel
theorem dX8_removeDirt_37 : decode cX8_removeDirt 37 = .ok (.iaload, 1) := by decide +kernel
theorem dX8_removeDirt_38 : decode cX8_removeDirt 38 = .ok (.istore_n 2, 1) := by decide +kernel
theorem dX8_removeDirt_39 : decode cX8_removeDirt 39 = .ok (.iconst 2, 1) := by decide +kernel
theorem dX8_removeDirt_40 : decode cX8_removeDirt 40 = .ok (.iload_n 1, 1) := by decide +kernel
theorem dX8_removeDirt_41 : decode cX8_removeDirt 41 = .ok (.imul, 1) := by decide +kernel
theorem dX8_removeDirt_42 : decode cX8_removeDirt 42 = .ok (.istore_n 3, 1) := by decide +kernel
theorem dX8_removeDirt_43 : decode cX8_removeDirt 43 = .ok (.iload_n 3, 1) := by decide +kernel
theorem dX8_removeDirt_44 : decode cX8_removeDirt 44 = .ok (.bipush 6, 2) := by decide +kernel
theorem dX8_removeDirt_46 : decode cX8_removeDirt 46 = .ok (.if_icmp .ge 29, 3) := by decide +kernel
theorem dX8_removeDirt_49 : decode cX8_removeDirt 49 = .ok (.aload_n 0, 1) := by decide +kernel
theorem dX8_removeDirt_50 : decode cX8_removeDirt 50 = .ok (.getfield 22, 3) := by decide +kernel
theorem dX8_removeDirt_53 : decode cX8_removeDirt 53 = .ok (.bipush 9, 2) := by decide +kernel
theorem dX8_removeDirt_55 : decode cX8_removeDirt 55 = .ok (.iload_n 3, 1) := by decide +kernel
theorem dX8_removeDirt_56 : decode cX8_removeDirt 56 = .ok (.iadd, 1) := by decide +kernel
theorem dX8_removeDirt_57 : decode cX8_removeDirt 57 = .ok (.aload_n 0, 1) := by decide +kernel
theorem dX8_removeDirt_58 : decode cX8_removeDirt 58 = .ok (.getfield 22, 3) := by decide +kernel
theorem dX8_removeDirt_61 : decode cX8_removeDirt 61 = .ok (.bipush 9, 2) := by decide +kernel
theorem dX8_removeDirt_63 : decode cX8_removeDirt 63 = .ok (.iload_n 3, 1) := by decide +kernel
theorem dX8_removeDirt_64 : decode cX8_removeDirt 64 = .ok (.iadd, 1) := by decide +kernel
theorem dX8_removeDirt_65 : decode cX8_removeDirt 65 = .ok (.iconst 2, 1) := by decide +kernel
theorem dX8_removeDirt_66 : decode cX8_removeDirt 66 = .ok (.iadd, 1) := by decide +kernel
theorem dX8_removeDirt_67 : decode cX8_removeDirt 67 = .ok (.iaload, 1) := by decide +kernel
theorem dX8_removeDirt_68 : decode cX8_removeDirt 68 = .ok (.iastore, 1) := by decide +kernel
theorem dX8_removeDirt_69 : decode cX8_removeDirt 69 = .ok (.iinc 3 1, 3) := by decide +kernel
theorem dX8_removeDirt_72 : decode cX8_removeDirt 72 = .ok (.goto (-29), 3) := by decide +kernel
theorem dX8_removeDirt_75 : decode cX8_removeDirt 75 = .ok (.aload_n 0, 1) := by decide +kernel
theorem dX8_removeDirt_76 : decode cX8_removeDirt 76 = .ok (.getfield 22, 3) := by decide +kernel
theorem dX8_removeDirt_79 : decode cX8_removeDirt 79 = .ok (.bipush 8, 2) := by decide +kernel
theorem dX8_removeDirt_81 : decode cX8_removeDirt 81 = .ok (.dup2, 1) := by decide +kernel
theorem dX8_removeDirt_82 : decode cX8_removeDirt 82 = .ok (.iaload, 1) := by decide +kernel
theorem dX8_removeDirt_83 : decode cX8_removeDirt 83 = .ok (.iconst 1, 1) := by decide +kernel
theorem dX8_removeDirt_84 : decode cX8_removeDirt 84 = .ok (.isub, 1) := by decide +kernel
theorem dX8_removeDirt_85 : decode cX8_removeDirt 85 = .ok (.iastore, 1) := by decide +kernel
theorem dX8_removeDirt_86 : decode cX8_removeDirt 86 = .ok (.iload_n 2, 1) := by decide +kernel
theorem dX8_removeDirt_87 : decode cX8_removeDirt 87 = .ok (.ireturn, 1) := by decide +kernel
theorem dX8_zeroSlip_0 : decode cX8_zeroSlip 0 = .ok (.aload_n 0, 1) := by decide +kernel
theorem dX8_zeroSlip_1 : decode cX8_zeroSlip 1 = .ok (.invokevirtual 122, 3) := by decide +kernel
theorem dX8_zeroSlip_4 : decode cX8_zeroSlip 4 = .ok (.aload_n 0, 1) := by decide +kernel
theorem dX8_zeroSlip_5 : decode cX8_zeroSlip 5 = .ok (.aload_n 0, 1) := by decide +kernel
theorem dX8_zeroSlip_6 : decode cX8_zeroSlip 6 = .ok (.getfield 22, 3) := by decide +kernel
theorem dX8_zeroSlip_9 : decode cX8_zeroSlip 9 = .ok (.iconst 0, 1) := by decide +kernel
theorem dX8_zeroSlip_10 : decode cX8_zeroSlip 10 = .ok (.iaload, 1) := by decide +kernel
theorem dX8_zeroSlip_11 : decode cX8_zeroSlip 11 = .ok (.aload_n 0, 1) := by decide +kernel
theorem dX8_zeroSlip_12 : decode cX8_zeroSlip 12 = .ok (.getfield 22, 3) := by decide +kernel
theorem dX8_zeroSlip_15 : decode cX8_zeroSlip 15 = .ok (.iconst 5, 1) := by decide +kernel
theorem dX8_zeroSlip_16 : decode cX8_zeroSlip 16 = .ok (.iaload, 1) := by decide +kernel
theorem dX8_zeroSlip_17 : decode cX8_zeroSlip 17 = .ok (.invokevirtual 114, 3) := by decide +kernel
theorem dX8_zeroSlip_20 : decode cX8_zeroSlip 20 = .ok (.istore_n 1, 1) := by decide +kernel
theorem dX8_zeroSlip_21 : decode cX8_zeroSlip 21 = .ok (.aload_n 0, 1) := by decide +kernel
theorem dX8_zeroSlip_22 : decode cX8_zeroSlip 22 = .ok (.getfield 22, 3) := by decide +kernel
theorem dX8_zeroSlip_25 : decode cX8_zeroSlip 25 = .ok (.iconst 1, 1) := by decide +kernel
theorem dX8_zeroSlip_26 : decode cX8_zeroSlip 26 = .ok (.iaload, 1) := by decide +kernel
theorem dX8_zeroSlip_27 : decode cX8_zeroSlip 27 = .ok (.iload_n 1, 1) := by decide +kernel
theorem dX8_zeroSlip_28 : decode cX8_zeroSlip 28 = .ok (.if_icmp .ne 7, 3) := by decide +kernel
theorem dX8_zeroSlip_31 : decode cX8_zeroSlip 31 = .ok (.iconst 0, 1) := by decide +kernel
theorem dX8_zeroSlip_32 : decode cX8_zeroSlip 32 = .ok (.goto 4, 3) := by decide +kernel
theorem dX8_zeroSlip_35 : decode cX8_zeroSlip 35 = .ok (.iconst 1, 1) := by decide +kernel
theorem dX8_zeroSlip_36 : decode cX8_zeroSlip 36 = .ok (.istore_n 2, 1) := by decide +kernel
theorem dX8_zeroSlip_37 : decode cX8_zeroSlip 37 = .ok (.aload_n 0, 1) := by decide +kernel
theorem dX8_zeroSlip_38 : decode cX8_zeroSlip 38 = .ok (.getfield 22, 3) := by decide +kernel
theorem dX8_zeroSlip_41 : decode cX8_zeroSlip 41 = .ok (.iconst 1, 1) := by decide +kernel
theorem dX8_zeroSlip_42 : decode cX8_zeroSlip 42 = .ok (.iload_n 1, 1) := by decide +kernel
theorem dX8_zeroSlip_43 : decode cX8_zeroSlip 43 = .ok (.iastore, 1) := by decide +kernel
theorem dX8_zeroSlip_44 : decode cX8_zeroSlip 44 = .ok (.iload_n 2, 1) := by decide +kernel
theorem dX8_zeroSlip_45 : decode cX8_zeroSlip 45 = .ok (.ireturn, 1) := by decide +kernel
theorem dX8_markEvent_0 : decode cX8_markEvent 0 = .ok (.iload_n 1, 1) := by decide +kernel
theorem dX8_markEvent_1 : decode cX8_markEvent 1 = .ok (.istore_n 2, 1) := by decide +kernel
theorem dX8_markEvent_2 : decode cX8_markEvent 2 = .ok (.aload_n 0, 1) := by decide +kernel
theorem dX8_markEvent_3 : decode cX8_markEvent 3 = .ok (.getfield 22, 3) := by decide +kernel
theorem dX8_markEvent_6 : decode cX8_markEvent 6 = .ok (.bipush 17, 2) := by decide +kernel
theorem dX8_markEvent_8 : decode cX8_markEvent 8 = .ok (.iaload, 1) := by decide +kernel
theorem dX8_markEvent_9 : decode cX8_markEvent 9 = .ok (.iconst 1, 1) := by decide +kernel
theorem dX8_markEvent_10 : decode cX8_markEvent 10 = .ok (.isub, 1) := by decide +kernel
theorem dX8_markEvent_11 : decode cX8_markEvent 11 = .ok (.istore_n 3, 1) := by decide +kernel
theorem dX8_markEvent_12 : decode cX8_markEvent 12 = .ok (.iload_n 3, 1) := by decide +kernel
theorem dX8_markEvent_13 : decode cX8_markEvent 13 = .ok (.ifCond .lt 37, 3) := by decide +kernel
theorem dX8_markEvent_16 : decode cX8_markEvent 16 = .ok (.aload_n 0, 1) := by decide +kernel
theorem dX8_markEvent_17 : decode cX8_markEvent 17 = .ok (.getfield 22, 3) := by decide +kernel
theorem dX8_markEvent_20 : decode cX8_markEvent 20 = .ok (.bipush 18, 2) := by decide +kernel
theorem dX8_markEvent_22 : decode cX8_markEvent 22 = .ok (.iconst 3, 1) := by decide +kernel
theorem dX8_markEvent_23 : decode cX8_markEvent 23 = .ok (.iload_n 3, 1) := by decide +kernel
theorem dX8_markEvent_24 : decode cX8_markEvent 24 = .ok (.imul, 1) := by decide +kernel
theorem dX8_markEvent_25 : decode cX8_markEvent 25 = .ok (.iadd, 1) := by decide +kernel
theorem dX8_markEvent_26 : decode cX8_markEvent 26 = .ok (.iaload, 1) := by decide +kernel
theorem dX8_markEvent_27 : decode cX8_markEvent 27 = .ok (.ifCond .ne 17, 3) := by decide +kernel
theorem dX8_markEvent_30 : decode cX8_markEvent 30 = .ok (.iload_n 2, 1) := by decide +kernel
theorem dX8_markEvent_31 : decode cX8_markEvent 31 = .ok (.ifCond .ne 10, 3) := by decide +kernel
theorem dX8_markEvent_34 : decode cX8_markEvent 34 = .ok (.bipush 18, 2) := by decide +kernel
theorem dX8_markEvent_36 : decode cX8_markEvent 36 = .ok (.iconst 3, 1) := by decide +kernel
theorem dX8_markEvent_37 : decode cX8_markEvent 37 = .ok (.iload_n 3, 1) := by decide +kernel
theorem dX8_markEvent_38 : decode cX8_markEvent 38 = .ok (.imul, 1) := by decide +kernel
theorem dX8_markEvent_39 : decode cX8_markEvent 39 = .ok (.iadd, 1) := by decide +kernel
theorem dX8_markEvent_40 : decode cX8_markEvent 40 = .ok (.ireturn, 1) := by decide +kernel
theorem dX8_markEvent_41 : decode cX8_markEvent 41 = .ok (.iinc 2 (-1), 3) := by decide +kernel
theorem dX8_markEvent_44 : decode cX8_markEvent 44 = .ok (.iinc 3 (-1), 3) := by decide +kernel
theorem dX8_markEvent_47 : decode cX8_markEvent 47 = .ok (.goto (-35), 3) := by decide +kernel
theorem dX8_markEvent_50 : decode cX8_markEvent 50 = .ok (.bipush (-4), 2) := by decide +kernel
theorem dX8_markEvent_52 : decode cX8_markEvent 52 = .ok (.ireturn, 1) := by decide +kernel
theorem dX8_apart_0 : decode cX8_apart 0 = .ok (.iload_n 0, 1) := by decide +kernel
theorem dX8_apart_1 : decode cX8_apart 1 = .ok (.iload_n 1, 1) := by decide +kernel
theorem dX8_apart_2 : decode cX8_apart 2 = .ok (.if_icmp .le 9, 3) := by decide +kernel
theorem dX8_apart_5 : decode cX8_apart 5 = .ok (.iload_n 0, 1) := by decide +kernel
theorem dX8_apart_6 : decode cX8_apart 6 = .ok (.iload_n 1, 1) := by decide +kernel
theorem dX8_apart_7 : decode cX8_apart 7 = .ok (.isub, 1) := by decide +kernel
theorem dX8_apart_8 : decode cX8_apart 8 = .ok (.goto 6, 3) := by decide +kernel
theorem dX8_apart_11 : decode cX8_apart 11 = .ok (.iload_n 1, 1) := by decide +kernel
theorem dX8_apart_12 : decode cX8_apart 12 = .ok (.iload_n 0, 1) := by decide +kernel
theorem dX8_apart_13 : decode cX8_apart 13 = .ok (.isub, 1) := by decide +kernel
theorem dX8_apart_14 : decode cX8_apart 14 = .ok (.ireturn, 1) := by decide +kernel
theorem dX8_recover_0 : decode cX8_recover 0 = .ok (.iload_n 1, 1) := by decide +kernel
theorem dX8_recover_1 : decode cX8_recover 1 = .ok (.i2l, 1) := by decide +kernel
theorem dX8_recover_2 : decode cX8_recover 2 = .ok (.lconst 0, 1) := by decide +kernel
theorem dX8_recover_3 : decode cX8_recover 3 = .ok (.ldc2_w 143, 3) := by decide +kernel
theorem dX8_recover_6 : decode cX8_recover 6 = .ok (.invokestatic 57, 3) := by decide +kernel
theorem dX8_recover_9 : decode cX8_recover 9 = .ok (.ifCond .ne 5, 3) := by decide +kernel
theorem dX8_recover_12 : decode cX8_recover 12 = .ok (.iconst (-1), 1) := by decide +kernel
theorem dX8_recover_13 : decode cX8_recover 13 = .ok (.ireturn, 1) := by decide +kernel
theorem dX8_recover_14 : decode cX8_recover 14 = .ok (.aload_n 0, 1) := by decide +kernel
theorem dX8_recover_15 : decode cX8_recover 15 = .ok (.iconst 1, 1) := by decide +kernel
theorem dX8_recover_16 : decode cX8_recover 16 = .ok (.invokevirtual 145, 3) := by decide +kernel
theorem dX8_recover_19 : decode cX8_recover 19 = .ok (.bipush (-4), 2) := by decide +kernel
theorem dX8_recover_21 : decode cX8_recover 21 = .ok (.if_icmp .ne 6, 3) := by decide +kernel
theorem dX8_recover_24 : decode cX8_recover 24 = .ok (.bipush (-2), 2) := by decide +kernel
theorem dX8_recover_26 : decode cX8_recover 26 = .ok (.ireturn, 1) := by decide +kernel
theorem dX8_recover_27 : decode cX8_recover 27 = .ok (.aload_n 0, 1) := by decide +kernel
theorem dX8_recover_28 : decode cX8_recover 28 = .ok (.getfield 22, 3) := by decide +kernel
theorem dX8_recover_31 : decode cX8_recover 31 = .ok (.aload_n 0, 1) := by decide +kernel
theorem dX8_recover_32 : decode cX8_recover 32 = .ok (.iconst 0, 1) := by decide +kernel
theorem dX8_recover_33 : decode cX8_recover 33 = .ok (.invokevirtual 145, 3) := by decide +kernel
theorem dX8_recover_36 : decode cX8_recover 36 = .ok (.iconst 2, 1) := by decide +kernel
theorem dX8_recover_37 : decode cX8_recover 37 = .ok (.iadd, 1) := by decide +kernel
theorem dX8_recover_38 : decode cX8_recover 38 = .ok (.iaload, 1) := by decide +kernel
theorem dX8_recover_39 : decode cX8_recover 39 = .ok (.istore_n 2, 1) := by decide +kernel
theorem dX8_recover_40 : decode cX8_recover 40 = .ok (.aload_n 0, 1) := by decide +kernel
theorem dX8_recover_41 : decode cX8_recover 41 = .ok (.getfield 22, 3) := by decide +kernel
theorem dX8_recover_44 : decode cX8_recover 44 = .ok (.aload_n 0, 1) := by decide +kernel
theorem dX8_recover_45 : decode cX8_recover 45 = .ok (.iconst 1, 1) := by decide +kernel
theorem dX8_recover_46 : decode cX8_recover 46 = .ok (.invokevirtual 145, 3) := by decide +kernel
theorem dX8_recover_49 : decode cX8_recover 49 = .ok (.iconst 2, 1) := by decide +kernel
theorem dX8_recover_50 : decode cX8_recover 50 = .ok (.iadd, 1) := by decide +kernel
theorem dX8_recover_51 : decode cX8_recover 51 = .ok (.iaload, 1) := by decide +kernel
theorem dX8_recover_52 : decode cX8_recover 52 = .ok (.istore_n 3, 1) := by decide +kernel
theorem dX8_recover_53 : decode cX8_recover 53 = .ok (.bipush (-4), 2) := by decide +kernel
theorem dX8_recover_55 : decode cX8_recover 55 = .ok (.istore 4, 2) := by decide +kernel
theorem dX8_recover_57 : decode cX8_recover 57 = .ok (.iconst 0, 1) := by decide +kernel
theorem dX8_recover_58 : decode cX8_recover 58 = .ok (.istore 5, 2) := by decide +kernel
theorem dX8_recover_60 : decode cX8_recover 60 = .ok (.iconst 0, 1) := by decide +kernel
theorem dX8_recover_61 : decode cX8_recover 61 = .ok (.istore 6, 2) := by decide +kernel
theorem dX8_recover_63 : decode cX8_recover 63 = .ok (.iload 6, 2) := by decide +kernel
theorem dX8_recover_65 : decode cX8_recover 65 = .ok (.iconst 1, 1) := by decide +kernel
theorem dX8_recover_66 : decode cX8_recover 66 = .ok (.iadd, 1) := by decide +kernel
theorem dX8_recover_67 : decode cX8_recover 67 = .ok (.aload_n 0, 1) := by decide +kernel
theorem dX8_recover_68 : decode cX8_recover 68 = .ok (.getfield 47, 3) := by decide +kernel
theorem dX8_recover_71 : decode cX8_recover 71 = .ok (.if_icmp .ge 69, 3) := by decide +kernel
theorem dX8_recover_74 : decode cX8_recover 74 = .ok (.aload_n 0, 1) := by decide +kernel
theorem dX8_recover_75 : decode cX8_recover 75 = .ok (.aload_n 0, 1) := by decide +kernel
theorem dX8_recover_76 : decode cX8_recover 76 = .ok (.getfield 19, 3) := by decide +kernel
theorem dX8_recover_79 : decode cX8_recover 79 = .ok (.iload 6, 2) := by decide +kernel
theorem dX8_recover_81 : decode cX8_recover 81 = .ok (.iconst 1, 1) := by decide +kernel
theorem dX8_recover_82 : decode cX8_recover 82 = .ok (.iadd, 1) := by decide +kernel
theorem dX8_recover_83 : decode cX8_recover 83 = .ok (.iaload, 1) := by decide +kernel
theorem dX8_recover_84 : decode cX8_recover 84 = .ok (.aload_n 0, 1) := by decide +kernel
theorem dX8_recover_85 : decode cX8_recover 85 = .ok (.getfield 22, 3) := by decide +kernel
theorem dX8_recover_88 : decode cX8_recover 88 = .ok (.iconst 5, 1) := by decide +kernel
theorem dX8_recover_89 : decode cX8_recover 89 = .ok (.iaload, 1) := by decide +kernel
theorem dX8_recover_90 : decode cX8_recover 90 = .ok (.invokevirtual 114, 3) := by decide +kernel
theorem dX8_recover_93 : decode cX8_recover 93 = .ok (.aload_n 0, 1) := by decide +kernel
theorem dX8_recover_94 : decode cX8_recover 94 = .ok (.aload_n 0, 1) := by decide +kernel
theorem dX8_recover_95 : decode cX8_recover 95 = .ok (.getfield 19, 3) := by decide +kernel
theorem dX8_recover_98 : decode cX8_recover 98 = .ok (.iload 6, 2) := by decide +kernel
theorem dX8_recover_100 : decode cX8_recover 100 = .ok (.iaload, 1) := by decide +kernel
theorem dX8_recover_101 : decode cX8_recover 101 = .ok (.aload_n 0, 1) := by decide +kernel
theorem dX8_recover_102 : decode cX8_recover 102 = .ok (.getfield 22, 3) := by decide +kernel
theorem dX8_recover_105 : decode cX8_recover 105 = .ok (.iconst 5, 1) := by decide +kernel
theorem dX8_recover_106 : decode cX8_recover 106 = .ok (.iaload, 1) := by decide +kernel
theorem dX8_recover_107 : decode cX8_recover 107 = .ok (.invokevirtual 114, 3) := by decide +kernel
theorem dX8_recover_110 : decode cX8_recover 110 = .ok (.isub, 1) := by decide +kernel
theorem dX8_recover_111 : decode cX8_recover 111 = .ok (.istore 7, 2) := by decide +kernel
theorem dX8_recover_113 : decode cX8_recover 113 = .ok (.iload_n 2, 1) := by decide +kernel
theorem dX8_recover_114 : decode cX8_recover 114 = .ok (.iload_n 3, 1) := by decide +kernel
theorem dX8_recover_115 : decode cX8_recover 115 = .ok (.invokestatic 149, 3) := by decide +kernel
theorem dX8_recover_118 : decode cX8_recover 118 = .ok (.iload 7, 2) := by decide +kernel
theorem dX8_recover_120 : decode cX8_recover 120 = .ok (.invokestatic 149, 3) := by decide +kernel
theorem dX8_recover_123 : decode cX8_recover 123 = .ok (.iload_n 1, 1) := by decide +kernel
theorem dX8_recover_124 : decode cX8_recover 124 = .ok (.if_icmp .gt 10, 3) := by decide +kernel
theorem dX8_recover_127 : decode cX8_recover 127 = .ok (.iload 6, 2) := by decide +kernel
theorem dX8_recover_129 : decode cX8_recover 129 = .ok (.istore 4, 2) := by decide +kernel
theorem dX8_recover_131 : decode cX8_recover 131 = .ok (.iinc 5 1, 3) := by decide +kernel
theorem dX8_recover_134 : decode cX8_recover 134 = .ok (.iinc 6 1, 3) := by decide +kernel
theorem dX8_recover_137 : decode cX8_recover 137 = .ok (.goto (-74), 3) := by decide +kernel
theorem dX8_recover_140 : decode cX8_recover 140 = .ok (.iload 5, 2) := by decide +kernel
theorem dX8_recover_142 : decode cX8_recover 142 = .ok (.iconst 1, 1) := by decide +kernel
theorem dX8_recover_143 : decode cX8_recover 143 = .ok (.if_icmp .eq 16, 3) := by decide +kernel
theorem dX8_recover_146 : decode cX8_recover 146 = .ok (.iload 5, 2) := by decide +kernel
theorem dX8_recover_148 : decode cX8_recover 148 = .ok (.ifCond .ne 8, 3) := by decide +kernel
theorem dX8_recover_151 : decode cX8_recover 151 = .ok (.bipush (-4), 2) := by decide +kernel
theorem dX8_recover_153 : decode cX8_recover 153 = .ok (.goto 5, 3) := by decide +kernel
theorem dX8_recover_156 : decode cX8_recover 156 = .ok (.bipush (-5), 2) := by decide +kernel
theorem dX8_recover_158 : decode cX8_recover 158 = .ok (.ireturn, 1) := by decide +kernel
theorem dX8_recover_159 : decode cX8_recover 159 = .ok (.aload_n 0, 1) := by decide +kernel
theorem dX8_recover_160 : decode cX8_recover 160 = .ok (.invokevirtual 122, 3) := by decide +kernel
theorem dX8_recover_163 : decode cX8_recover 163 = .ok (.iload_n 2, 1) := by decide +kernel
theorem dX8_recover_164 : decode cX8_recover 164 = .ok (.iload_n 3, 1) := by decide +kernel
theorem dX8_recover_165 : decode cX8_recover 165 = .ok (.if_icmp .le 10, 3) := by decide +kernel
theorem dX8_recover_168 : decode cX8_recover 168 = .ok (.iload 4, 2) := by decide +kernel
theorem dX8_recover_170 : decode cX8_recover 170 = .ok (.iconst 1, 1) := by decide +kernel
theorem dX8_recover_171 : decode cX8_recover 171 = .ok (.iadd, 1) := by decide +kernel
theorem dX8_recover_172 : decode cX8_recover 172 = .ok (.goto 5, 3) := by decide +kernel
theorem dX8_recover_175 : decode cX8_recover 175 = .ok (.iload 4, 2) := by decide +kernel
theorem dX8_recover_177 : decode cX8_recover 177 = .ok (.istore 6, 2) := by decide +kernel
theorem dX8_recover_179 : decode cX8_recover 179 = .ok (.aload_n 0, 1) := by decide +kernel
theorem dX8_recover_180 : decode cX8_recover 180 = .ok (.getfield 22, 3) := by decide +kernel
theorem dX8_recover_183 : decode cX8_recover 183 = .ok (.iconst 1, 1) := by decide +kernel
theorem dX8_recover_184 : decode cX8_recover 184 = .ok (.dup2, 1) := by decide +kernel
theorem dX8_recover_185 : decode cX8_recover 185 = .ok (.iaload, 1) := by decide +kernel
theorem dX8_recover_186 : decode cX8_recover 186 = .ok (.aload_n 0, 1) := by decide +kernel
theorem dX8_recover_187 : decode cX8_recover 187 = .ok (.aload_n 0, 1) := by decide +kernel
theorem dX8_recover_188 : decode cX8_recover 188 = .ok (.getfield 19, 3) := by decide +kernel
theorem dX8_recover_191 : decode cX8_recover 191 = .ok (.iload 6, 2) := by decide +kernel
theorem dX8_recover_193 : decode cX8_recover 193 = .ok (.iaload, 1) := by decide +kernel
theorem dX8_recover_194 : decode cX8_recover 194 = .ok (.aload_n 0, 1) := by decide +kernel
theorem dX8_recover_195 : decode cX8_recover 195 = .ok (.getfield 22, 3) := by decide +kernel
theorem dX8_recover_198 : decode cX8_recover 198 = .ok (.iconst 5, 1) := by decide +kernel
theorem dX8_recover_199 : decode cX8_recover 199 = .ok (.iaload, 1) := by decide +kernel
theorem dX8_recover_200 : decode cX8_recover 200 = .ok (.invokevirtual 114, 3) := by decide +kernel
theorem dX8_recover_203 : decode cX8_recover 203 = .ok (.iload_n 2, 1) := by decide +kernel
theorem dX8_recover_204 : decode cX8_recover 204 = .ok (.isub, 1) := by decide +kernel
theorem dX8_recover_205 : decode cX8_recover 205 = .ok (.iadd, 1) := by decide +kernel
theorem dX8_recover_206 : decode cX8_recover 206 = .ok (.iastore, 1) := by decide +kernel
theorem dX8_recover_207 : decode cX8_recover 207 = .ok (.iload 6, 2) := by decide +kernel
theorem dX8_recover_209 : decode cX8_recover 209 = .ok (.ireturn, 1) := by decide +kernel
theorem dX8_position_0 : decode cX8_position 0 = .ok (.aload_n 0, 1) := by decide +kernel
theorem dX8_position_1 : decode cX8_position 1 = .ok (.getfield 22, 3) := by decide +kernel
theorem dX8_position_4 : decode cX8_position 4 = .ok (.iconst 0, 1) := by decide +kernel
theorem dX8_position_5 : decode cX8_position 5 = .ok (.iaload, 1) := by decide +kernel
theorem dX8_position_6 : decode cX8_position 6 = .ok (.ireturn, 1) := by decide +kernel
theorem dX8_counter_0 : decode cX8_counter 0 = .ok (.aload_n 0, 1) := by decide +kernel
theorem dX8_counter_1 : decode cX8_counter 1 = .ok (.getfield 22, 3) := by decide +kernel
theorem dX8_counter_4 : decode cX8_counter 4 = .ok (.iconst 1, 1) := by decide +kernel
theorem dX8_counter_5 : decode cX8_counter 5 = .ok (.iaload, 1) := by decide +kernel
theorem dX8_counter_6 : decode cX8_counter 6 = .ok (.i2l, 1) := by decide +kernel
theorem dX8_counter_7 : decode cX8_counter 7 = .ok (.lreturn, 1) := by decide +kernel
theorem dX8_slip_0 : decode cX8_slip 0 = .ok (.aload_n 0, 1) := by decide +kernel
theorem dX8_slip_1 : decode cX8_slip 1 = .ok (.aload_n 0, 1) := by decide +kernel
theorem dX8_slip_2 : decode cX8_slip 2 = .ok (.getfield 22, 3) := by decide +kernel
theorem dX8_slip_5 : decode cX8_slip 5 = .ok (.invokevirtual 133, 3) := by decide +kernel
theorem dX8_slip_8 : decode cX8_slip 8 = .ok (.lreturn, 1) := by decide +kernel
theorem dX8_misses_0 : decode cX8_misses 0 = .ok (.aload_n 0, 1) := by decide +kernel
theorem dX8_misses_1 : decode cX8_misses 1 = .ok (.getfield 22, 3) := by decide +kernel
theorem dX8_misses_4 : decode cX8_misses 4 = .ok (.iconst 3, 1) := by decide +kernel
theorem dX8_misses_5 : decode cX8_misses 5 = .ok (.iaload, 1) := by decide +kernel
theorem dX8_misses_6 : decode cX8_misses 6 = .ok (.ireturn, 1) := by decide +kernel
theorem dX8_samples_0 : decode cX8_samples 0 = .ok (.aload_n 0, 1) := by decide +kernel
theorem dX8_samples_1 : decode cX8_samples 1 = .ok (.getfield 22, 3) := by decide +kernel
theorem dX8_samples_4 : decode cX8_samples 4 = .ok (.iconst 4, 1) := by decide +kernel
theorem dX8_samples_5 : decode cX8_samples 5 = .ok (.iaload, 1) := by decide +kernel
theorem dX8_samples_6 : decode cX8_samples 6 = .ok (.ireturn, 1) := by decide +kernel
theorem dX8_missRateBits_0 : decode cX8_missRateBits 0 = .ok (.aload_n 0, 1) := by decide +kernel
theorem dX8_missRateBits_1 : decode cX8_missRateBits 1 = .ok (.getfield 22, 3) := by decide +kernel
theorem dX8_missRateBits_4 : decode cX8_missRateBits 4 = .ok (.iconst 4, 1) := by decide +kernel
theorem dX8_missRateBits_5 : decode cX8_missRateBits 5 = .ok (.iaload, 1) := by decide +kernel
theorem dX8_missRateBits_6 : decode cX8_missRateBits 6 = .ok (.ifCond .ne 8, 3) := by decide +kernel
theorem dX8_missRateBits_9 : decode cX8_missRateBits 9 = .ok (.bipush (-4), 2) := by decide +kernel
theorem dX8_missRateBits_11 : decode cX8_missRateBits 11 = .ok (.goto 21, 3) := by decide +kernel
theorem dX8_missRateBits_14 : decode cX8_missRateBits 14 = .ok (.aload_n 0, 1) := by decide +kernel
theorem dX8_missRateBits_15 : decode cX8_missRateBits 15 = .ok (.getfield 22, 3) := by decide +kernel
theorem dX8_missRateBits_18 : decode cX8_missRateBits 18 = .ok (.iconst 3, 1) := by decide +kernel
theorem dX8_missRateBits_19 : decode cX8_missRateBits 19 = .ok (.iaload, 1) := by decide +kernel
theorem dX8_missRateBits_20 : decode cX8_missRateBits 20 = .ok (.i2f, 1) := by decide +kernel
theorem dX8_missRateBits_21 : decode cX8_missRateBits 21 = .ok (.aload_n 0, 1) := by decide +kernel
theorem dX8_missRateBits_22 : decode cX8_missRateBits 22 = .ok (.getfield 22, 3) := by decide +kernel
theorem dX8_missRateBits_25 : decode cX8_missRateBits 25 = .ok (.iconst 4, 1) := by decide +kernel
theorem dX8_missRateBits_26 : decode cX8_missRateBits 26 = .ok (.iaload, 1) := by decide +kernel
theorem dX8_missRateBits_27 : decode cX8_missRateBits 27 = .ok (.i2f, 1) := by decide +kernel
theorem dX8_missRateBits_28 : decode cX8_missRateBits 28 = .ok (.fdiv, 1) := by decide +kernel
theorem dX8_missRateBits_29 : decode cX8_missRateBits 29 = .ok (.invokestatic 152, 3) := by decide +kernel
theorem dX8_missRateBits_32 : decode cX8_missRateBits 32 = .ok (.ireturn, 1) := by decide +kernel
theorem dX8_markPosition_0 : decode cX8_markPosition 0 = .ok (.iload_n 1, 1) := by decide +kernel
theorem dX8_markPosition_1 : decode cX8_markPosition 1 = .ok (.i2l, 1) := by decide +kernel
theorem dX8_markPosition_2 : decode cX8_markPosition 2 = .ok (.lconst 0, 1) := by decide +kernel
theorem dX8_markPosition_3 : decode cX8_markPosition 3 = .ok (.aload_n 0, 1) := by decide +kernel
theorem dX8_markPosition_4 : decode cX8_markPosition 4 = .ok (.getfield 47, 3) := by decide +kernel
theorem dX8_markPosition_7 : decode cX8_markPosition 7 = .ok (.iconst 1, 1) := by decide +kernel
theorem dX8_markPosition_8 : decode cX8_markPosition 8 = .ok (.isub, 1) := by decide +kernel
theorem dX8_markPosition_9 : decode cX8_markPosition 9 = .ok (.i2l, 1) := by decide +kernel
theorem dX8_markPosition_10 : decode cX8_markPosition 10 = .ok (.invokestatic 57, 3) := by decide +kernel
theorem dX8_markPosition_13 : decode cX8_markPosition 13 = .ok (.ifCond .eq 12, 3) := by decide +kernel
theorem dX8_markPosition_16 : decode cX8_markPosition 16 = .ok (.aload_n 0, 1) := by decide +kernel
theorem dX8_markPosition_17 : decode cX8_markPosition 17 = .ok (.getfield 19, 3) := by decide +kernel
theorem dX8_markPosition_20 : decode cX8_markPosition 20 = .ok (.iload_n 1, 1) := by decide +kernel
theorem dX8_markPosition_21 : decode cX8_markPosition 21 = .ok (.iaload, 1) := by decide +kernel
theorem dX8_markPosition_22 : decode cX8_markPosition 22 = .ok (.goto 4, 3) := by decide +kernel
theorem dX8_markPosition_25 : decode cX8_markPosition 25 = .ok (.iconst (-1), 1) := by decide +kernel
theorem dX8_markPosition_26 : decode cX8_markPosition 26 = .ok (.ireturn, 1) := by decide +kernel
theorem dX8_expectedCount_0 : decode cX8_expectedCount 0 = .ok (.iload_n 1, 1) := by decide +kernel
theorem dX8_expectedCount_1 : decode cX8_expectedCount 1 = .ok (.i2l, 1) := by decide +kernel
theorem dX8_expectedCount_2 : decode cX8_expectedCount 2 = .ok (.lconst 0, 1) := by decide +kernel
theorem dX8_expectedCount_3 : decode cX8_expectedCount 3 = .ok (.ldc2_w 110, 3) := by decide +kernel
theorem dX8_expectedCount_6 : decode cX8_expectedCount 6 = .ok (.invokestatic 57, 3) := by decide +kernel
theorem dX8_expectedCount_9 : decode cX8_expectedCount 9 = .ok (.ifCond .eq 17, 3) := by decide +kernel
theorem dX8_expectedCount_12 : decode cX8_expectedCount 12 = .ok (.aload_n 0, 1) := by decide +kernel
theorem dX8_expectedCount_13 : decode cX8_expectedCount 13 = .ok (.iload_n 1, 1) := by decide +kernel
theorem dX8_expectedCount_14 : decode cX8_expectedCount 14 = .ok (.aload_n 0, 1) := by decide +kernel
theorem dX8_expectedCount_15 : decode cX8_expectedCount 15 = .ok (.getfield 22, 3) := by decide +kernel
theorem dX8_expectedCount_18 : decode cX8_expectedCount 18 = .ok (.iconst 5, 1) := by decide +kernel
theorem dX8_expectedCount_19 : decode cX8_expectedCount 19 = .ok (.iaload, 1) := by decide +kernel
theorem dX8_expectedCount_20 : decode cX8_expectedCount 20 = .ok (.invokevirtual 114, 3) := by decide +kernel
theorem dX8_expectedCount_23 : decode cX8_expectedCount 23 = .ok (.goto 4, 3) := by decide +kernel
theorem dX8_expectedCount_26 : decode cX8_expectedCount 26 = .ok (.iconst (-1), 1) := by decide +kernel
theorem dX8_expectedCount_27 : decode cX8_expectedCount 27 = .ok (.ireturn, 1) := by decide +kernel
theorem dX8_isEvent_0 : decode cX8_isEvent 0 = .ok (.iload_n 1, 1) := by decide +kernel
theorem dX8_isEvent_1 : decode cX8_isEvent 1 = .ok (.i2l, 1) := by decide +kernel
theorem dX8_isEvent_2 : decode cX8_isEvent 2 = .ok (.lconst 0, 1) := by decide +kernel
theorem dX8_isEvent_3 : decode cX8_isEvent 3 = .ok (.aload_n 0, 1) := by decide +kernel
theorem dX8_isEvent_4 : decode cX8_isEvent 4 = .ok (.getfield 22, 3) := by decide +kernel
theorem dX8_isEvent_7 : decode cX8_isEvent 7 = .ok (.bipush 17, 2) := by decide +kernel
theorem dX8_isEvent_9 : decode cX8_isEvent 9 = .ok (.iaload, 1) := by decide +kernel
theorem dX8_isEvent_10 : decode cX8_isEvent 10 = .ok (.iconst 1, 1) := by decide +kernel
theorem dX8_isEvent_11 : decode cX8_isEvent 11 = .ok (.isub, 1) := by decide +kernel
theorem dX8_isEvent_12 : decode cX8_isEvent 12 = .ok (.i2l, 1) := by decide +kernel
theorem dX8_isEvent_13 : decode cX8_isEvent 13 = .ok (.invokestatic 57, 3) := by decide +kernel
theorem dX8_isEvent_16 : decode cX8_isEvent 16 = .ok (.ireturn, 1) := by decide +kernel
theorem dX8_ofEvent_0 : decode cX8_ofEvent 0 = .ok (.aload_n 0, 1) := by decide +kernel
theorem dX8_ofEvent_1 : decode cX8_ofEvent 1 = .ok (.getfield 22, 3) := by decide +kernel
theorem dX8_ofEvent_4 : decode cX8_ofEvent 4 = .ok (.bipush 18, 2) := by decide +kernel
theorem dX8_ofEvent_6 : decode cX8_ofEvent 6 = .ok (.iconst 3, 1) := by decide +kernel
theorem dX8_ofEvent_7 : decode cX8_ofEvent 7 = .ok (.aload_n 0, 1) := by decide +kernel
theorem dX8_ofEvent_8 : decode cX8_ofEvent 8 = .ok (.getfield 22, 3) := by decide +kernel
theorem dX8_ofEvent_11 : decode cX8_ofEvent 11 = .ok (.bipush 17, 2) := by decide +kernel
theorem dX8_ofEvent_13 : decode cX8_ofEvent 13 = .ok (.iaload, 1) := by decide +kernel
theorem dX8_ofEvent_14 : decode cX8_ofEvent 14 = .ok (.iconst 1, 1) := by decide +kernel
theorem dX8_ofEvent_15 : decode cX8_ofEvent 15 = .ok (.isub, 1) := by decide +kernel
theorem dX8_ofEvent_16 : decode cX8_ofEvent 16 = .ok (.iload_n 1, 1) := by decide +kernel
theorem dX8_ofEvent_17 : decode cX8_ofEvent 17 = .ok (.isub, 1) := by decide +kernel
theorem dX8_ofEvent_18 : decode cX8_ofEvent 18 = .ok (.imul, 1) := by decide +kernel
theorem dX8_ofEvent_19 : decode cX8_ofEvent 19 = .ok (.iadd, 1) := by decide +kernel
theorem dX8_ofEvent_20 : decode cX8_ofEvent 20 = .ok (.iload_n 2, 1) := by decide +kernel
theorem dX8_ofEvent_21 : decode cX8_ofEvent 21 = .ok (.iadd, 1) := by decide +kernel
theorem dX8_ofEvent_22 : decode cX8_ofEvent 22 = .ok (.iaload, 1) := by decide +kernel
theorem dX8_ofEvent_23 : decode cX8_ofEvent 23 = .ok (.ireturn, 1) := by decide +kernel
theorem dX8_eventKind_0 : decode cX8_eventKind 0 = .ok (.aload_n 0, 1) := by decide +kernel
theorem dX8_eventKind_1 : decode cX8_eventKind 1 = .ok (.iload_n 1, 1) := by decide +kernel
theorem dX8_eventKind_2 : decode cX8_eventKind 2 = .ok (.invokevirtual 158, 3) := by decide +kernel
theorem dX8_eventKind_5 : decode cX8_eventKind 5 = .ok (.ifCond .eq 12, 3) := by decide +kernel
theorem dX8_eventKind_8 : decode cX8_eventKind 8 = .ok (.aload_n 0, 1) := by decide +kernel
theorem dX8_eventKind_9 : decode cX8_eventKind 9 = .ok (.iload_n 1, 1) := by decide +kernel
theorem dX8_eventKind_10 : decode cX8_eventKind 10 = .ok (.iconst 0, 1) := by decide +kernel
theorem dX8_eventKind_11 : decode cX8_eventKind 11 = .ok (.invokevirtual 161, 3) := by decide +kernel
theorem dX8_eventKind_14 : decode cX8_eventKind 14 = .ok (.goto 4, 3) := by decide +kernel
theorem dX8_eventKind_17 : decode cX8_eventKind 17 = .ok (.iconst (-1), 1) := by decide +kernel
theorem dX8_eventKind_18 : decode cX8_eventKind 18 = .ok (.ireturn, 1) := by decide +kernel
theorem dX8_eventPosition_0 : decode cX8_eventPosition 0 = .ok (.aload_n 0, 1) := by decide +kernel
theorem dX8_eventPosition_1 : decode cX8_eventPosition 1 = .ok (.iload_n 1, 1) := by decide +kernel
theorem dX8_eventPosition_2 : decode cX8_eventPosition 2 = .ok (.invokevirtual 158, 3) := by decide +kernel
theorem dX8_eventPosition_5 : decode cX8_eventPosition 5 = .ok (.ifCond .eq 12, 3) := by decide +kernel
theorem dX8_eventPosition_8 : decode cX8_eventPosition 8 = .ok (.aload_n 0, 1) := by decide +kernel
theorem dX8_eventPosition_9 : decode cX8_eventPosition 9 = .ok (.iload_n 1, 1) := by decide +kernel
theorem dX8_eventPosition_10 : decode cX8_eventPosition 10 = .ok (.iconst 1, 1) := by decide +kernel
theorem dX8_eventPosition_11 : decode cX8_eventPosition 11 = .ok (.invokevirtual 161, 3) := by decide +kernel
theorem dX8_eventPosition_14 : decode cX8_eventPosition 14 = .ok (.goto 4, 3) := by decide +kernel
theorem dX8_eventPosition_17 : decode cX8_eventPosition 17 = .ok (.iconst (-1), 1) := by decide +kernel
theorem dX8_eventPosition_18 : decode cX8_eventPosition 18 = .ok (.ireturn, 1) := by decide +kernel
theorem dX8_eventCounter_0 : decode cX8_eventCounter 0 = .ok (.aload_n 0, 1) := by decide +kernel
theorem dX8_eventCounter_1 : decode cX8_eventCounter 1 = .ok (.iload_n 1, 1) := by decide +kernel
theorem dX8_eventCounter_2 : decode cX8_eventCounter 2 = .ok (.invokevirtual 158, 3) := by decide +kernel
theorem dX8_eventCounter_5 : decode cX8_eventCounter 5 = .ok (.ifCond .eq 13, 3) := by decide +kernel
theorem dX8_eventCounter_8 : decode cX8_eventCounter 8 = .ok (.aload_n 0, 1) := by decide +kernel
theorem dX8_eventCounter_9 : decode cX8_eventCounter 9 = .ok (.iload_n 1, 1) := by decide +kernel
theorem dX8_eventCounter_10 : decode cX8_eventCounter 10 = .ok (.iconst 2, 1) := by decide +kernel
theorem dX8_eventCounter_11 : decode cX8_eventCounter 11 = .ok (.invokevirtual 161, 3) := by decide +kernel
theorem dX8_eventCounter_14 : decode cX8_eventCounter 14 = .ok (.i2l, 1) := by decide +kernel
theorem dX8_eventCounter_15 : decode cX8_eventCounter 15 = .ok (.goto 6, 3) := by decide +kernel
theorem dX8_eventCounter_18 : decode cX8_eventCounter 18 = .ok (.ldc2_w 131, 3) := by decide +kernel
theorem dX8_eventCounter_21 : decode cX8_eventCounter 21 = .ok (.lreturn, 1) := by decide +kernel
theorem dX8_brightIn_0 : decode cX8_brightIn 0 = .ok (.iconst 0, 1) := by decide +kernel
theorem dX8_brightIn_1 : decode cX8_brightIn 1 = .ok (.istore_n 3, 1) := by decide +kernel
theorem dX8_brightIn_2 : decode cX8_brightIn 2 = .ok (.iload_n 1, 1) := by decide +kernel
theorem dX8_brightIn_3 : decode cX8_brightIn 3 = .ok (.istore 4, 2) := by decide +kernel
theorem dX8_brightIn_5 : decode cX8_brightIn 5 = .ok (.iload 4, 2) := by decide +kernel
theorem dX8_brightIn_7 : decode cX8_brightIn 7 = .ok (.iload_n 1, 1) := by decide +kernel
theorem dX8_brightIn_8 : decode cX8_brightIn 8 = .ok (.iload_n 2, 1) := by decide +kernel
theorem dX8_brightIn_9 : decode cX8_brightIn 9 = .ok (.iadd, 1) := by decide +kernel
theorem dX8_brightIn_10 : decode cX8_brightIn 10 = .ok (.if_icmp .ge 82, 3) := by decide +kernel
theorem dX8_brightIn_13 : decode cX8_brightIn 13 = .ok (.aload_n 0, 1) := by decide +kernel
theorem dX8_brightIn_14 : decode cX8_brightIn 14 = .ok (.getfield 22, 3) := by decide +kernel
theorem dX8_brightIn_17 : decode cX8_brightIn 17 = .ok (.iconst 0, 1) := by decide +kernel
theorem dX8_brightIn_18 : decode cX8_brightIn 18 = .ok (.iaload, 1) := by decide +kernel
theorem dX8_brightIn_19 : decode cX8_brightIn 19 = .ok (.iload 4, 2) := by decide +kernel
theorem dX8_brightIn_21 : decode cX8_brightIn 21 = .ok (.iadd, 1) := by decide +kernel
theorem dX8_brightIn_22 : decode cX8_brightIn 22 = .ok (.aload_n 0, 1) := by decide +kernel
theorem dX8_brightIn_23 : decode cX8_brightIn 23 = .ok (.getfield 44, 3) := by decide +kernel
theorem dX8_brightIn_26 : decode cX8_brightIn 26 = .ok (.irem, 1) := by decide +kernel
theorem dX8_brightIn_27 : decode cX8_brightIn 27 = .ok (.aload_n 0, 1) := by decide +kernel
theorem dX8_brightIn_28 : decode cX8_brightIn 28 = .ok (.getfield 44, 3) := by decide +kernel
theorem dX8_brightIn_31 : decode cX8_brightIn 31 = .ok (.iconst 2, 1) := by decide +kernel
theorem dX8_brightIn_32 : decode cX8_brightIn 32 = .ok (.idiv, 1) := by decide +kernel
theorem dX8_brightIn_33 : decode cX8_brightIn 33 = .ok (.if_icmp .lt 37, 3) := by decide +kernel
theorem dX8_brightIn_36 : decode cX8_brightIn 36 = .ok (.iload 4, 2) := by decide +kernel
theorem dX8_brightIn_38 : decode cX8_brightIn 38 = .ok (.aload_n 0, 1) := by decide +kernel
theorem dX8_brightIn_39 : decode cX8_brightIn 39 = .ok (.getfield 22, 3) := by decide +kernel
theorem dX8_brightIn_42 : decode cX8_brightIn 42 = .ok (.bipush 7, 2) := by decide +kernel
theorem dX8_brightIn_44 : decode cX8_brightIn 44 = .ok (.iaload, 1) := by decide +kernel
theorem dX8_brightIn_45 : decode cX8_brightIn 45 = .ok (.iadd, 1) := by decide +kernel
theorem dX8_brightIn_46 : decode cX8_brightIn 46 = .ok (.aload_n 0, 1) := by decide +kernel
theorem dX8_brightIn_47 : decode cX8_brightIn 47 = .ok (.getfield 22, 3) := by decide +kernel
theorem dX8_brightIn_50 : decode cX8_brightIn 50 = .ok (.bipush 6, 2) := by decide +kernel
theorem dX8_brightIn_52 : decode cX8_brightIn 52 = .ok (.iaload, 1) := by decide +kernel
theorem dX8_brightIn_53 : decode cX8_brightIn 53 = .ok (.irem, 1) := by decide +kernel
theorem dX8_brightIn_54 : decode cX8_brightIn 54 = .ok (.aload_n 0, 1) := by decide +kernel
theorem dX8_brightIn_55 : decode cX8_brightIn 55 = .ok (.getfield 22, 3) := by decide +kernel
theorem dX8_brightIn_58 : decode cX8_brightIn 58 = .ok (.bipush 6, 2) := by decide +kernel
theorem dX8_brightIn_60 : decode cX8_brightIn 60 = .ok (.iaload, 1) := by decide +kernel
theorem dX8_brightIn_61 : decode cX8_brightIn 61 = .ok (.iconst 2, 1) := by decide +kernel
theorem dX8_brightIn_62 : decode cX8_brightIn 62 = .ok (.idiv, 1) := by decide +kernel
theorem dX8_brightIn_63 : decode cX8_brightIn 63 = .ok (.if_icmp .lt 7, 3) := by decide +kernel
theorem dX8_brightIn_66 : decode cX8_brightIn 66 = .ok (.iconst 1, 1) := by decide +kernel
theorem dX8_brightIn_67 : decode cX8_brightIn 67 = .ok (.goto 4, 3) := by decide +kernel
theorem dX8_brightIn_70 : decode cX8_brightIn 70 = .ok (.iconst 0, 1) := by decide +kernel
theorem dX8_brightIn_71 : decode cX8_brightIn 71 = .ok (.istore 5, 2) := by decide +kernel
theorem dX8_brightIn_73 : decode cX8_brightIn 73 = .ok (.iload_n 3, 1) := by decide +kernel
theorem dX8_brightIn_74 : decode cX8_brightIn 74 = .ok (.iload 5, 2) := by decide +kernel
theorem dX8_brightIn_76 : decode cX8_brightIn 76 = .ok (.ifCond .eq 7, 3) := by decide +kernel
theorem dX8_brightIn_79 : decode cX8_brightIn 79 = .ok (.iconst 1, 1) := by decide +kernel
theorem dX8_brightIn_80 : decode cX8_brightIn 80 = .ok (.goto 4, 3) := by decide +kernel
theorem dX8_brightIn_83 : decode cX8_brightIn 83 = .ok (.iconst 0, 1) := by decide +kernel
theorem dX8_brightIn_84 : decode cX8_brightIn 84 = .ok (.iadd, 1) := by decide +kernel
theorem dX8_brightIn_85 : decode cX8_brightIn 85 = .ok (.istore_n 3, 1) := by decide +kernel
theorem dX8_brightIn_86 : decode cX8_brightIn 86 = .ok (.iinc 4 1, 3) := by decide +kernel
theorem dX8_brightIn_89 : decode cX8_brightIn 89 = .ok (.goto (-84), 3) := by decide +kernel
theorem dX8_brightIn_92 : decode cX8_brightIn 92 = .ok (.iload_n 3, 1) := by decide +kernel
theorem dX8_brightIn_93 : decode cX8_brightIn 93 = .ok (.ireturn, 1) := by decide +kernel
theorem dX8_brightness_0 : decode cX8_brightness 0 = .ok (.iload_n 1, 1) := by decide +kernel
theorem dX8_brightness_1 : decode cX8_brightness 1 = .ok (.i2l, 1) := by decide +kernel
theorem dX8_brightness_2 : decode cX8_brightness 2 = .ok (.lconst 0, 1) := by decide +kernel
theorem dX8_brightness_3 : decode cX8_brightness 3 = .ok (.ldc2_w 164, 3) := by decide +kernel
theorem dX8_brightness_6 : decode cX8_brightness 6 = .ok (.invokestatic 57, 3) := by decide +kernel
theorem dX8_brightness_9 : decode cX8_brightness 9 = .ok (.ifCond .eq 24, 3) := by decide +kernel
theorem dX8_brightness_12 : decode cX8_brightness 12 = .ok (.iload_n 2, 1) := by decide +kernel
theorem dX8_brightness_13 : decode cX8_brightness 13 = .ok (.i2l, 1) := by decide +kernel
theorem dX8_brightness_14 : decode cX8_brightness 14 = .ok (.lconst 1, 1) := by decide +kernel
theorem dX8_brightness_15 : decode cX8_brightness 15 = .ok (.ldc2_w 166, 3) := by decide +kernel
theorem dX8_brightness_18 : decode cX8_brightness 18 = .ok (.invokestatic 57, 3) := by decide +kernel
theorem dX8_brightness_21 : decode cX8_brightness 21 = .ok (.ifCond .eq 12, 3) := by decide +kernel
theorem dX8_brightness_24 : decode cX8_brightness 24 = .ok (.aload_n 0, 1) := by decide +kernel
theorem dX8_brightness_25 : decode cX8_brightness 25 = .ok (.iload_n 1, 1) := by decide +kernel
theorem dX8_brightness_26 : decode cX8_brightness 26 = .ok (.iload_n 2, 1) := by decide +kernel
theorem dX8_brightness_27 : decode cX8_brightness 27 = .ok (.invokevirtual 168, 3) := by decide +kernel
theorem dX8_brightness_30 : decode cX8_brightness 30 = .ok (.goto 4, 3) := by decide +kernel
theorem dX8_brightness_33 : decode cX8_brightness 33 = .ok (.iconst (-1), 1) := by decide +kernel
theorem dX8_brightness_34 : decode cX8_brightness 34 = .ok (.ireturn, 1) := by decide +kernel
theorem dX8_brightestStart_0 : decode cX8_brightestStart 0 = .ok (.iload_n 1, 1) := by decide +kernel
theorem dX8_brightestStart_1 : decode cX8_brightestStart 1 = .ok (.i2l, 1) := by decide +kernel
theorem dX8_brightestStart_2 : decode cX8_brightestStart 2 = .ok (.lconst 1, 1) := by decide +kernel
theorem dX8_brightestStart_3 : decode cX8_brightestStart 3 = .ok (.ldc2_w 166, 3) := by decide +kernel
theorem dX8_brightestStart_6 : decode cX8_brightestStart 6 = .ok (.invokestatic 57, 3) := by decide +kernel
theorem dX8_brightestStart_9 : decode cX8_brightestStart 9 = .ok (.ifCond .ne 5, 3) := by decide +kernel
theorem dX8_brightestStart_12 : decode cX8_brightestStart 12 = .ok (.iconst (-1), 1) := by decide +kernel
theorem dX8_brightestStart_13 : decode cX8_brightestStart 13 = .ok (.ireturn, 1) := by decide +kernel
theorem dX8_brightestStart_14 : decode cX8_brightestStart 14 = .ok (.iconst 0, 1) := by decide +kernel
theorem dX8_brightestStart_15 : decode cX8_brightestStart 15 = .ok (.istore_n 2, 1) := by decide +kernel
theorem dX8_brightestStart_16 : decode cX8_brightestStart 16 = .ok (.iconst (-1), 1) := by decide +kernel
theorem dX8_brightestStart_17 : decode cX8_brightestStart 17 = .ok (.istore_n 3, 1) := by decide +kernel
theorem dX8_brightestStart_18 : decode cX8_brightestStart 18 = .ok (.iconst 0, 1) := by decide +kernel
theorem dX8_brightestStart_19 : decode cX8_brightestStart 19 = .ok (.istore 4, 2) := by decide +kernel
theorem dX8_brightestStart_21 : decode cX8_brightestStart 21 = .ok (.iload 4, 2) := by decide +kernel
theorem dX8_brightestStart_23 : decode cX8_brightestStart 23 = .ok (.sipush 200, 3) := by decide +kernel
theorem dX8_brightestStart_26 : decode cX8_brightestStart 26 = .ok (.if_icmp .ge 44, 3) := by decide +kernel
theorem dX8_brightestStart_29 : decode cX8_brightestStart 29 = .ok (.aload_n 0, 1) := by decide +kernel
theorem dX8_brightestStart_30 : decode cX8_brightestStart 30 = .ok (.iload 4, 2) := by decide +kernel
theorem dX8_brightestStart_32 : decode cX8_brightestStart 32 = .ok (.iload_n 1, 1) := by decide +kernel
theorem dX8_brightestStart_33 : decode cX8_brightestStart 33 = .ok (.invokevirtual 168, 3) := by decide +kernel
theorem dX8_brightestStart_36 : decode cX8_brightestStart 36 = .ok (.istore 5, 2) := by decide +kernel
theorem dX8_brightestStart_38 : decode cX8_brightestStart 38 = .ok (.iload 5, 2) := by decide +kernel
theorem dX8_brightestStart_40 : decode cX8_brightestStart 40 = .ok (.iload_n 3, 1) := by decide +kernel
theorem dX8_brightestStart_41 : decode cX8_brightestStart 41 = .ok (.if_icmp .le 8, 3) := by decide +kernel
theorem dX8_brightestStart_44 : decode cX8_brightestStart 44 = .ok (.iload 4, 2) := by decide +kernel
theorem dX8_brightestStart_46 : decode cX8_brightestStart 46 = .ok (.goto 4, 3) := by decide +kernel
theorem dX8_brightestStart_49 : decode cX8_brightestStart 49 = .ok (.iload_n 2, 1) := by decide +kernel
theorem dX8_brightestStart_50 : decode cX8_brightestStart 50 = .ok (.istore_n 2, 1) := by decide +kernel
theorem dX8_brightestStart_51 : decode cX8_brightestStart 51 = .ok (.iload 5, 2) := by decide +kernel
theorem dX8_brightestStart_53 : decode cX8_brightestStart 53 = .ok (.iload_n 3, 1) := by decide +kernel
theorem dX8_brightestStart_54 : decode cX8_brightestStart 54 = .ok (.if_icmp .le 8, 3) := by decide +kernel
theorem dX8_brightestStart_57 : decode cX8_brightestStart 57 = .ok (.iload 5, 2) := by decide +kernel
theorem dX8_brightestStart_59 : decode cX8_brightestStart 59 = .ok (.goto 4, 3) := by decide +kernel
theorem dX8_brightestStart_62 : decode cX8_brightestStart 62 = .ok (.iload_n 3, 1) := by decide +kernel
theorem dX8_brightestStart_63 : decode cX8_brightestStart 63 = .ok (.istore_n 3, 1) := by decide +kernel
theorem dX8_brightestStart_64 : decode cX8_brightestStart 64 = .ok (.iinc 4 1, 3) := by decide +kernel
theorem dX8_brightestStart_67 : decode cX8_brightestStart 67 = .ok (.goto (-46), 3) := by decide +kernel
theorem dX8_brightestStart_70 : decode cX8_brightestStart 70 = .ok (.iload_n 2, 1) := by decide +kernel
theorem dX8_brightestStart_71 : decode cX8_brightestStart 71 = .ok (.ireturn, 1) := by decide +kernel
theorem dX8_common_0 : decode cX8_common 0 = .ok (.iload_n 0, 1) := by decide +kernel
theorem dX8_common_1 : decode cX8_common 1 = .ok (.istore_n 2, 1) := by decide +kernel
theorem dX8_common_2 : decode cX8_common 2 = .ok (.iload_n 1, 1) := by decide +kernel
theorem dX8_common_3 : decode cX8_common 3 = .ok (.istore_n 3, 1) := by decide +kernel
theorem dX8_common_4 : decode cX8_common 4 = .ok (.iload_n 3, 1) := by decide +kernel
theorem dX8_common_5 : decode cX8_common 5 = .ok (.ifCond .eq 16, 3) := by decide +kernel
theorem dX8_common_8 : decode cX8_common 8 = .ok (.iload_n 2, 1) := by decide +kernel
theorem dX8_common_9 : decode cX8_common 9 = .ok (.iload_n 3, 1) := by decide +kernel
theorem dX8_common_10 : decode cX8_common 10 = .ok (.irem, 1) := by decide +kernel
theorem dX8_common_11 : decode cX8_common 11 = .ok (.istore 4, 2) := by decide +kernel
theorem dX8_common_13 : decode cX8_common 13 = .ok (.iload_n 3, 1) := by decide +kernel
theorem dX8_common_14 : decode cX8_common 14 = .ok (.istore_n 2, 1) := by decide +kernel
theorem dX8_common_15 : decode cX8_common 15 = .ok (.iload 4, 2) := by decide +kernel
theorem dX8_common_17 : decode cX8_common 17 = .ok (.istore_n 3, 1) := by decide +kernel
theorem dX8_common_18 : decode cX8_common 18 = .ok (.goto (-14), 3) := by decide +kernel
theorem dX8_common_21 : decode cX8_common 21 = .ok (.iload_n 2, 1) := by decide +kernel
theorem dX8_common_22 : decode cX8_common 22 = .ok (.ireturn, 1) := by decide +kernel
theorem dX8_overlayPeriod_0 : decode cX8_overlayPeriod 0 = .ok (.aload_n 0, 1) := by decide +kernel
theorem dX8_overlayPeriod_1 : decode cX8_overlayPeriod 1 = .ok (.getfield 44, 3) := by decide +kernel
theorem dX8_overlayPeriod_4 : decode cX8_overlayPeriod 4 = .ok (.aload_n 0, 1) := by decide +kernel
theorem dX8_overlayPeriod_5 : decode cX8_overlayPeriod 5 = .ok (.getfield 44, 3) := by decide +kernel
theorem dX8_overlayPeriod_8 : decode cX8_overlayPeriod 8 = .ok (.aload_n 0, 1) := by decide +kernel
theorem dX8_overlayPeriod_9 : decode cX8_overlayPeriod 9 = .ok (.getfield 22, 3) := by decide +kernel
theorem dX8_overlayPeriod_12 : decode cX8_overlayPeriod 12 = .ok (.bipush 6, 2) := by decide +kernel
theorem dX8_overlayPeriod_14 : decode cX8_overlayPeriod 14 = .ok (.iaload, 1) := by decide +kernel
theorem dX8_overlayPeriod_15 : decode cX8_overlayPeriod 15 = .ok (.invokestatic 171, 3) := by decide +kernel
theorem dX8_overlayPeriod_18 : decode cX8_overlayPeriod 18 = .ok (.idiv, 1) := by decide +kernel
theorem dX8_overlayPeriod_19 : decode cX8_overlayPeriod 19 = .ok (.aload_n 0, 1) := by decide +kernel
theorem dX8_overlayPeriod_20 : decode cX8_overlayPeriod 20 = .ok (.getfield 22, 3) := by decide +kernel
theorem dX8_overlayPeriod_23 : decode cX8_overlayPeriod 23 = .ok (.bipush 6, 2) := by decide +kernel
theorem dX8_overlayPeriod_25 : decode cX8_overlayPeriod 25 = .ok (.iaload, 1) := by decide +kernel
theorem dX8_overlayPeriod_26 : decode cX8_overlayPeriod 26 = .ok (.imul, 1) := by decide +kernel
theorem dX8_overlayPeriod_27 : decode cX8_overlayPeriod 27 = .ok (.ireturn, 1) := by decide +kernel
theorem dX8_fringe_0 : decode cX8_fringe 0 = .ok (.aload_n 0, 1) := by decide +kernel
theorem dX8_fringe_1 : decode cX8_fringe 1 = .ok (.getfield 44, 3) := by decide +kernel
theorem dX8_fringe_4 : decode cX8_fringe 4 = .ok (.aload_n 0, 1) := by decide +kernel
theorem dX8_fringe_5 : decode cX8_fringe 5 = .ok (.getfield 22, 3) := by decide +kernel
theorem dX8_fringe_8 : decode cX8_fringe 8 = .ok (.bipush 6, 2) := by decide +kernel
theorem dX8_fringe_10 : decode cX8_fringe 10 = .ok (.iaload, 1) := by decide +kernel
theorem dX8_fringe_11 : decode cX8_fringe 11 = .ok (.imul, 1) := by decide +kernel
theorem dX8_fringe_12 : decode cX8_fringe 12 = .ok (.istore_n 2, 1) := by decide +kernel
theorem dX8_fringe_13 : decode cX8_fringe 13 = .ok (.aload_n 0, 1) := by decide +kernel
theorem dX8_fringe_14 : decode cX8_fringe 14 = .ok (.getfield 44, 3) := by decide +kernel
theorem dX8_fringe_17 : decode cX8_fringe 17 = .ok (.aload_n 0, 1) := by decide +kernel
theorem dX8_fringe_18 : decode cX8_fringe 18 = .ok (.getfield 22, 3) := by decide +kernel
theorem dX8_fringe_21 : decode cX8_fringe 21 = .ok (.bipush 6, 2) := by decide +kernel
theorem dX8_fringe_23 : decode cX8_fringe 23 = .ok (.iaload, 1) := by decide +kernel
theorem dX8_fringe_24 : decode cX8_fringe 24 = .ok (.invokestatic 149, 3) := by decide +kernel
theorem dX8_fringe_27 : decode cX8_fringe 27 = .ok (.istore_n 3, 1) := by decide +kernel
theorem dX8_fringe_28 : decode cX8_fringe 28 = .ok (.iload_n 3, 1) := by decide +kernel
theorem dX8_fringe_29 : decode cX8_fringe 29 = .ok (.ifCond .ne 6, 3) := by decide +kernel
theorem dX8_fringe_32 : decode cX8_fringe 32 = .ok (.bipush (-4), 2) := by decide +kernel
theorem dX8_fringe_34 : decode cX8_fringe 34 = .ok (.ireturn, 1) := by decide +kernel
theorem dX8_fringe_35 : decode cX8_fringe 35 = .ok (.iload_n 2, 1) := by decide +kernel
theorem dX8_fringe_36 : decode cX8_fringe 36 = .ok (.iload_n 3, 1) := by decide +kernel
theorem dX8_fringe_37 : decode cX8_fringe 37 = .ok (.invokestatic 171, 3) := by decide +kernel
theorem dX8_fringe_40 : decode cX8_fringe 40 = .ok (.istore 4, 2) := by decide +kernel
theorem dX8_fringe_42 : decode cX8_fringe 42 = .ok (.iload_n 1, 1) := by decide +kernel
theorem dX8_fringe_43 : decode cX8_fringe 43 = .ok (.ifCond .eq 10, 3) := by decide +kernel
theorem dX8_fringe_46 : decode cX8_fringe 46 = .ok (.iload_n 2, 1) := by decide +kernel
theorem dX8_fringe_47 : decode cX8_fringe 47 = .ok (.iload 4, 2) := by decide +kernel
theorem dX8_fringe_49 : decode cX8_fringe 49 = .ok (.idiv, 1) := by decide +kernel
theorem dX8_fringe_50 : decode cX8_fringe 50 = .ok (.goto 7, 3) := by decide +kernel
theorem dX8_fringe_53 : decode cX8_fringe 53 = .ok (.iload_n 3, 1) := by decide +kernel
theorem dX8_fringe_54 : decode cX8_fringe 54 = .ok (.iload 4, 2) := by decide +kernel
theorem dX8_fringe_56 : decode cX8_fringe 56 = .ok (.idiv, 1) := by decide +kernel
theorem dX8_fringe_57 : decode cX8_fringe 57 = .ok (.ireturn, 1) := by decide +kernel
theorem dX8_fringePeriodNumerator_0 : decode cX8_fringePeriodNumerator 0 = .ok (.aload_n 0, 1) := by decide +kernel
theorem dX8_fringePeriodNumerator_1 : decode cX8_fringePeriodNumerator 1 = .ok (.iconst 1, 1) := by decide +kernel
theorem dX8_fringePeriodNumerator_2 : decode cX8_fringePeriodNumerator 2 = .ok (.invokevirtual 174, 3) := by decide +kernel
theorem dX8_fringePeriodNumerator_5 : decode cX8_fringePeriodNumerator 5 = .ok (.ireturn, 1) := by decide +kernel
theorem dX8_fringePeriodDenominator_0 : decode cX8_fringePeriodDenominator 0 = .ok (.aload_n 0, 1) := by decide +kernel
theorem dX8_fringePeriodDenominator_1 : decode cX8_fringePeriodDenominator 1 = .ok (.iconst 0, 1) := by decide +kernel
theorem dX8_fringePeriodDenominator_2 : decode cX8_fringePeriodDenominator 2 = .ok (.invokevirtual 174, 3) := by decide +kernel
theorem dX8_fringePeriodDenominator_5 : decode cX8_fringePeriodDenominator 5 = .ok (.ireturn, 1) := by decide +kernel
theorem dX8_magnificationBits_0 : decode cX8_magnificationBits 0 = .ok (.aload_n 0, 1) := by decide +kernel
theorem dX8_magnificationBits_1 : decode cX8_magnificationBits 1 = .ok (.getfield 44, 3) := by decide +kernel
theorem dX8_magnificationBits_4 : decode cX8_magnificationBits 4 = .ok (.aload_n 0, 1) := by decide +kernel
theorem dX8_magnificationBits_5 : decode cX8_magnificationBits 5 = .ok (.getfield 22, 3) := by decide +kernel
theorem dX8_magnificationBits_8 : decode cX8_magnificationBits 8 = .ok (.bipush 6, 2) := by decide +kernel
theorem dX8_magnificationBits_10 : decode cX8_magnificationBits 10 = .ok (.iaload, 1) := by decide +kernel
theorem dX8_magnificationBits_11 : decode cX8_magnificationBits 11 = .ok (.invokestatic 149, 3) := by decide +kernel
theorem dX8_magnificationBits_14 : decode cX8_magnificationBits 14 = .ok (.istore_n 1, 1) := by decide +kernel
theorem dX8_magnificationBits_15 : decode cX8_magnificationBits 15 = .ok (.iload_n 1, 1) := by decide +kernel
theorem dX8_magnificationBits_16 : decode cX8_magnificationBits 16 = .ok (.ifCond .ne 8, 3) := by decide +kernel
theorem dX8_magnificationBits_19 : decode cX8_magnificationBits 19 = .ok (.bipush (-4), 2) := by decide +kernel
theorem dX8_magnificationBits_21 : decode cX8_magnificationBits 21 = .ok (.goto 17, 3) := by decide +kernel
theorem dX8_magnificationBits_24 : decode cX8_magnificationBits 24 = .ok (.aload_n 0, 1) := by decide +kernel
theorem dX8_magnificationBits_25 : decode cX8_magnificationBits 25 = .ok (.getfield 22, 3) := by decide +kernel
theorem dX8_magnificationBits_28 : decode cX8_magnificationBits 28 = .ok (.bipush 6, 2) := by decide +kernel
theorem dX8_magnificationBits_30 : decode cX8_magnificationBits 30 = .ok (.iaload, 1) := by decide +kernel
theorem dX8_magnificationBits_31 : decode cX8_magnificationBits 31 = .ok (.i2f, 1) := by decide +kernel
theorem dX8_magnificationBits_32 : decode cX8_magnificationBits 32 = .ok (.iload_n 1, 1) := by decide +kernel
theorem dX8_magnificationBits_33 : decode cX8_magnificationBits 33 = .ok (.i2f, 1) := by decide +kernel
theorem dX8_magnificationBits_34 : decode cX8_magnificationBits 34 = .ok (.fdiv, 1) := by decide +kernel
theorem dX8_magnificationBits_35 : decode cX8_magnificationBits 35 = .ok (.invokestatic 152, 3) := by decide +kernel
theorem dX8_magnificationBits_38 : decode cX8_magnificationBits 38 = .ok (.ireturn, 1) := by decide +kernel
theorem dX8_crossedSpacingBits_0 : decode cX8_crossedSpacingBits 0 = .ok (.iload_n 1, 1) := by decide +kernel
theorem dX8_crossedSpacingBits_1 : decode cX8_crossedSpacingBits 1 = .ok (.i2l, 1) := by decide +kernel
theorem dX8_crossedSpacingBits_2 : decode cX8_crossedSpacingBits 2 = .ok (.lconst 1, 1) := by decide +kernel
theorem dX8_crossedSpacingBits_3 : decode cX8_crossedSpacingBits 3 = .ok (.ldc2_w 112, 3) := by decide +kernel
theorem dX8_crossedSpacingBits_6 : decode cX8_crossedSpacingBits 6 = .ok (.invokestatic 57, 3) := by decide +kernel
theorem dX8_crossedSpacingBits_9 : decode cX8_crossedSpacingBits 9 = .ok (.ifCond .eq 15, 3) := by decide +kernel
theorem dX8_crossedSpacingBits_12 : decode cX8_crossedSpacingBits 12 = .ok (.iload_n 2, 1) := by decide +kernel
theorem dX8_crossedSpacingBits_13 : decode cX8_crossedSpacingBits 13 = .ok (.i2l, 1) := by decide +kernel
theorem dX8_crossedSpacingBits_14 : decode cX8_crossedSpacingBits 14 = .ok (.lconst 1, 1) := by decide +kernel
theorem dX8_crossedSpacingBits_15 : decode cX8_crossedSpacingBits 15 = .ok (.ldc2_w 164, 3) := by decide +kernel
theorem dX8_crossedSpacingBits_18 : decode cX8_crossedSpacingBits 18 = .ok (.invokestatic 57, 3) := by decide +kernel
theorem dX8_crossedSpacingBits_21 : decode cX8_crossedSpacingBits 21 = .ok (.ifCond .ne 5, 3) := by decide +kernel
theorem dX8_crossedSpacingBits_24 : decode cX8_crossedSpacingBits 24 = .ok (.iconst (-1), 1) := by decide +kernel
theorem dX8_crossedSpacingBits_25 : decode cX8_crossedSpacingBits 25 = .ok (.ireturn, 1) := by decide +kernel
theorem dX8_crossedSpacingBits_26 : decode cX8_crossedSpacingBits 26 = .ok (.aload_n 0, 1) := by decide +kernel
theorem dX8_crossedSpacingBits_27 : decode cX8_crossedSpacingBits 27 = .ok (.getfield 44, 3) := by decide +kernel
theorem dX8_crossedSpacingBits_30 : decode cX8_crossedSpacingBits 30 = .ok (.i2f, 1) := by decide +kernel
theorem dX8_crossedSpacingBits_31 : decode cX8_crossedSpacingBits 31 = .ok (.iload_n 2, 1) := by decide +kernel
theorem dX8_crossedSpacingBits_32 : decode cX8_crossedSpacingBits 32 = .ok (.i2f, 1) := by decide +kernel
theorem dX8_crossedSpacingBits_33 : decode cX8_crossedSpacingBits 33 = .ok (.fmul, 1) := by decide +kernel
theorem dX8_crossedSpacingBits_34 : decode cX8_crossedSpacingBits 34 = .ok (.fstore_n 3, 1) := by decide +kernel
theorem dX8_crossedSpacingBits_35 : decode cX8_crossedSpacingBits 35 = .ok (.fload_n 3, 1) := by decide +kernel
theorem dX8_crossedSpacingBits_36 : decode cX8_crossedSpacingBits 36 = .ok (.iload_n 1, 1) := by decide +kernel
theorem dX8_crossedSpacingBits_37 : decode cX8_crossedSpacingBits 37 = .ok (.i2f, 1) := by decide +kernel
theorem dX8_crossedSpacingBits_38 : decode cX8_crossedSpacingBits 38 = .ok (.fdiv, 1) := by decide +kernel
theorem dX8_crossedSpacingBits_39 : decode cX8_crossedSpacingBits 39 = .ok (.invokestatic 152, 3) := by decide +kernel
theorem dX8_crossedSpacingBits_42 : decode cX8_crossedSpacingBits 42 = .ok (.ireturn, 1) := by decide +kernel
end
section
/-! the good words of the tables, by their places; nest words apart -/
def gw : List Cond := lw_tbl.filter goodWord
theorem gw_t {w : Cond} (n : Nat) (h : tables_1[n]? = some w) (g : goodWord w = true) : w ∈ gw := List.mem_filter.mpr ⟨List.mem_append_right _ (List.mem_of_getElem? h), g⟩
theorem gw_s {w : Cond} (n : Nat) (h : (k2_sels lw_privs)[n]? = some w) (g : goodWord w = true) : w ∈ gw := List.mem_filter.mpr ⟨List.mem_append_left _ (List.mem_of_getElem? h), g⟩
theorem gw_in {w : Cond} (h : w ∈ gw) : w ∈ lw_tbl ∧ ((w.onTables && w.keeps) = true ∨ ∃ ty, w = .arrayClass ty) := ⟨(List.mem_filter.mp h).1, good_of_word (List.mem_filter.mp h).2⟩
theorem gw_of {ws : List Cond} (ps : List Nat) (hp : ws = ps.filterMap (fun i => tables_1[i]?)) (h : ws.all goodWord = true) : ∀ w ∈ ws, w ∈ gw := fun w hw => by
  have hw2 := hw
  rw [hp] at hw2
  obtain ⟨i, -, hi⟩ := List.mem_filterMap.mp hw2
  exact gw_t i hi (List.all_eq_true.mp h w hw)
def zNf : List (String × Nat × String × String × String × String) := [("MoireEncoder", 191, "MoireEncoder$Dirt", "starts", "LMoireEncoder$Row;", "MoireEncoder"), ("MoireEncoder", 197, "MoireEncoder$Dirt", "lengths", "LMoireEncoder$Row;", "MoireEncoder"), ("MoireEncoder", 109, "MoireEncoder$Setup", "marks", "LMoireEncoder$Row;", "MoireEncoder"), ("MoireEncoder$State", 36, "MoireEncoder$Setup", "dirt", "LMoireEncoder$Dirt;", "MoireEncoder"), ("MoireEncoder", 85, "MoireEncoder$Setup", "pitch", "I", "MoireEncoder"), ("MoireEncoder$State", 54, "MoireEncoder$Setup", "indexPitch", "I", "MoireEncoder"), ("MoireEncoder$State", 58, "MoireEncoder$Setup", "indexOffset", "I", "MoireEncoder"), ("MoireEncoder$State", 50, "MoireEncoder$Setup", "mode", "I", "MoireEncoder"), ("MoireEncoder", 158, "MoireEncoder$Decoder", "counter", "J", "MoireEncoder"), ("MoireEncoder", 132, "MoireEncoder$Decoder", "misses", "I", "MoireEncoder"), ("MoireEncoder", 267, "MoireEncoder$Log", "kinds", "LMoireEncoder$Row;", "MoireEncoder"), ("MoireEncoder", 270, "MoireEncoder$Log", "positions", "LMoireEncoder$Row;", "MoireEncoder"), ("MoireEncoder", 206, "MoireEncoder$Log", "counters", "LMoireEncoder$Row;", "MoireEncoder"), ("MoireEncoder", 129, "MoireEncoder$State", "decoder", "LMoireEncoder$Decoder;", "MoireEncoder"), ("MoireEncoder", 162, "MoireEncoder$State", "log", "LMoireEncoder$Log;", "MoireEncoder"), ("MoireEncoder", 181, "MoireEncoder$State", "dirt", "LMoireEncoder$Dirt;", "MoireEncoder"), ("MoireEncoder", 135, "MoireEncoder$State", "head", "I", "MoireEncoder"), ("MoireEncoder", 235, "MoireEncoder$State", "samples", "I", "MoireEncoder"), ("MoireEncoder", 152, "MoireEncoder$State", "mode", "I", "MoireEncoder"), ("MoireEncoder", 172, "MoireEncoder$State", "indexPitch", "I", "MoireEncoder"), ("MoireEncoder", 175, "MoireEncoder$State", "indexOffset", "I", "MoireEncoder"), ("MoireEncoder", 223, "MoireEncoder$History", "size", "I", "MoireEncoder")]
def zNm : List (String × Nat × MethodName × String) := [("MoireEncoder", 20, yX5_init, "MoireEncoder"), ("MoireEncoder$Setup", 22, yX1_init, "MoireEncoder"), ("MoireEncoder$History", 17, yX6_init, "MoireEncoder"), ("MoireEncoder$State", 9, yX0_init, "MoireEncoder"), ("MoireEncoder$State", 18, yX3_init, "MoireEncoder"), ("MoireEncoder$State", 25, yX1_init, "MoireEncoder"), ("MoireEncoder", 37, yX0_init, "MoireEncoder"), ("MoireEncoder", 44, yX6_init, "MoireEncoder"), ("MoireEncoder$Setup", 44, yX7_isScalePitch, "MoireEncoder"), ("MoireEncoder$Setup", 48, yX7_isIndexGrating, "MoireEncoder"), ("MoireEncoder$Setup", 52, yX7_isMode, "MoireEncoder"), ("MoireEncoder$Setup", 73, yX7_isPosition, "MoireEncoder"), ("MoireEncoder$Setup", 81, yX7_isDirt, "MoireEncoder")]
/-- a field's words: link of a place in the pool, and the class's lays -/
def ZF (own : String) (index ci k : Nat) : Prop := ∃ (C : String) (T : u_T) (N : Nat), vwCl[ci]? = some (C, T, N) ∧ k < N ∧ (∀ w ∈ u_ws C T N, w ∈ gw) ∧ Cond.fieldLink own index (T k).1 (T k).2.1 (T k).2.2.1 ∈ gw
def ZFN (own : String) (index ci k : Nat) : Prop := ∃ (C : String) (T : u_T) (N : Nat) (host : String), vwCl[ci]? = some (C, T, N) ∧ k < N ∧ (∀ w ∈ u_ws C T N, w ∈ gw) ∧ (own, index, (T k).1, (T k).2.1, (T k).2.2.1, host) ∈ zNf
def ZT (ci k : Nat) (ty : FieldType) (fin : Bool) : Prop := ∃ (C : String) (T : u_T) (N : Nat) (ty0 : Nat → FieldType), vwCl[ci]? = some (C, T, N) ∧ (∀ k, k < N → parseFieldDescriptor (T k).2.2.1 = some (ty0 k)) ∧ (∀ a, a < N → ∀ b, b < N → a ≠ b → (T a).2.1 ≠ (T b).2.1) ∧ parseFieldDescriptor (T k).2.2.1 = some ty ∧ (T k).2.2.2 = fin
abbrev ZM : Type := MethodName × ByteArray × Nat × Option FieldType
def ZY (Y : ZM) (n : Nat) : Prop := Cond.initialized Y.1.cls ∈ gw ∧ Cond.code Y.1 Y.2.1 Y.2.2.1 Y.2.2.2 ∈ gw ∧ (Y.1.cls ≠ "java/lang/invoke/MethodHandle" ∧ Y.1.cls ≠ "java/lang/invoke/VarHandle" ∧ (parseMethodDescriptor Y.1.desc).map (fun d => d.parameters.length) = some n) ∧ Y.2.2.1 ≤ 12
def ZYv (Y : ZM) (n : Nat) : Prop := ZY Y n ∧ Cond.instanceMethod Y.1 ∈ gw ∧ Cond.selects Y.1.cls Y.1 Y.1 ∈ gw
def ZYs (Y : ZM) (n : Nat) : Prop := ZY Y n ∧ Cond.static Y.1 ∈ gw
def ZYi (Y : ZM) (n : Nat) : Prop := ZY Y n ∧ Cond.instanceMethod Y.1 ∈ gw ∧ Y.1.name = "<init>" ∧ Y.2.2.2 = none
def ZN (own : String) (index ci N : Nat) (fs : List Value) : Prop := ∃ (C : String) (T : u_T) (ty : Nat → FieldType), vwCl[ci]? = some (C, T, N) ∧ (∀ w ∈ u_ws C T N, w ∈ gw) ∧ (∀ k, k < N → parseFieldDescriptor (T k).2.2.1 = some (ty k)) ∧ Cond.classLink own index C ∈ gw ∧ Cond.instantiable C N ∈ gw ∧ Cond.initialized C ∈ gw ∧ (∀ j, j < N → defaultValue (ty j) = vp_V fs j)
theorem iwX0 : ∀ w ∈ u_ws RX0 TX0 3, w ∈ gw := gw_of [115, 117, 119] (by decide +kernel) (by decide +kernel)
theorem tX0_0 : ZT 0 0 .int false := ⟨RX0, TX0, 3, tyX0, rfl, tyX0_ok, nmX0, by decide +kernel, rfl⟩
theorem tX0_1 : ZT 0 1 .long false := ⟨RX0, TX0, 3, tyX0, rfl, tyX0_ok, nmX0, by decide +kernel, rfl⟩
theorem tX0_2 : ZT 0 2 .int false := ⟨RX0, TX0, 3, tyX0, rfl, tyX0_ok, nmX0, by decide +kernel, rfl⟩
theorem iwX1 : ∀ w ∈ u_ws RX1 TX1 2, w ∈ gw := gw_of [61, 63] (by decide +kernel) (by decide +kernel)
theorem tX1_0 : ZT 1 0 (.object "MoireEncoder$Row") true := ⟨RX1, TX1, 2, tyX1, rfl, tyX1_ok, nmX1, by decide +kernel, rfl⟩
theorem tX1_1 : ZT 1 1 (.object "MoireEncoder$Row") true := ⟨RX1, TX1, 2, tyX1, rfl, tyX1_ok, nmX1, by decide +kernel, rfl⟩
theorem iwX2 : ∀ w ∈ u_ws RX2 TX2 2, w ∈ gw := gw_of [181, 183] (by decide +kernel) (by decide +kernel)
theorem tX2_0 : ZT 2 0 (.array (.object "MoireEncoder$State")) true := ⟨RX2, TX2, 2, tyX2, rfl, tyX2_ok, nmX2, by decide +kernel, rfl⟩
theorem tX2_1 : ZT 2 1 .int false := ⟨RX2, TX2, 2, tyX2, rfl, tyX2_ok, nmX2, by decide +kernel, rfl⟩
theorem iwX3 : ∀ w ∈ u_ws RX3 TX3 3, w ∈ gw := gw_of [136, 138, 140] (by decide +kernel) (by decide +kernel)
theorem tX3_0 : ZT 3 0 (.object "MoireEncoder$Row") true := ⟨RX3, TX3, 3, tyX3, rfl, tyX3_ok, nmX3, by decide +kernel, rfl⟩
theorem tX3_1 : ZT 3 1 (.object "MoireEncoder$Row") true := ⟨RX3, TX3, 3, tyX3, rfl, tyX3_ok, nmX3, by decide +kernel, rfl⟩
theorem tX3_2 : ZT 3 2 (.object "MoireEncoder$Row") true := ⟨RX3, TX3, 3, tyX3, rfl, tyX3_ok, nmX3, by decide +kernel, rfl⟩
theorem iwX4 : ∀ w ∈ u_ws RX4 TX4 2, w ∈ gw := gw_of [35, 37] (by decide +kernel) (by decide +kernel)
theorem tX4_0 : ZT 4 0 (.array .long) true := ⟨RX4, TX4, 2, tyX4, rfl, tyX4_ok, nmX4, by decide +kernel, rfl⟩
theorem tX4_1 : ZT 4 1 .int false := ⟨RX4, TX4, 2, tyX4, rfl, tyX4_ok, nmX4, by decide +kernel, rfl⟩
theorem iwX5 : ∀ w ∈ u_ws RX5 TX5 6, w ∈ gw := gw_of [78, 80, 82, 84, 86, 88] (by decide +kernel) (by decide +kernel)
theorem tX5_0 : ZT 5 0 (.object "MoireEncoder$Row") true := ⟨RX5, TX5, 6, tyX5, rfl, tyX5_ok, nmX5, by decide +kernel, rfl⟩
theorem tX5_1 : ZT 5 1 (.object "MoireEncoder$Dirt") true := ⟨RX5, TX5, 6, tyX5, rfl, tyX5_ok, nmX5, by decide +kernel, rfl⟩
theorem tX5_2 : ZT 5 2 .int false := ⟨RX5, TX5, 6, tyX5, rfl, tyX5_ok, nmX5, by decide +kernel, rfl⟩
theorem tX5_3 : ZT 5 3 .int false := ⟨RX5, TX5, 6, tyX5, rfl, tyX5_ok, nmX5, by decide +kernel, rfl⟩
theorem tX5_4 : ZT 5 4 .int false := ⟨RX5, TX5, 6, tyX5, rfl, tyX5_ok, nmX5, by decide +kernel, rfl⟩
theorem tX5_5 : ZT 5 5 .int false := ⟨RX5, TX5, 6, tyX5, rfl, tyX5_ok, nmX5, by decide +kernel, rfl⟩
theorem iwX6 : ∀ w ∈ u_ws RX6 TX6 8, w ∈ gw := gw_of [161, 163, 165, 167, 169, 171, 173, 175] (by decide +kernel) (by decide +kernel)
theorem tX6_0 : ZT 6 0 (.object "MoireEncoder$Decoder") true := ⟨RX6, TX6, 8, tyX6, rfl, tyX6_ok, nmX6, by decide +kernel, rfl⟩
theorem tX6_1 : ZT 6 1 (.object "MoireEncoder$Log") true := ⟨RX6, TX6, 8, tyX6, rfl, tyX6_ok, nmX6, by decide +kernel, rfl⟩
theorem tX6_2 : ZT 6 2 (.object "MoireEncoder$Dirt") true := ⟨RX6, TX6, 8, tyX6, rfl, tyX6_ok, nmX6, by decide +kernel, rfl⟩
theorem tX6_3 : ZT 6 3 .int false := ⟨RX6, TX6, 8, tyX6, rfl, tyX6_ok, nmX6, by decide +kernel, rfl⟩
theorem tX6_4 : ZT 6 4 .int false := ⟨RX6, TX6, 8, tyX6, rfl, tyX6_ok, nmX6, by decide +kernel, rfl⟩
theorem tX6_5 : ZT 6 5 .int false := ⟨RX6, TX6, 8, tyX6, rfl, tyX6_ok, nmX6, by decide +kernel, rfl⟩
theorem tX6_6 : ZT 6 6 .int false := ⟨RX6, TX6, 8, tyX6, rfl, tyX6_ok, nmX6, by decide +kernel, rfl⟩
theorem tX6_7 : ZT 6 7 .int false := ⟨RX6, TX6, 8, tyX6, rfl, tyX6_ok, nmX6, by decide +kernel, rfl⟩
theorem iwX7 : ∀ w ∈ u_ws RX7 TX7 7, w ∈ gw := gw_of [375, 377, 379, 381, 383, 385, 387] (by decide +kernel) (by decide +kernel)
theorem tX7_0 : ZT 7 0 (.object "MoireEncoder$Row") true := ⟨RX7, TX7, 7, tyX7, rfl, tyX7_ok, nmX7, by decide +kernel, rfl⟩
theorem tX7_1 : ZT 7 1 (.object "MoireEncoder$Setup") true := ⟨RX7, TX7, 7, tyX7, rfl, tyX7_ok, nmX7, by decide +kernel, rfl⟩
theorem tX7_2 : ZT 7 2 (.object "MoireEncoder$Row") true := ⟨RX7, TX7, 7, tyX7, rfl, tyX7_ok, nmX7, by decide +kernel, rfl⟩
theorem tX7_3 : ZT 7 3 (.object "MoireEncoder$History") true := ⟨RX7, TX7, 7, tyX7, rfl, tyX7_ok, nmX7, by decide +kernel, rfl⟩
theorem tX7_4 : ZT 7 4 (.object "MoireEncoder$Decoder") true := ⟨RX7, TX7, 7, tyX7, rfl, tyX7_ok, nmX7, by decide +kernel, rfl⟩
theorem tX7_5 : ZT 7 5 (.object "MoireEncoder$State") false := ⟨RX7, TX7, 7, tyX7, rfl, tyX7_ok, nmX7, by decide +kernel, rfl⟩
theorem tX7_6 : ZT 7 6 .int false := ⟨RX7, TX7, 7, tyX7, rfl, tyX7_ok, nmX7, by decide +kernel, rfl⟩
theorem iwX8 : ∀ w ∈ u_ws RX8 TX8 15, w ∈ gw := gw_of [694, 696, 698, 700, 702, 704, 706, 708, 710, 712, 714, 716, 718, 720, 722] (by decide +kernel) (by decide +kernel)
theorem tX8_0 : ZT 8 0 (.array .int) true := ⟨RX8, TX8, 15, tyX8, rfl, tyX8_ok, nmX8, by decide +kernel, rfl⟩
theorem tX8_1 : ZT 8 1 .int false := ⟨RX8, TX8, 15, tyX8, rfl, tyX8_ok, nmX8, by decide +kernel, rfl⟩
theorem tX8_2 : ZT 8 2 .int false := ⟨RX8, TX8, 15, tyX8, rfl, tyX8_ok, nmX8, by decide +kernel, rfl⟩
theorem tX8_3 : ZT 8 3 .int false := ⟨RX8, TX8, 15, tyX8, rfl, tyX8_ok, nmX8, by decide +kernel, rfl⟩
theorem tX8_4 : ZT 8 4 .int false := ⟨RX8, TX8, 15, tyX8, rfl, tyX8_ok, nmX8, by decide +kernel, rfl⟩
theorem tX8_5 : ZT 8 5 .int false := ⟨RX8, TX8, 15, tyX8, rfl, tyX8_ok, nmX8, by decide +kernel, rfl⟩
theorem tX8_6 : ZT 8 6 (.array .int) true := ⟨RX8, TX8, 15, tyX8, rfl, tyX8_ok, nmX8, by decide +kernel, rfl⟩
theorem tX8_7 : ZT 8 7 (.array .int) true := ⟨RX8, TX8, 15, tyX8, rfl, tyX8_ok, nmX8, by decide +kernel, rfl⟩
theorem tX8_8 : ZT 8 8 .int false := ⟨RX8, TX8, 15, tyX8, rfl, tyX8_ok, nmX8, by decide +kernel, rfl⟩
theorem tX8_9 : ZT 8 9 .int false := ⟨RX8, TX8, 15, tyX8, rfl, tyX8_ok, nmX8, by decide +kernel, rfl⟩
theorem tX8_10 : ZT 8 10 (.array .int) true := ⟨RX8, TX8, 15, tyX8, rfl, tyX8_ok, nmX8, by decide +kernel, rfl⟩
theorem tX8_11 : ZT 8 11 (.array .int) false := ⟨RX8, TX8, 15, tyX8, rfl, tyX8_ok, nmX8, by decide +kernel, rfl⟩
theorem tX8_12 : ZT 8 12 (.array .int) false := ⟨RX8, TX8, 15, tyX8, rfl, tyX8_ok, nmX8, by decide +kernel, rfl⟩
theorem tX8_13 : ZT 8 13 (.array .int) true := ⟨RX8, TX8, 15, tyX8, rfl, tyX8_ok, nmX8, by decide +kernel, rfl⟩
theorem tX8_14 : ZT 8 14 .int false := ⟨RX8, TX8, 15, tyX8, rfl, tyX8_ok, nmX8, by decide +kernel, rfl⟩
theorem fX4_13 : ZF RX4 13 4 0 := ⟨RX4, TX4, 2, rfl, by decide, iwX4, gw_t 33 (by decide +kernel) rfl⟩
theorem fX4_19 : ZF RX4 19 4 1 := ⟨RX4, TX4, 2, rfl, by decide, iwX4, gw_t 34 (by decide +kernel) rfl⟩
theorem fX1_14 : ZF RX1 14 1 0 := ⟨RX1, TX1, 2, rfl, by decide, iwX1, gw_t 57 (by decide +kernel) rfl⟩
theorem fX7_191 : ZFN RX7 191 1 0 := ⟨RX1, TX1, 2, "MoireEncoder", rfl, by decide, iwX1, by decide +kernel⟩
theorem fX1_20 : ZF RX1 20 1 1 := ⟨RX1, TX1, 2, rfl, by decide, iwX1, gw_t 59 (by decide +kernel) rfl⟩
theorem fX7_197 : ZFN RX7 197 1 1 := ⟨RX1, TX1, 2, "MoireEncoder", rfl, by decide, iwX1, by decide +kernel⟩
theorem fX5_14 : ZF RX5 14 5 0 := ⟨RX5, TX5, 6, rfl, by decide, iwX5, gw_t 66 (by decide +kernel) rfl⟩
theorem fX7_109 : ZFN RX7 109 5 0 := ⟨RX5, TX5, 6, "MoireEncoder", rfl, by decide, iwX5, by decide +kernel⟩
theorem fX5_23 : ZF RX5 23 5 1 := ⟨RX5, TX5, 6, rfl, by decide, iwX5, gw_t 68 (by decide +kernel) rfl⟩
theorem fX6_36 : ZFN RX6 36 5 1 := ⟨RX5, TX5, 6, "MoireEncoder", rfl, by decide, iwX5, by decide +kernel⟩
theorem fX5_31 : ZF RX5 31 5 2 := ⟨RX5, TX5, 6, rfl, by decide, iwX5, gw_t 70 (by decide +kernel) rfl⟩
theorem fX7_85 : ZFN RX7 85 5 2 := ⟨RX5, TX5, 6, "MoireEncoder", rfl, by decide, iwX5, by decide +kernel⟩
theorem fX5_35 : ZF RX5 35 5 3 := ⟨RX5, TX5, 6, rfl, by decide, iwX5, gw_t 72 (by decide +kernel) rfl⟩
theorem fX6_54 : ZFN RX6 54 5 3 := ⟨RX5, TX5, 6, "MoireEncoder", rfl, by decide, iwX5, by decide +kernel⟩
theorem fX5_38 : ZF RX5 38 5 4 := ⟨RX5, TX5, 6, rfl, by decide, iwX5, gw_t 74 (by decide +kernel) rfl⟩
theorem fX6_58 : ZFN RX6 58 5 4 := ⟨RX5, TX5, 6, "MoireEncoder", rfl, by decide, iwX5, by decide +kernel⟩
theorem fX5_41 : ZF RX5 41 5 5 := ⟨RX5, TX5, 6, rfl, by decide, iwX5, gw_t 76 (by decide +kernel) rfl⟩
theorem fX6_50 : ZFN RX6 50 5 5 := ⟨RX5, TX5, 6, "MoireEncoder", rfl, by decide, iwX5, by decide +kernel⟩
theorem fX0_7 : ZF RX0 7 0 0 := ⟨RX0, TX0, 3, rfl, by decide, iwX0, gw_t 110 (by decide +kernel) rfl⟩
theorem fX0_17 : ZF RX0 17 0 1 := ⟨RX0, TX0, 3, rfl, by decide, iwX0, gw_t 111 (by decide +kernel) rfl⟩
theorem fX7_158 : ZFN RX7 158 0 1 := ⟨RX0, TX0, 3, "MoireEncoder", rfl, by decide, iwX0, by decide +kernel⟩
theorem fX0_21 : ZF RX0 21 0 2 := ⟨RX0, TX0, 3, rfl, by decide, iwX0, gw_t 113 (by decide +kernel) rfl⟩
theorem fX7_132 : ZFN RX7 132 0 2 := ⟨RX0, TX0, 3, "MoireEncoder", rfl, by decide, iwX0, by decide +kernel⟩
theorem fX3_14 : ZF RX3 14 3 0 := ⟨RX3, TX3, 3, rfl, by decide, iwX3, gw_t 130 (by decide +kernel) rfl⟩
theorem fX7_267 : ZFN RX7 267 3 0 := ⟨RX3, TX3, 3, "MoireEncoder", rfl, by decide, iwX3, by decide +kernel⟩
theorem fX3_20 : ZF RX3 20 3 1 := ⟨RX3, TX3, 3, rfl, by decide, iwX3, gw_t 132 (by decide +kernel) rfl⟩
theorem fX7_270 : ZFN RX7 270 3 1 := ⟨RX3, TX3, 3, "MoireEncoder", rfl, by decide, iwX3, by decide +kernel⟩
theorem fX3_23 : ZF RX3 23 3 2 := ⟨RX3, TX3, 3, rfl, by decide, iwX3, gw_t 134 (by decide +kernel) rfl⟩
theorem fX7_206 : ZFN RX7 206 3 2 := ⟨RX3, TX3, 3, "MoireEncoder", rfl, by decide, iwX3, by decide +kernel⟩
theorem fX6_10 : ZF RX6 10 6 0 := ⟨RX6, TX6, 8, rfl, by decide, iwX6, gw_t 145 (by decide +kernel) rfl⟩
theorem fX7_129 : ZFN RX7 129 6 0 := ⟨RX6, TX6, 8, "MoireEncoder", rfl, by decide, iwX6, by decide +kernel⟩
theorem fX6_19 : ZF RX6 19 6 1 := ⟨RX6, TX6, 8, rfl, by decide, iwX6, gw_t 147 (by decide +kernel) rfl⟩
theorem fX7_162 : ZFN RX7 162 6 1 := ⟨RX6, TX6, 8, "MoireEncoder", rfl, by decide, iwX6, by decide +kernel⟩
theorem fX6_26 : ZF RX6 26 6 2 := ⟨RX6, TX6, 8, rfl, by decide, iwX6, gw_t 149 (by decide +kernel) rfl⟩
theorem fX7_181 : ZFN RX7 181 6 2 := ⟨RX6, TX6, 8, "MoireEncoder", rfl, by decide, iwX6, by decide +kernel⟩
theorem fX6_43 : ZF RX6 43 6 3 := ⟨RX6, TX6, 8, rfl, by decide, iwX6, gw_t 151 (by decide +kernel) rfl⟩
theorem fX7_135 : ZFN RX7 135 6 3 := ⟨RX6, TX6, 8, "MoireEncoder", rfl, by decide, iwX6, by decide +kernel⟩
theorem fX6_47 : ZF RX6 47 6 4 := ⟨RX6, TX6, 8, rfl, by decide, iwX6, gw_t 153 (by decide +kernel) rfl⟩
theorem fX7_235 : ZFN RX7 235 6 4 := ⟨RX6, TX6, 8, "MoireEncoder", rfl, by decide, iwX6, by decide +kernel⟩
theorem fX6_53 : ZF RX6 53 6 5 := ⟨RX6, TX6, 8, rfl, by decide, iwX6, gw_t 155 (by decide +kernel) rfl⟩
theorem fX7_152 : ZFN RX7 152 6 5 := ⟨RX6, TX6, 8, "MoireEncoder", rfl, by decide, iwX6, by decide +kernel⟩
theorem fX6_57 : ZF RX6 57 6 6 := ⟨RX6, TX6, 8, rfl, by decide, iwX6, gw_t 157 (by decide +kernel) rfl⟩
theorem fX7_172 : ZFN RX7 172 6 6 := ⟨RX6, TX6, 8, "MoireEncoder", rfl, by decide, iwX6, by decide +kernel⟩
theorem fX6_61 : ZF RX6 61 6 7 := ⟨RX6, TX6, 8, rfl, by decide, iwX6, gw_t 159 (by decide +kernel) rfl⟩
theorem fX7_175 : ZFN RX7 175 6 7 := ⟨RX6, TX6, 8, "MoireEncoder", rfl, by decide, iwX6, by decide +kernel⟩
theorem fX2_11 : ZF RX2 11 2 0 := ⟨RX2, TX2, 2, rfl, by decide, iwX2, gw_t 178 (by decide +kernel) rfl⟩
theorem fX2_18 : ZF RX2 18 2 1 := ⟨RX2, TX2, 2, rfl, by decide, iwX2, gw_t 179 (by decide +kernel) rfl⟩
theorem fX7_223 : ZFN RX7 223 2 1 := ⟨RX2, TX2, 2, "MoireEncoder", rfl, by decide, iwX2, by decide +kernel⟩
theorem fX7_14 : ZF RX7 14 7 0 := ⟨RX7, TX7, 7, rfl, by decide, iwX7, gw_t 368 (by decide +kernel) rfl⟩
theorem fX7_21 : ZF RX7 21 7 1 := ⟨RX7, TX7, 7, rfl, by decide, iwX7, gw_t 369 (by decide +kernel) rfl⟩
theorem fX7_25 : ZF RX7 25 7 2 := ⟨RX7, TX7, 7, rfl, by decide, iwX7, gw_t 370 (by decide +kernel) rfl⟩
theorem fX7_31 : ZF RX7 31 7 3 := ⟨RX7, TX7, 7, rfl, by decide, iwX7, gw_t 371 (by decide +kernel) rfl⟩
theorem fX7_38 : ZF RX7 38 7 4 := ⟨RX7, TX7, 7, rfl, by decide, iwX7, gw_t 372 (by decide +kernel) rfl⟩
theorem fX7_45 : ZF RX7 45 7 5 := ⟨RX7, TX7, 7, rfl, by decide, iwX7, gw_t 373 (by decide +kernel) rfl⟩
theorem fX7_108 : ZF RX7 108 7 6 := ⟨RX7, TX7, 7, rfl, by decide, iwX7, gw_t 374 (by decide +kernel) rfl⟩
theorem fX8_7 : ZF RX8 7 8 0 := ⟨RX8, TX8, 15, rfl, by decide, iwX8, gw_t 679 (by decide +kernel) rfl⟩
theorem fX8_61 : ZF RX8 61 8 1 := ⟨RX8, TX8, 15, rfl, by decide, iwX8, gw_t 680 (by decide +kernel) rfl⟩
theorem fX8_64 : ZF RX8 64 8 2 := ⟨RX8, TX8, 15, rfl, by decide, iwX8, gw_t 681 (by decide +kernel) rfl⟩
theorem fX8_67 : ZF RX8 67 8 3 := ⟨RX8, TX8, 15, rfl, by decide, iwX8, gw_t 682 (by decide +kernel) rfl⟩
theorem fX8_34 : ZF RX8 34 8 4 := ⟨RX8, TX8, 15, rfl, by decide, iwX8, gw_t 683 (by decide +kernel) rfl⟩
theorem fX8_38 : ZF RX8 38 8 5 := ⟨RX8, TX8, 15, rfl, by decide, iwX8, gw_t 684 (by decide +kernel) rfl⟩
theorem fX8_13 : ZF RX8 13 8 6 := ⟨RX8, TX8, 15, rfl, by decide, iwX8, gw_t 685 (by decide +kernel) rfl⟩
theorem fX8_16 : ZF RX8 16 8 7 := ⟨RX8, TX8, 15, rfl, by decide, iwX8, gw_t 686 (by decide +kernel) rfl⟩
theorem fX8_44 : ZF RX8 44 8 8 := ⟨RX8, TX8, 15, rfl, by decide, iwX8, gw_t 687 (by decide +kernel) rfl⟩
theorem fX8_47 : ZF RX8 47 8 9 := ⟨RX8, TX8, 15, rfl, by decide, iwX8, gw_t 688 (by decide +kernel) rfl⟩
theorem fX8_19 : ZF RX8 19 8 10 := ⟨RX8, TX8, 15, rfl, by decide, iwX8, gw_t 689 (by decide +kernel) rfl⟩
theorem fX8_22 : ZF RX8 22 8 11 := ⟨RX8, TX8, 15, rfl, by decide, iwX8, gw_t 690 (by decide +kernel) rfl⟩
theorem fX8_25 : ZF RX8 25 8 12 := ⟨RX8, TX8, 15, rfl, by decide, iwX8, gw_t 691 (by decide +kernel) rfl⟩
theorem fX8_28 : ZF RX8 28 8 13 := ⟨RX8, TX8, 15, rfl, by decide, iwX8, gw_t 692 (by decide +kernel) rfl⟩
theorem fX8_50 : ZF RX8 50 8 14 := ⟨RX8, TX8, 15, rfl, by decide, iwX8, gw_t 693 (by decide +kernel) rfl⟩
abbrev YJxf58ca_floatToIntBits_5c35a : ZM := (yJxf58ca_floatToIntBits_5c35a, cJxf58ca_floatToIntBits_5c35a, 1, (some .int))
set_option maxRecDepth 40000 in
theorem gJxf58ca_floatToIntBits_5c35a : ZYs YJxf58ca_floatToIntBits_5c35a 1 := ⟨⟨gw_t 15 (by decide +kernel) rfl, gw_t 892 rfl rfl, ⟨by decide +kernel, by decide +kernel, by decide +kernel⟩, by decide⟩, gw_t 891 (by decide +kernel) rfl⟩
abbrev YJxf58ca_isNaN_12338 : ZM := (yJxf58ca_isNaN_12338, cJxf58ca_isNaN_12338, 1, (some .boolean))
set_option maxRecDepth 40000 in
theorem gJxf58ca_isNaN_12338 : ZYs YJxf58ca_isNaN_12338 1 := ⟨⟨gw_t 15 (by decide +kernel) rfl, gw_t 895 rfl rfl, ⟨by decide +kernel, by decide +kernel, by decide +kernel⟩, by decide⟩, gw_t 894 (by decide +kernel) rfl⟩
abbrev YX0_copyFrom : ZM := (yX0_copyFrom, cX0_copyFrom, 2, none)
set_option maxRecDepth 40000 in
theorem gX0_copyFrom : ZYv YX0_copyFrom 1 := ⟨⟨gw_t 8 (by decide +kernel) rfl, gw_t 430 rfl rfl, ⟨by decide +kernel, by decide +kernel, by decide +kernel⟩, by decide⟩, gw_t 428 (by decide +kernel) rfl, gw_t 429 (by decide +kernel) rfl⟩
abbrev YX0_counts : ZM := (yX0_counts, cX0_counts, 2, (some .boolean))
set_option maxRecDepth 40000 in
theorem gX0_counts : ZYs YX0_counts 2 := ⟨⟨gw_t 8 (by decide +kernel) rfl, gw_t 475 rfl rfl, ⟨by decide +kernel, by decide +kernel, by decide +kernel⟩, by decide⟩, gw_t 474 (by decide +kernel) rfl⟩
abbrev YX0_init : ZM := (yX0_init, cX0_init, 1, none)
set_option maxRecDepth 40000 in
theorem gX0_init : ZYi YX0_init 0 := ⟨⟨gw_t 8 (by decide +kernel) rfl, gw_t 108 rfl rfl, ⟨by decide +kernel, by decide +kernel, by decide +kernel⟩, by decide⟩, gw_t 107 (by decide +kernel) rfl, rfl, rfl⟩
abbrev YX0_read : ZM := (yX0_read, cX0_read, 5, (some .boolean))
set_option maxRecDepth 40000 in
theorem gX0_read : ZYv YX0_read 2 := ⟨⟨gw_t 8 (by decide +kernel) rfl, gw_t 472 rfl rfl, ⟨by decide +kernel, by decide +kernel, by decide +kernel⟩, by decide⟩, gw_t 470 (by decide +kernel) rfl, gw_t 471 (by decide +kernel) rfl⟩
abbrev YX0_reset : ZM := (yX0_reset, cX0_reset, 1, none)
set_option maxRecDepth 40000 in
theorem gX0_reset : ZYv YX0_reset 0 := ⟨⟨gw_t 8 (by decide +kernel) rfl, gw_t 352 rfl rfl, ⟨by decide +kernel, by decide +kernel, by decide +kernel⟩, by decide⟩, gw_t 350 (by decide +kernel) rfl, gw_t 351 (by decide +kernel) rfl⟩
abbrev YX1_add : ZM := (yX1_add, cX1_add, 3, none)
set_option maxRecDepth 40000 in
theorem gX1_add : ZYv YX1_add 2 := ⟨⟨gw_t 5 (by decide +kernel) rfl, gw_t 334 rfl rfl, ⟨by decide +kernel, by decide +kernel, by decide +kernel⟩, by decide⟩, gw_t 332 (by decide +kernel) rfl, gw_t 333 (by decide +kernel) rfl⟩
abbrev YX1_clear : ZM := (yX1_clear, cX1_clear, 1, none)
set_option maxRecDepth 40000 in
theorem gX1_clear : ZYv YX1_clear 0 := ⟨⟨gw_t 5 (by decide +kernel) rfl, gw_t 258 rfl rfl, ⟨by decide +kernel, by decide +kernel, by decide +kernel⟩, by decide⟩, gw_t 256 (by decide +kernel) rfl, gw_t 257 (by decide +kernel) rfl⟩
abbrev YX1_copyFrom : ZM := (yX1_copyFrom, cX1_copyFrom, 2, none)
set_option maxRecDepth 40000 in
theorem gX1_copyFrom : ZYv YX1_copyFrom 1 := ⟨⟨gw_t 5 (by decide +kernel) rfl, gw_t 361 rfl rfl, ⟨by decide +kernel, by decide +kernel, by decide +kernel⟩, by decide⟩, gw_t 359 (by decide +kernel) rfl, gw_t 360 (by decide +kernel) rfl⟩
abbrev YX1_covers : ZM := (yX1_covers, cX1_covers, 4, (some .boolean))
set_option maxRecDepth 40000 in
theorem gX1_covers : ZYv YX1_covers 1 := ⟨⟨gw_t 5 (by decide +kernel) rfl, gw_t 459 rfl rfl, ⟨by decide +kernel, by decide +kernel, by decide +kernel⟩, by decide⟩, gw_t 457 (by decide +kernel) rfl, gw_t 458 (by decide +kernel) rfl⟩
abbrev YX1_init : ZM := (yX1_init, cX1_init, 1, none)
set_option maxRecDepth 40000 in
theorem gX1_init : ZYi YX1_init 0 := ⟨⟨gw_t 5 (by decide +kernel) rfl, gw_t 53 rfl rfl, ⟨by decide +kernel, by decide +kernel, by decide +kernel⟩, by decide⟩, gw_t 52 (by decide +kernel) rfl, rfl, rfl⟩
abbrev YX1_isFull : ZM := (yX1_isFull, cX1_isFull, 1, (some .boolean))
set_option maxRecDepth 40000 in
theorem gX1_isFull : ZYv YX1_isFull 0 := ⟨⟨gw_t 5 (by decide +kernel) rfl, gw_t 325 rfl rfl, ⟨by decide +kernel, by decide +kernel, by decide +kernel⟩, by decide⟩, gw_t 323 (by decide +kernel) rfl, gw_t 324 (by decide +kernel) rfl⟩
abbrev YX1_removeAt : ZM := (yX1_removeAt, cX1_removeAt, 2, none)
set_option maxRecDepth 40000 in
theorem gX1_removeAt : ZYv YX1_removeAt 1 := ⟨⟨gw_t 5 (by decide +kernel) rfl, gw_t 524 rfl rfl, ⟨by decide +kernel, by decide +kernel, by decide +kernel⟩, by decide⟩, gw_t 522 (by decide +kernel) rfl, gw_t 523 (by decide +kernel) rfl⟩
abbrev YX2_dropOldest : ZM := (yX2_dropOldest, cX2_dropOldest, 3, none)
set_option maxRecDepth 40000 in
theorem gX2_dropOldest : ZYv YX2_dropOldest 0 := ⟨⟨gw_t 6 (by decide +kernel) rfl, gw_t 422 rfl rfl, ⟨by decide +kernel, by decide +kernel, by decide +kernel⟩, by decide⟩, gw_t 421 (by decide +kernel) rfl, gw_s 7 (by decide +kernel) rfl⟩
abbrev YX2_forgetAll : ZM := (yX2_forgetAll, cX2_forgetAll, 1, none)
set_option maxRecDepth 40000 in
theorem gX2_forgetAll : ZYv YX2_forgetAll 0 := ⟨⟨gw_t 6 (by decide +kernel) rfl, gw_t 366 rfl rfl, ⟨by decide +kernel, by decide +kernel, by decide +kernel⟩, by decide⟩, gw_t 364 (by decide +kernel) rfl, gw_t 365 (by decide +kernel) rfl⟩
abbrev YX2_init : ZM := (yX2_init, cX2_init, 2, none)
set_option maxRecDepth 40000 in
theorem gX2_init : ZYi YX2_init 0 := ⟨⟨gw_t 6 (by decide +kernel) rfl, gw_t 95 rfl rfl, ⟨by decide +kernel, by decide +kernel, by decide +kernel⟩, by decide⟩, gw_t 94 (by decide +kernel) rfl, rfl, rfl⟩
abbrev YX2_remember : ZM := (yX2_remember, cX2_remember, 2, none)
set_option maxRecDepth 40000 in
theorem gX2_remember : ZYv YX2_remember 1 := ⟨⟨gw_t 6 (by decide +kernel) rfl, gw_t 418 rfl rfl, ⟨by decide +kernel, by decide +kernel, by decide +kernel⟩, by decide⟩, gw_t 416 (by decide +kernel) rfl, gw_t 417 (by decide +kernel) rfl⟩
abbrev YX2_takeBack : ZM := (yX2_takeBack, cX2_takeBack, 4, (some (.object "MoireEncoder$State")))
set_option maxRecDepth 40000 in
theorem gX2_takeBack : ZYv YX2_takeBack 1 := ⟨⟨gw_t 6 (by decide +kernel) rfl, gw_t 556 rfl rfl, ⟨by decide +kernel, by decide +kernel, by decide +kernel⟩, by decide⟩, gw_t 554 (by decide +kernel) rfl, gw_t 555 (by decide +kernel) rfl⟩
abbrev YX3_add : ZM := (yX3_add, cX3_add, 5, none)
set_option maxRecDepth 40000 in
theorem gX3_add : ZYv YX3_add 3 := ⟨⟨gw_t 9 (by decide +kernel) rfl, gw_t 485 rfl rfl, ⟨by decide +kernel, by decide +kernel, by decide +kernel⟩, by decide⟩, gw_t 483 (by decide +kernel) rfl, gw_t 484 (by decide +kernel) rfl⟩
abbrev YX3_clear : ZM := (yX3_clear, cX3_clear, 1, none)
set_option maxRecDepth 40000 in
theorem gX3_clear : ZYv YX3_clear 0 := ⟨⟨gw_t 9 (by decide +kernel) rfl, gw_t 356 rfl rfl, ⟨by decide +kernel, by decide +kernel, by decide +kernel⟩, by decide⟩, gw_t 354 (by decide +kernel) rfl, gw_t 355 (by decide +kernel) rfl⟩
abbrev YX3_copyFrom : ZM := (yX3_copyFrom, cX3_copyFrom, 2, none)
set_option maxRecDepth 40000 in
theorem gX3_copyFrom : ZYv YX3_copyFrom 1 := ⟨⟨gw_t 9 (by decide +kernel) rfl, gw_t 434 rfl rfl, ⟨by decide +kernel, by decide +kernel, by decide +kernel⟩, by decide⟩, gw_t 432 (by decide +kernel) rfl, gw_t 433 (by decide +kernel) rfl⟩
abbrev YX3_init : ZM := (yX3_init, cX3_init, 1, none)
set_option maxRecDepth 40000 in
theorem gX3_init : ZYi YX3_init 0 := ⟨⟨gw_t 9 (by decide +kernel) rfl, gw_t 126 rfl rfl, ⟨by decide +kernel, by decide +kernel, by decide +kernel⟩, by decide⟩, gw_t 125 (by decide +kernel) rfl, rfl, rfl⟩
abbrev YX3_markEventFrom : ZM := (yX3_markEventFrom, cX3_markEventFrom, 3, (some .int))
set_option maxRecDepth 40000 in
theorem gX3_markEventFrom : ZYv YX3_markEventFrom 1 := ⟨⟨gw_t 9 (by decide +kernel) rfl, gw_t 540 rfl rfl, ⟨by decide +kernel, by decide +kernel, by decide +kernel⟩, by decide⟩, gw_t 538 (by decide +kernel) rfl, gw_t 539 (by decide +kernel) rfl⟩
abbrev YX3_wantsMiss : ZM := (yX3_wantsMiss, cX3_wantsMiss, 1, (some .boolean))
set_option maxRecDepth 40000 in
theorem gX3_wantsMiss : ZYv YX3_wantsMiss 0 := ⟨⟨gw_t 9 (by decide +kernel) rfl, gw_t 479 rfl rfl, ⟨by decide +kernel, by decide +kernel, by decide +kernel⟩, by decide⟩, gw_t 477 (by decide +kernel) rfl, gw_t 478 (by decide +kernel) rfl⟩
abbrev YX4_add : ZM := (yX4_add, cX4_add, 3, none)
set_option maxRecDepth 40000 in
theorem gX4_add : ZYv YX4_add 1 := ⟨⟨gw_t 2 (by decide +kernel) rfl, gw_t 242 rfl rfl, ⟨by decide +kernel, by decide +kernel, by decide +kernel⟩, by decide⟩, gw_t 240 (by decide +kernel) rfl, gw_t 241 (by decide +kernel) rfl⟩
abbrev YX4_addFirst : ZM := (yX4_addFirst, cX4_addFirst, 4, none)
set_option maxRecDepth 40000 in
theorem gX4_addFirst : ZYv YX4_addFirst 1 := ⟨⟨gw_t 2 (by decide +kernel) rfl, gw_t 489 rfl rfl, ⟨by decide +kernel, by decide +kernel, by decide +kernel⟩, by decide⟩, gw_t 487 (by decide +kernel) rfl, gw_t 488 (by decide +kernel) rfl⟩
abbrev YX4_clear : ZM := (yX4_clear, cX4_clear, 1, none)
set_option maxRecDepth 40000 in
theorem gX4_clear : ZYv YX4_clear 0 := ⟨⟨gw_t 2 (by decide +kernel) rfl, gw_t 254 rfl rfl, ⟨by decide +kernel, by decide +kernel, by decide +kernel⟩, by decide⟩, gw_t 252 (by decide +kernel) rfl, gw_t 253 (by decide +kernel) rfl⟩
abbrev YX4_copyFrom : ZM := (yX4_copyFrom, cX4_copyFrom, 3, none)
set_option maxRecDepth 40000 in
theorem gX4_copyFrom : ZYv YX4_copyFrom 1 := ⟨⟨gw_t 2 (by decide +kernel) rfl, gw_t 343 rfl rfl, ⟨by decide +kernel, by decide +kernel, by decide +kernel⟩, by decide⟩, gw_t 341 (by decide +kernel) rfl, gw_t 342 (by decide +kernel) rfl⟩
abbrev YX4_has : ZM := (yX4_has, cX4_has, 2, (some .boolean))
set_option maxRecDepth 40000 in
theorem gX4_has : ZYv YX4_has 1 := ⟨⟨gw_t 2 (by decide +kernel) rfl, gw_t 279 rfl rfl, ⟨by decide +kernel, by decide +kernel, by decide +kernel⟩, by decide⟩, gw_t 277 (by decide +kernel) rfl, gw_t 278 (by decide +kernel) rfl⟩
abbrev YX4_init : ZM := (yX4_init, cX4_init, 2, none)
set_option maxRecDepth 40000 in
theorem gX4_init : ZYi YX4_init 1 := ⟨⟨gw_t 2 (by decide +kernel) rfl, gw_t 28 rfl rfl, ⟨by decide +kernel, by decide +kernel, by decide +kernel⟩, by decide⟩, gw_t 27 (by decide +kernel) rfl, rfl, rfl⟩
abbrev YX4_intAt : ZM := (yX4_intAt, cX4_intAt, 2, (some .int))
set_option maxRecDepth 40000 in
theorem gX4_intAt : ZYv YX4_intAt 1 := ⟨⟨gw_t 2 (by decide +kernel) rfl, gw_t 271 rfl rfl, ⟨by decide +kernel, by decide +kernel, by decide +kernel⟩, by decide⟩, gw_t 269 (by decide +kernel) rfl, gw_t 270 (by decide +kernel) rfl⟩
abbrev YX4_isFull : ZM := (yX4_isFull, cX4_isFull, 1, (some .boolean))
set_option maxRecDepth 40000 in
theorem gX4_isFull : ZYv YX4_isFull 0 := ⟨⟨gw_t 2 (by decide +kernel) rfl, gw_t 313 rfl rfl, ⟨by decide +kernel, by decide +kernel, by decide +kernel⟩, by decide⟩, gw_t 311 (by decide +kernel) rfl, gw_t 312 (by decide +kernel) rfl⟩
abbrev YX4_longAt : ZM := (yX4_longAt, cX4_longAt, 2, (some .long))
set_option maxRecDepth 40000 in
theorem gX4_longAt : ZYv YX4_longAt 1 := ⟨⟨gw_t 2 (by decide +kernel) rfl, gw_t 275 rfl rfl, ⟨by decide +kernel, by decide +kernel, by decide +kernel⟩, by decide⟩, gw_t 273 (by decide +kernel) rfl, gw_t 274 (by decide +kernel) rfl⟩
abbrev YX4_removeAt : ZM := (yX4_removeAt, cX4_removeAt, 3, none)
set_option maxRecDepth 40000 in
theorem gX4_removeAt : ZYv YX4_removeAt 1 := ⟨⟨gw_t 2 (by decide +kernel) rfl, gw_t 528 rfl rfl, ⟨by decide +kernel, by decide +kernel, by decide +kernel⟩, by decide⟩, gw_t 526 (by decide +kernel) rfl, gw_t 527 (by decide +kernel) rfl⟩
abbrev YX4_size : ZM := (yX4_size, cX4_size, 1, (some .int))
set_option maxRecDepth 40000 in
theorem gX4_size : ZYv YX4_size 0 := ⟨⟨gw_t 2 (by decide +kernel) rfl, gw_t 263 rfl rfl, ⟨by decide +kernel, by decide +kernel, by decide +kernel⟩, by decide⟩, gw_t 261 (by decide +kernel) rfl, gw_t 262 (by decide +kernel) rfl⟩
abbrev YX5_init : ZM := (yX5_init, cX5_init, 1, none)
set_option maxRecDepth 40000 in
theorem gX5_init : ZYi YX5_init 0 := ⟨⟨gw_t 4 (by decide +kernel) rfl, gw_t 45 rfl rfl, ⟨by decide +kernel, by decide +kernel, by decide +kernel⟩, by decide⟩, gw_t 44 (by decide +kernel) rfl, rfl, rfl⟩
abbrev YX5_reset : ZM := (yX5_reset, cX5_reset, 1, none)
set_option maxRecDepth 40000 in
theorem gX5_reset : ZYv YX5_reset 0 := ⟨⟨gw_t 4 (by decide +kernel) rfl, gw_t 250 rfl rfl, ⟨by decide +kernel, by decide +kernel, by decide +kernel⟩, by decide⟩, gw_t 248 (by decide +kernel) rfl, gw_t 249 (by decide +kernel) rfl⟩
abbrev YX5_take : ZM := (yX5_take, cX5_take, 4, (some .boolean))
set_option maxRecDepth 40000 in
theorem gX5_take : ZYv YX5_take 3 := ⟨⟨gw_t 4 (by decide +kernel) rfl, gw_t 294 rfl rfl, ⟨by decide +kernel, by decide +kernel, by decide +kernel⟩, by decide⟩, gw_t 292 (by decide +kernel) rfl, gw_t 293 (by decide +kernel) rfl⟩
abbrev YX5_takeDirt : ZM := (yX5_takeDirt, cX5_takeDirt, 3, (some .boolean))
set_option maxRecDepth 40000 in
theorem gX5_takeDirt : ZYv YX5_takeDirt 2 := ⟨⟨gw_t 4 (by decide +kernel) rfl, gw_t 321 rfl rfl, ⟨by decide +kernel, by decide +kernel, by decide +kernel⟩, by decide⟩, gw_t 320 (by decide +kernel) rfl, gw_s 5 (by decide +kernel) rfl⟩
abbrev YX5_takeMark : ZM := (yX5_takeMark, cX5_takeMark, 3, (some .boolean))
set_option maxRecDepth 40000 in
theorem gX5_takeMark : ZYv YX5_takeMark 1 := ⟨⟨gw_t 4 (by decide +kernel) rfl, gw_t 307 rfl rfl, ⟨by decide +kernel, by decide +kernel, by decide +kernel⟩, by decide⟩, gw_t 306 (by decide +kernel) rfl, gw_s 4 (by decide +kernel) rfl⟩
abbrev YX6_copyFrom : ZM := (yX6_copyFrom, cX6_copyFrom, 2, none)
set_option maxRecDepth 40000 in
theorem gX6_copyFrom : ZYv YX6_copyFrom 1 := ⟨⟨gw_t 7 (by decide +kernel) rfl, gw_t 426 rfl rfl, ⟨by decide +kernel, by decide +kernel, by decide +kernel⟩, by decide⟩, gw_t 424 (by decide +kernel) rfl, gw_t 425 (by decide +kernel) rfl⟩
abbrev YX6_init : ZM := (yX6_init, cX6_init, 1, none)
set_option maxRecDepth 40000 in
theorem gX6_init : ZYi YX6_init 0 := ⟨⟨gw_t 7 (by decide +kernel) rfl, gw_t 102 rfl rfl, ⟨by decide +kernel, by decide +kernel, by decide +kernel⟩, by decide⟩, gw_t 101 (by decide +kernel) rfl, rfl, rfl⟩
abbrev YX6_startFrom : ZM := (yX6_startFrom, cX6_startFrom, 2, none)
set_option maxRecDepth 40000 in
theorem gX6_startFrom : ZYv YX6_startFrom 1 := ⟨⟨gw_t 7 (by decide +kernel) rfl, gw_t 348 rfl rfl, ⟨by decide +kernel, by decide +kernel, by decide +kernel⟩, by decide⟩, gw_t 346 (by decide +kernel) rfl, gw_t 347 (by decide +kernel) rfl⟩
abbrev YX7_addDirt : ZM := (yX7_addDirt, cX7_addDirt, 3, (some .int))
set_option maxRecDepth 40000 in
theorem gX7_addDirt : ZYv YX7_addDirt 2 := ⟨⟨gw_t 1 (by decide +kernel) rfl, gw_t 512 rfl rfl, ⟨by decide +kernel, by decide +kernel, by decide +kernel⟩, by decide⟩, gw_t 510 (by decide +kernel) rfl, gw_t 511 (by decide +kernel) rfl⟩
abbrev YX7_append : ZM := (yX7_append, cX7_append, 2, (some .int))
set_option maxRecDepth 40000 in
theorem gX7_append : ZYv YX7_append 1 := ⟨⟨gw_t 1 (by decide +kernel) rfl, gw_t 394 rfl rfl, ⟨by decide +kernel, by decide +kernel, by decide +kernel⟩, by decide⟩, gw_t 392 (by decide +kernel) rfl, gw_t 393 (by decide +kernel) rfl⟩
abbrev YX7_bitsOf : ZM := (yX7_bitsOf, cX7_bitsOf, 4, (some .int))
set_option maxRecDepth 40000 in
theorem gX7_bitsOf : ZYs YX7_bitsOf 1 := ⟨⟨gw_t 1 (by decide +kernel) rfl, gw_t 583 rfl rfl, ⟨by decide +kernel, by decide +kernel, by decide +kernel⟩, by decide⟩, gw_t 582 (by decide +kernel) rfl⟩
abbrev YX7_brightCells : ZM := (yX7_brightCells, cX7_brightCells, 5, (some .int))
set_option maxRecDepth 40000 in
theorem gX7_brightCells : ZYv YX7_brightCells 2 := ⟨⟨gw_t 1 (by decide +kernel) rfl, gw_t 626 rfl rfl, ⟨by decide +kernel, by decide +kernel, by decide +kernel⟩, by decide⟩, gw_t 625 (by decide +kernel) rfl, gw_s 15 (by decide +kernel) rfl⟩
abbrev YX7_brightestStart : ZM := (yX7_brightestStart, cX7_brightestStart, 6, (some .int))
set_option maxRecDepth 40000 in
theorem gX7_brightestStart : ZYv YX7_brightestStart 1 := ⟨⟨gw_t 1 (by decide +kernel) rfl, gw_t 633 rfl rfl, ⟨by decide +kernel, by decide +kernel, by decide +kernel⟩, by decide⟩, gw_t 631 (by decide +kernel) rfl, gw_t 632 (by decide +kernel) rfl⟩
abbrev YX7_brightness : ZM := (yX7_brightness, cX7_brightness, 3, (some .int))
set_option maxRecDepth 40000 in
theorem gX7_brightness : ZYv YX7_brightness 2 := ⟨⟨gw_t 1 (by decide +kernel) rfl, gw_t 622 rfl rfl, ⟨by decide +kernel, by decide +kernel, by decide +kernel⟩, by decide⟩, gw_t 620 (by decide +kernel) rfl, gw_t 621 (by decide +kernel) rfl⟩
abbrev YX7_clearText : ZM := (yX7_clearText, cX7_clearText, 2, (some .int))
set_option maxRecDepth 40000 in
theorem gX7_clearText : ZYv YX7_clearText 0 := ⟨⟨gw_t 1 (by decide +kernel) rfl, gw_t 399 rfl rfl, ⟨by decide +kernel, by decide +kernel, by decide +kernel⟩, by decide⟩, gw_t 397 (by decide +kernel) rfl, gw_t 398 (by decide +kernel) rfl⟩
abbrev YX7_commonDivisor : ZM := (yX7_commonDivisor, cX7_commonDivisor, 6, (some .int))
set_option maxRecDepth 40000 in
theorem gX7_commonDivisor : ZYs YX7_commonDivisor 2 := ⟨⟨gw_t 1 (by decide +kernel) rfl, gw_t 640 rfl rfl, ⟨by decide +kernel, by decide +kernel, by decide +kernel⟩, by decide⟩, gw_t 639 (by decide +kernel) rfl⟩
abbrev YX7_configure : ZM := (yX7_configure, cX7_configure, 1, (some .int))
set_option maxRecDepth 40000 in
theorem gX7_configure : ZYv YX7_configure 0 := ⟨⟨gw_t 1 (by decide +kernel) rfl, gw_t 407 rfl rfl, ⟨by decide +kernel, by decide +kernel, by decide +kernel⟩, by decide⟩, gw_t 405 (by decide +kernel) rfl, gw_t 406 (by decide +kernel) rfl⟩
abbrev YX7_countAt : ZM := (yX7_countAt, cX7_countAt, 2, (some .int))
set_option maxRecDepth 40000 in
theorem gX7_countAt : ZYv YX7_countAt 1 := ⟨⟨gw_t 1 (by decide +kernel) rfl, gw_t 502 rfl rfl, ⟨by decide +kernel, by decide +kernel, by decide +kernel⟩, by decide⟩, gw_t 501 (by decide +kernel) rfl, gw_s 12 (by decide +kernel) rfl⟩
abbrev YX7_counter : ZM := (yX7_counter, cX7_counter, 1, (some .long))
set_option maxRecDepth 40000 in
theorem gX7_counter : ZYv YX7_counter 0 := ⟨⟨gw_t 1 (by decide +kernel) rfl, gw_t 564 rfl rfl, ⟨by decide +kernel, by decide +kernel, by decide +kernel⟩, by decide⟩, gw_t 562 (by decide +kernel) rfl, gw_t 563 (by decide +kernel) rfl⟩
abbrev YX7_crossedSpacingBits : ZM := (yX7_crossedSpacingBits, cX7_crossedSpacingBits, 3, (some .int))
set_option maxRecDepth 40000 in
theorem gX7_crossedSpacingBits : ZYv YX7_crossedSpacingBits 2 := ⟨⟨gw_t 1 (by decide +kernel) rfl, gw_t 664 rfl rfl, ⟨by decide +kernel, by decide +kernel, by decide +kernel⟩, by decide⟩, gw_t 662 (by decide +kernel) rfl, gw_t 663 (by decide +kernel) rfl⟩
abbrev YX7_digitsFrom : ZM := (yX7_digitsFrom, cX7_digitsFrom, 3, (some .int))
set_option maxRecDepth 40000 in
theorem gX7_digitsFrom : ZYv YX7_digitsFrom 1 := ⟨⟨gw_t 1 (by decide +kernel) rfl, gw_t 287 rfl rfl, ⟨by decide +kernel, by decide +kernel, by decide +kernel⟩, by decide⟩, gw_t 286 (by decide +kernel) rfl, gw_s 3 (by decide +kernel) rfl⟩
abbrev YX7_eventCounter : ZM := (yX7_eventCounter, cX7_eventCounter, 2, (some .long))
set_option maxRecDepth 40000 in
theorem gX7_eventCounter : ZYv YX7_eventCounter 1 := ⟨⟨gw_t 1 (by decide +kernel) rfl, gw_t 604 rfl rfl, ⟨by decide +kernel, by decide +kernel, by decide +kernel⟩, by decide⟩, gw_t 602 (by decide +kernel) rfl, gw_t 603 (by decide +kernel) rfl⟩
abbrev YX7_eventKind : ZM := (yX7_eventKind, cX7_eventKind, 2, (some .int))
set_option maxRecDepth 40000 in
theorem gX7_eventKind : ZYv YX7_eventKind 1 := ⟨⟨gw_t 1 (by decide +kernel) rfl, gw_t 596 rfl rfl, ⟨by decide +kernel, by decide +kernel, by decide +kernel⟩, by decide⟩, gw_t 594 (by decide +kernel) rfl, gw_t 595 (by decide +kernel) rfl⟩
abbrev YX7_eventPosition : ZM := (yX7_eventPosition, cX7_eventPosition, 2, (some .int))
set_option maxRecDepth 40000 in
theorem gX7_eventPosition : ZYv YX7_eventPosition 1 := ⟨⟨gw_t 1 (by decide +kernel) rfl, gw_t 600 rfl rfl, ⟨by decide +kernel, by decide +kernel, by decide +kernel⟩, by decide⟩, gw_t 598 (by decide +kernel) rfl, gw_t 599 (by decide +kernel) rfl⟩
abbrev YX7_expectedCount : ZM := (yX7_expectedCount, cX7_expectedCount, 2, (some .int))
set_option maxRecDepth 40000 in
theorem gX7_expectedCount : ZYv YX7_expectedCount 1 := ⟨⟨gw_t 1 (by decide +kernel) rfl, gw_t 592 rfl rfl, ⟨by decide +kernel, by decide +kernel, by decide +kernel⟩, by decide⟩, gw_t 590 (by decide +kernel) rfl, gw_t 591 (by decide +kernel) rfl⟩
abbrev YX7_fastestSafeSpeed : ZM := (yX7_fastestSafeSpeed, cX7_fastestSafeSpeed, 3, (some .int))
set_option maxRecDepth 40000 in
theorem gX7_fastestSafeSpeed : ZYv YX7_fastestSafeSpeed 1 := ⟨⟨gw_t 1 (by decide +kernel) rfl, gw_t 614 rfl rfl, ⟨by decide +kernel, by decide +kernel, by decide +kernel⟩, by decide⟩, gw_t 612 (by decide +kernel) rfl, gw_t 613 (by decide +kernel) rfl⟩
abbrev YX7_firstError : ZM := (yX7_firstError, cX7_firstError, 1, (some .int))
set_option maxRecDepth 40000 in
theorem gX7_firstError : ZYv YX7_firstError 0 := ⟨⟨gw_t 1 (by decide +kernel) rfl, gw_t 403 rfl rfl, ⟨by decide +kernel, by decide +kernel, by decide +kernel⟩, by decide⟩, gw_t 401 (by decide +kernel) rfl, gw_t 402 (by decide +kernel) rfl⟩
abbrev YX7_fringePeriodDenominator : ZM := (yX7_fringePeriodDenominator, cX7_fringePeriodDenominator, 1, (some .int))
set_option maxRecDepth 40000 in
theorem gX7_fringePeriodDenominator : ZYv YX7_fringePeriodDenominator 0 := ⟨⟨gw_t 1 (by decide +kernel) rfl, gw_t 656 rfl rfl, ⟨by decide +kernel, by decide +kernel, by decide +kernel⟩, by decide⟩, gw_t 654 (by decide +kernel) rfl, gw_t 655 (by decide +kernel) rfl⟩
abbrev YX7_fringePeriodNumerator : ZM := (yX7_fringePeriodNumerator, cX7_fringePeriodNumerator, 1, (some .int))
set_option maxRecDepth 40000 in
theorem gX7_fringePeriodNumerator : ZYv YX7_fringePeriodNumerator 0 := ⟨⟨gw_t 1 (by decide +kernel) rfl, gw_t 644 rfl rfl, ⟨by decide +kernel, by decide +kernel, by decide +kernel⟩, by decide⟩, gw_t 642 (by decide +kernel) rfl, gw_t 643 (by decide +kernel) rfl⟩
abbrev YX7_inLowestTerms : ZM := (yX7_inLowestTerms, cX7_inLowestTerms, 3, (some .int))
set_option maxRecDepth 40000 in
theorem gX7_inLowestTerms : ZYv YX7_inLowestTerms 1 := ⟨⟨gw_t 1 (by decide +kernel) rfl, gw_t 648 rfl rfl, ⟨by decide +kernel, by decide +kernel, by decide +kernel⟩, by decide⟩, gw_t 647 (by decide +kernel) rfl, gw_s 16 (by decide +kernel) rfl⟩
abbrev YX7_init : ZM := (yX7_init, cX7_init, 2, none)
set_option maxRecDepth 40000 in
theorem gX7_init : ZYi YX7_init 0 := ⟨⟨gw_t 1 (by decide +kernel) rfl, gw_t 20 rfl rfl, ⟨by decide +kernel, by decide +kernel, by decide +kernel⟩, by decide⟩, gw_t 19 (by decide +kernel) rfl, rfl, rfl⟩
abbrev YX7_isClear : ZM := (yX7_isClear, cX7_isClear, 2, (some .boolean))
set_option maxRecDepth 40000 in
theorem gX7_isClear : ZYs YX7_isClear 2 := ⟨⟨gw_t 1 (by decide +kernel) rfl, gw_t 629 rfl rfl, ⟨by decide +kernel, by decide +kernel, by decide +kernel⟩, by decide⟩, gw_t 628 (by decide +kernel) rfl⟩
abbrev YX7_isDirt : ZM := (yX7_isDirt, cX7_isDirt, 2, (some .boolean))
set_option maxRecDepth 40000 in
theorem gX7_isDirt : ZYs YX7_isDirt 2 := ⟨⟨gw_t 1 (by decide +kernel) rfl, gw_t 329 rfl rfl, ⟨by decide +kernel, by decide +kernel, by decide +kernel⟩, by decide⟩, gw_t 328 (by decide +kernel) rfl⟩
abbrev YX7_isIndexGrating : ZM := (yX7_isIndexGrating, cX7_isIndexGrating, 2, (some .boolean))
set_option maxRecDepth 40000 in
theorem gX7_isIndexGrating : ZYs YX7_isIndexGrating 2 := ⟨⟨gw_t 1 (by decide +kernel) rfl, gw_t 300 rfl rfl, ⟨by decide +kernel, by decide +kernel, by decide +kernel⟩, by decide⟩, gw_t 299 (by decide +kernel) rfl⟩
abbrev YX7_isMode : ZM := (yX7_isMode, cX7_isMode, 1, (some .boolean))
set_option maxRecDepth 40000 in
theorem gX7_isMode : ZYs YX7_isMode 1 := ⟨⟨gw_t 1 (by decide +kernel) rfl, gw_t 303 rfl rfl, ⟨by decide +kernel, by decide +kernel, by decide +kernel⟩, by decide⟩, gw_t 302 (by decide +kernel) rfl⟩
abbrev YX7_isMove : ZM := (yX7_isMove, cX7_isMove, 2, (some .boolean))
set_option maxRecDepth 40000 in
theorem gX7_isMove : ZYs YX7_isMove 2 := ⟨⟨gw_t 1 (by decide +kernel) rfl, gw_t 414 rfl rfl, ⟨by decide +kernel, by decide +kernel, by decide +kernel⟩, by decide⟩, gw_t 413 (by decide +kernel) rfl⟩
abbrev YX7_isPosition : ZM := (yX7_isPosition, cX7_isPosition, 1, (some .boolean))
set_option maxRecDepth 40000 in
theorem gX7_isPosition : ZYs YX7_isPosition 1 := ⟨⟨gw_t 1 (by decide +kernel) rfl, gw_t 316 rfl rfl, ⟨by decide +kernel, by decide +kernel, by decide +kernel⟩, by decide⟩, gw_t 315 (by decide +kernel) rfl⟩
abbrev YX7_isSafe : ZM := (yX7_isSafe, cX7_isSafe, 5, (some .boolean))
set_option maxRecDepth 40000 in
theorem gX7_isSafe : ZYv YX7_isSafe 2 := ⟨⟨gw_t 1 (by decide +kernel) rfl, gw_t 618 rfl rfl, ⟨by decide +kernel, by decide +kernel, by decide +kernel⟩, by decide⟩, gw_t 617 (by decide +kernel) rfl, gw_s 14 (by decide +kernel) rfl⟩
abbrev YX7_isScalePitch : ZM := (yX7_isScalePitch, cX7_isScalePitch, 1, (some .boolean))
set_option maxRecDepth 40000 in
theorem gX7_isScalePitch : ZYs YX7_isScalePitch 1 := ⟨⟨gw_t 1 (by decide +kernel) rfl, gw_t 297 rfl rfl, ⟨by decide +kernel, by decide +kernel, by decide +kernel⟩, by decide⟩, gw_t 296 (by decide +kernel) rfl⟩
abbrev YX7_logPassedMarks : ZM := (yX7_logPassedMarks, cX7_logPassedMarks, 8, none)
set_option maxRecDepth 40000 in
theorem gX7_logPassedMarks : ZYv YX7_logPassedMarks 2 := ⟨⟨gw_t 1 (by decide +kernel) rfl, gw_t 493 rfl rfl, ⟨by decide +kernel, by decide +kernel, by decide +kernel⟩, by decide⟩, gw_t 492 (by decide +kernel) rfl, gw_s 11 (by decide +kernel) rfl⟩
abbrev YX7_magnificationBits : ZM := (yX7_magnificationBits, cX7_magnificationBits, 2, (some .int))
set_option maxRecDepth 40000 in
theorem gX7_magnificationBits : ZYv YX7_magnificationBits 0 := ⟨⟨gw_t 1 (by decide +kernel) rfl, gw_t 660 rfl rfl, ⟨by decide +kernel, by decide +kernel, by decide +kernel⟩, by decide⟩, gw_t 658 (by decide +kernel) rfl, gw_t 659 (by decide +kernel) rfl⟩
abbrev YX7_markPosition : ZM := (yX7_markPosition, cX7_markPosition, 2, (some .int))
set_option maxRecDepth 40000 in
theorem gX7_markPosition : ZYv YX7_markPosition 1 := ⟨⟨gw_t 1 (by decide +kernel) rfl, gw_t 588 rfl rfl, ⟨by decide +kernel, by decide +kernel, by decide +kernel⟩, by decide⟩, gw_t 586 (by decide +kernel) rfl, gw_t 587 (by decide +kernel) rfl⟩
abbrev YX7_matchingPair : ZM := (yX7_matchingPair, cX7_matchingPair, 7, (some .int))
set_option maxRecDepth 40000 in
theorem gX7_matchingPair : ZYv YX7_matchingPair 2 := ⟨⟨gw_t 1 (by decide +kernel) rfl, gw_t 548 rfl rfl, ⟨by decide +kernel, by decide +kernel, by decide +kernel⟩, by decide⟩, gw_t 547 (by decide +kernel) rfl, gw_s 13 (by decide +kernel) rfl⟩
abbrev YX7_missRateBits : ZM := (yX7_missRateBits, cX7_missRateBits, 1, (some .int))
set_option maxRecDepth 40000 in
theorem gX7_missRateBits : ZYv YX7_missRateBits 0 := ⟨⟨gw_t 1 (by decide +kernel) rfl, gw_t 580 rfl rfl, ⟨by decide +kernel, by decide +kernel, by decide +kernel⟩, by decide⟩, gw_t 578 (by decide +kernel) rfl, gw_t 579 (by decide +kernel) rfl⟩
abbrev YX7_misses : ZM := (yX7_misses, cX7_misses, 1, (some .int))
set_option maxRecDepth 40000 in
theorem gX7_misses : ZYv YX7_misses 0 := ⟨⟨gw_t 1 (by decide +kernel) rfl, gw_t 572 rfl rfl, ⟨by decide +kernel, by decide +kernel, by decide +kernel⟩, by decide⟩, gw_t 570 (by decide +kernel) rfl, gw_t 571 (by decide +kernel) rfl⟩
abbrev YX7_moveTo : ZM := (yX7_moveTo, cX7_moveTo, 7, (some .int))
set_option maxRecDepth 40000 in
theorem gX7_moveTo : ZYv YX7_moveTo 2 := ⟨⟨gw_t 1 (by decide +kernel) rfl, gw_t 411 rfl rfl, ⟨by decide +kernel, by decide +kernel, by decide +kernel⟩, by decide⟩, gw_t 409 (by decide +kernel) rfl, gw_t 410 (by decide +kernel) rfl⟩
abbrev YX7_numberAt : ZM := (yX7_numberAt, cX7_numberAt, 5, (some .int))
set_option maxRecDepth 40000 in
theorem gX7_numberAt : ZYv YX7_numberAt 1 := ⟨⟨gw_t 1 (by decide +kernel) rfl, gw_t 283 rfl rfl, ⟨by decide +kernel, by decide +kernel, by decide +kernel⟩, by decide⟩, gw_t 282 (by decide +kernel) rfl, gw_s 2 (by decide +kernel) rfl⟩
abbrev YX7_overlayPeriod : ZM := (yX7_overlayPeriod, cX7_overlayPeriod, 1, (some .int))
set_option maxRecDepth 40000 in
theorem gX7_overlayPeriod : ZYv YX7_overlayPeriod 0 := ⟨⟨gw_t 1 (by decide +kernel) rfl, gw_t 637 rfl rfl, ⟨by decide +kernel, by decide +kernel, by decide +kernel⟩, by decide⟩, gw_t 635 (by decide +kernel) rfl, gw_t 636 (by decide +kernel) rfl⟩
abbrev YX7_pitchDifference : ZM := (yX7_pitchDifference, cX7_pitchDifference, 1, (some .int))
set_option maxRecDepth 40000 in
theorem gX7_pitchDifference : ZYv YX7_pitchDifference 0 := ⟨⟨gw_t 1 (by decide +kernel) rfl, gw_t 652 rfl rfl, ⟨by decide +kernel, by decide +kernel, by decide +kernel⟩, by decide⟩, gw_t 651 (by decide +kernel) rfl, gw_s 17 (by decide +kernel) rfl⟩
abbrev YX7_position : ZM := (yX7_position, cX7_position, 1, (some .int))
set_option maxRecDepth 40000 in
theorem gX7_position : ZYv YX7_position 0 := ⟨⟨gw_t 1 (by decide +kernel) rfl, gw_t 560 rfl rfl, ⟨by decide +kernel, by decide +kernel, by decide +kernel⟩, by decide⟩, gw_t 558 (by decide +kernel) rfl, gw_t 559 (by decide +kernel) rfl⟩
abbrev YX7_predictSlip : ZM := (yX7_predictSlip, cX7_predictSlip, 5, (some .long))
set_option maxRecDepth 40000 in
theorem gX7_predictSlip : ZYv YX7_predictSlip 2 := ⟨⟨gw_t 1 (by decide +kernel) rfl, gw_t 609 rfl rfl, ⟨by decide +kernel, by decide +kernel, by decide +kernel⟩, by decide⟩, gw_t 607 (by decide +kernel) rfl, gw_t 608 (by decide +kernel) rfl⟩
abbrev YX7_quadrantAt : ZM := (yX7_quadrantAt, cX7_quadrantAt, 2, (some .int))
set_option maxRecDepth 40000 in
theorem gX7_quadrantAt : ZYv YX7_quadrantAt 1 := ⟨⟨gw_t 1 (by decide +kernel) rfl, gw_t 465 rfl rfl, ⟨by decide +kernel, by decide +kernel, by decide +kernel⟩, by decide⟩, gw_t 464 (by decide +kernel) rfl, gw_s 10 (by decide +kernel) rfl⟩
abbrev YX7_quotient : ZM := (yX7_quotient, cX7_quotient, 2, (some .int))
set_option maxRecDepth 40000 in
theorem gX7_quotient : ZYs YX7_quotient 2 := ⟨⟨gw_t 1 (by decide +kernel) rfl, gw_t 444 rfl rfl, ⟨by decide +kernel, by decide +kernel, by decide +kernel⟩, by decide⟩, gw_t 443 (by decide +kernel) rfl⟩
abbrev YX7_readSample : ZM := (yX7_readSample, cX7_readSample, 3, (some .boolean))
set_option maxRecDepth 40000 in
theorem gX7_readSample : ZYv YX7_readSample 2 := ⟨⟨gw_t 1 (by decide +kernel) rfl, gw_t 455 rfl rfl, ⟨by decide +kernel, by decide +kernel, by decide +kernel⟩, by decide⟩, gw_t 454 (by decide +kernel) rfl, gw_s 9 (by decide +kernel) rfl⟩
abbrev YX7_readSetup : ZM := (yX7_readSetup, cX7_readSetup, 4, (some .int))
set_option maxRecDepth 40000 in
theorem gX7_readSetup : ZYv YX7_readSetup 0 := ⟨⟨gw_t 1 (by decide +kernel) rfl, gw_t 246 rfl rfl, ⟨by decide +kernel, by decide +kernel, by decide +kernel⟩, by decide⟩, gw_t 245 (by decide +kernel) rfl, gw_s 0 (by decide +kernel) rfl⟩
abbrev YX7_readStatement : ZM := (yX7_readStatement, cX7_readStatement, 7, (some .int))
set_option maxRecDepth 40000 in
theorem gX7_readStatement : ZYv YX7_readStatement 1 := ⟨⟨gw_t 1 (by decide +kernel) rfl, gw_t 267 rfl rfl, ⟨by decide +kernel, by decide +kernel, by decide +kernel⟩, by decide⟩, gw_t 266 (by decide +kernel) rfl, gw_s 1 (by decide +kernel) rfl⟩
abbrev YX7_recover : ZM := (yX7_recover, cX7_recover, 10, (some .int))
set_option maxRecDepth 40000 in
theorem gX7_recover : ZYv YX7_recover 1 := ⟨⟨gw_t 1 (by decide +kernel) rfl, gw_t 536 rfl rfl, ⟨by decide +kernel, by decide +kernel, by decide +kernel⟩, by decide⟩, gw_t 534 (by decide +kernel) rfl, gw_t 535 (by decide +kernel) rfl⟩
abbrev YX7_remainder : ZM := (yX7_remainder, cX7_remainder, 2, (some .int))
set_option maxRecDepth 40000 in
theorem gX7_remainder : ZYs YX7_remainder 2 := ⟨⟨gw_t 1 (by decide +kernel) rfl, gw_t 468 rfl rfl, ⟨by decide +kernel, by decide +kernel, by decide +kernel⟩, by decide⟩, gw_t 467 (by decide +kernel) rfl⟩
abbrev YX7_removeDirt : ZM := (yX7_removeDirt, cX7_removeDirt, 3, (some .int))
set_option maxRecDepth 40000 in
theorem gX7_removeDirt : ZYv YX7_removeDirt 1 := ⟨⟨gw_t 1 (by decide +kernel) rfl, gw_t 519 rfl rfl, ⟨by decide +kernel, by decide +kernel, by decide +kernel⟩, by decide⟩, gw_t 517 (by decide +kernel) rfl, gw_t 518 (by decide +kernel) rfl⟩
abbrev YX7_sampleCount : ZM := (yX7_sampleCount, cX7_sampleCount, 3, (some .int))
set_option maxRecDepth 40000 in
theorem gX7_sampleCount : ZYs YX7_sampleCount 3 := ⟨⟨gw_t 1 (by decide +kernel) rfl, gw_t 438 rfl rfl, ⟨by decide +kernel, by decide +kernel, by decide +kernel⟩, by decide⟩, gw_t 437 (by decide +kernel) rfl⟩
abbrev YX7_samplePosition : ZM := (yX7_samplePosition, cX7_samplePosition, 3, (some .int))
set_option maxRecDepth 40000 in
theorem gX7_samplePosition : ZYs YX7_samplePosition 3 := ⟨⟨gw_t 1 (by decide +kernel) rfl, gw_t 447 rfl rfl, ⟨by decide +kernel, by decide +kernel, by decide +kernel⟩, by decide⟩, gw_t 446 (by decide +kernel) rfl⟩
abbrev YX7_samples : ZM := (yX7_samples, cX7_samples, 1, (some .int))
set_option maxRecDepth 40000 in
theorem gX7_samples : ZYv YX7_samples 0 := ⟨⟨gw_t 1 (by decide +kernel) rfl, gw_t 576 rfl rfl, ⟨by decide +kernel, by decide +kernel, by decide +kernel⟩, by decide⟩, gw_t 574 (by decide +kernel) rfl, gw_t 575 (by decide +kernel) rfl⟩
abbrev YX7_setIndexGrating : ZM := (yX7_setIndexGrating, cX7_setIndexGrating, 4, (some .int))
set_option maxRecDepth 40000 in
theorem gX7_setIndexGrating : ZYv YX7_setIndexGrating 2 := ⟨⟨gw_t 1 (by decide +kernel) rfl, gw_t 507 rfl rfl, ⟨by decide +kernel, by decide +kernel, by decide +kernel⟩, by decide⟩, gw_t 505 (by decide +kernel) rfl, gw_t 506 (by decide +kernel) rfl⟩
abbrev YX7_setMode : ZM := (yX7_setMode, cX7_setMode, 3, (some .int))
set_option maxRecDepth 40000 in
theorem gX7_setMode : ZYv YX7_setMode 1 := ⟨⟨gw_t 1 (by decide +kernel) rfl, gw_t 497 rfl rfl, ⟨by decide +kernel, by decide +kernel, by decide +kernel⟩, by decide⟩, gw_t 495 (by decide +kernel) rfl, gw_t 496 (by decide +kernel) rfl⟩
abbrev YX7_slip : ZM := (yX7_slip, cX7_slip, 1, (some .long))
set_option maxRecDepth 40000 in
theorem gX7_slip : ZYv YX7_slip 0 := ⟨⟨gw_t 1 (by decide +kernel) rfl, gw_t 568 rfl rfl, ⟨by decide +kernel, by decide +kernel, by decide +kernel⟩, by decide⟩, gw_t 566 (by decide +kernel) rfl, gw_t 567 (by decide +kernel) rfl⟩
abbrev YX7_startFromDraft : ZM := (yX7_startFromDraft, cX7_startFromDraft, 1, none)
set_option maxRecDepth 40000 in
theorem gX7_startFromDraft : ZYv YX7_startFromDraft 0 := ⟨⟨gw_t 1 (by decide +kernel) rfl, gw_t 339 rfl rfl, ⟨by decide +kernel, by decide +kernel, by decide +kernel⟩, by decide⟩, gw_t 338 (by decide +kernel) rfl, gw_s 6 (by decide +kernel) rfl⟩
abbrev YX7_takeSample : ZM := (yX7_takeSample, cX7_takeSample, 2, none)
set_option maxRecDepth 40000 in
theorem gX7_takeSample : ZYv YX7_takeSample 1 := ⟨⟨gw_t 1 (by decide +kernel) rfl, gw_t 451 rfl rfl, ⟨by decide +kernel, by decide +kernel, by decide +kernel⟩, by decide⟩, gw_t 450 (by decide +kernel) rfl, gw_s 8 (by decide +kernel) rfl⟩
abbrev YX7_undo : ZM := (yX7_undo, cX7_undo, 1, (some .int))
set_option maxRecDepth 40000 in
theorem gX7_undo : ZYv YX7_undo 0 := ⟨⟨gw_t 1 (by decide +kernel) rfl, gw_t 552 rfl rfl, ⟨by decide +kernel, by decide +kernel, by decide +kernel⟩, by decide⟩, gw_t 550 (by decide +kernel) rfl, gw_t 551 (by decide +kernel) rfl⟩
abbrev YX7_within : ZM := (yX7_within, cX7_within, 3, (some .boolean))
set_option maxRecDepth 40000 in
theorem gX7_within : ZYs YX7_within 3 := ⟨⟨gw_t 1 (by decide +kernel) rfl, gw_t 290 rfl rfl, ⟨by decide +kernel, by decide +kernel, by decide +kernel⟩, by decide⟩, gw_t 289 (by decide +kernel) rfl⟩
abbrev YX7_zeroSlip : ZM := (yX7_zeroSlip, cX7_zeroSlip, 3, (some .int))
set_option maxRecDepth 40000 in
theorem gX7_zeroSlip : ZYv YX7_zeroSlip 0 := ⟨⟨gw_t 1 (by decide +kernel) rfl, gw_t 532 rfl rfl, ⟨by decide +kernel, by decide +kernel, by decide +kernel⟩, by decide⟩, gw_t 530 (by decide +kernel) rfl, gw_t 531 (by decide +kernel) rfl⟩
abbrev YX8_addDirt : ZM := (yX8_addDirt, cX8_addDirt, 3, (some .int))
set_option maxRecDepth 40000 in
theorem gX8_addDirt : ZYv YX8_addDirt 2 := ⟨⟨gw_t 14 (by decide +kernel) rfl, gw_t 845 rfl rfl, ⟨by decide +kernel, by decide +kernel, by decide +kernel⟩, by decide⟩, gw_t 843 (by decide +kernel) rfl, gw_t 844 (by decide +kernel) rfl⟩
abbrev YX8_apart : ZM := (yX8_apart, cX8_apart, 2, (some .int))
set_option maxRecDepth 40000 in
theorem gX8_apart : ZYs YX8_apart 2 := ⟨⟨gw_t 14 (by decide +kernel) rfl, gw_t 865 rfl rfl, ⟨by decide +kernel, by decide +kernel, by decide +kernel⟩, by decide⟩, gw_t 864 (by decide +kernel) rfl⟩
abbrev YX8_append : ZM := (yX8_append, cX8_append, 2, (some .int))
set_option maxRecDepth 40000 in
theorem gX8_append : ZYv YX8_append 1 := ⟨⟨gw_t 14 (by decide +kernel) rfl, gw_t 729 rfl rfl, ⟨by decide +kernel, by decide +kernel, by decide +kernel⟩, by decide⟩, gw_t 727 (by decide +kernel) rfl, gw_t 728 (by decide +kernel) rfl⟩
abbrev YX8_aside : ZM := (yX8_aside, cX8_aside, 2, none)
set_option maxRecDepth 40000 in
theorem gX8_aside : ZYv YX8_aside 0 := ⟨⟨gw_t 14 (by decide +kernel) rfl, gw_t 789 rfl rfl, ⟨by decide +kernel, by decide +kernel, by decide +kernel⟩, by decide⟩, gw_t 788 (by decide +kernel) rfl, gw_s 26 (by decide +kernel) rfl⟩
abbrev YX8_beginRead : ZM := (yX8_beginRead, cX8_beginRead, 2, none)
set_option maxRecDepth 40000 in
theorem gX8_beginRead : ZYv YX8_beginRead 0 := ⟨⟨gw_t 14 (by decide +kernel) rfl, gw_t 674 rfl rfl, ⟨by decide +kernel, by decide +kernel, by decide +kernel⟩, by decide⟩, gw_t 673 (by decide +kernel) rfl, gw_s 18 (by decide +kernel) rfl⟩
abbrev YX8_brightIn : ZM := (yX8_brightIn, cX8_brightIn, 6, (some .int))
set_option maxRecDepth 40000 in
theorem gX8_brightIn : ZYv YX8_brightIn 2 := ⟨⟨gw_t 14 (by decide +kernel) rfl, gw_t 937 rfl rfl, ⟨by decide +kernel, by decide +kernel, by decide +kernel⟩, by decide⟩, gw_t 936 (by decide +kernel) rfl, gw_s 38 (by decide +kernel) rfl⟩
abbrev YX8_brightestStart : ZM := (yX8_brightestStart, cX8_brightestStart, 6, (some .int))
set_option maxRecDepth 40000 in
theorem gX8_brightestStart : ZYv YX8_brightestStart 1 := ⟨⟨gw_t 14 (by decide +kernel) rfl, gw_t 941 rfl rfl, ⟨by decide +kernel, by decide +kernel, by decide +kernel⟩, by decide⟩, gw_t 939 (by decide +kernel) rfl, gw_t 940 (by decide +kernel) rfl⟩
abbrev YX8_brightness : ZM := (yX8_brightness, cX8_brightness, 3, (some .int))
set_option maxRecDepth 40000 in
theorem gX8_brightness : ZYv YX8_brightness 2 := ⟨⟨gw_t 14 (by decide +kernel) rfl, gw_t 931 rfl rfl, ⟨by decide +kernel, by decide +kernel, by decide +kernel⟩, by decide⟩, gw_t 929 (by decide +kernel) rfl, gw_t 930 (by decide +kernel) rfl⟩
abbrev YX8_clearText : ZM := (yX8_clearText, cX8_clearText, 2, (some .int))
set_option maxRecDepth 40000 in
theorem gX8_clearText : ZYv YX8_clearText 0 := ⟨⟨gw_t 14 (by decide +kernel) rfl, gw_t 738 rfl rfl, ⟨by decide +kernel, by decide +kernel, by decide +kernel⟩, by decide⟩, gw_t 736 (by decide +kernel) rfl, gw_t 737 (by decide +kernel) rfl⟩
abbrev YX8_common : ZM := (yX8_common, cX8_common, 5, (some .int))
set_option maxRecDepth 40000 in
theorem gX8_common : ZYs YX8_common 2 := ⟨⟨gw_t 14 (by decide +kernel) rfl, gw_t 948 rfl rfl, ⟨by decide +kernel, by decide +kernel, by decide +kernel⟩, by decide⟩, gw_t 947 (by decide +kernel) rfl⟩
abbrev YX8_configure : ZM := (yX8_configure, cX8_configure, 1, (some .int))
set_option maxRecDepth 40000 in
theorem gX8_configure : ZYv YX8_configure 0 := ⟨⟨gw_t 14 (by decide +kernel) rfl, gw_t 768 rfl rfl, ⟨by decide +kernel, by decide +kernel, by decide +kernel⟩, by decide⟩, gw_t 766 (by decide +kernel) rfl, gw_t 767 (by decide +kernel) rfl⟩
abbrev YX8_counter : ZM := (yX8_counter, cX8_counter, 1, (some .long))
set_option maxRecDepth 40000 in
theorem gX8_counter : ZYv YX8_counter 0 := ⟨⟨gw_t 14 (by decide +kernel) rfl, gw_t 873 rfl rfl, ⟨by decide +kernel, by decide +kernel, by decide +kernel⟩, by decide⟩, gw_t 871 (by decide +kernel) rfl, gw_t 872 (by decide +kernel) rfl⟩
abbrev YX8_crossedSpacingBits : ZM := (yX8_crossedSpacingBits, cX8_crossedSpacingBits, 4, (some .int))
set_option maxRecDepth 40000 in
theorem gX8_crossedSpacingBits : ZYv YX8_crossedSpacingBits 2 := ⟨⟨gw_t 14 (by decide +kernel) rfl, gw_t 968 rfl rfl, ⟨by decide +kernel, by decide +kernel, by decide +kernel⟩, by decide⟩, gw_t 966 (by decide +kernel) rfl, gw_t 967 (by decide +kernel) rfl⟩
abbrev YX8_decodes : ZM := (yX8_decodes, cX8_decodes, 4, none)
set_option maxRecDepth 40000 in
theorem gX8_decodes : ZYv YX8_decodes 1 := ⟨⟨gw_t 14 (by decide +kernel) rfl, gw_t 805 rfl rfl, ⟨by decide +kernel, by decide +kernel, by decide +kernel⟩, by decide⟩, gw_t 804 (by decide +kernel) rfl, gw_s 30 (by decide +kernel) rfl⟩
abbrev YX8_dirtStatement : ZM := (yX8_dirtStatement, cX8_dirtStatement, 2, (some .boolean))
set_option maxRecDepth 40000 in
theorem gX8_dirtStatement : ZYv YX8_dirtStatement 0 := ⟨⟨gw_t 14 (by decide +kernel) rfl, gw_t 764 rfl rfl, ⟨by decide +kernel, by decide +kernel, by decide +kernel⟩, by decide⟩, gw_t 763 (by decide +kernel) rfl, gw_s 24 (by decide +kernel) rfl⟩
abbrev YX8_eventCounter : ZM := (yX8_eventCounter, cX8_eventCounter, 2, (some .long))
set_option maxRecDepth 40000 in
theorem gX8_eventCounter : ZYv YX8_eventCounter 1 := ⟨⟨gw_t 14 (by decide +kernel) rfl, gw_t 927 rfl rfl, ⟨by decide +kernel, by decide +kernel, by decide +kernel⟩, by decide⟩, gw_t 925 (by decide +kernel) rfl, gw_t 926 (by decide +kernel) rfl⟩
abbrev YX8_eventKind : ZM := (yX8_eventKind, cX8_eventKind, 2, (some .int))
set_option maxRecDepth 40000 in
theorem gX8_eventKind : ZYv YX8_eventKind 1 := ⟨⟨gw_t 14 (by decide +kernel) rfl, gw_t 911 rfl rfl, ⟨by decide +kernel, by decide +kernel, by decide +kernel⟩, by decide⟩, gw_t 909 (by decide +kernel) rfl, gw_t 910 (by decide +kernel) rfl⟩
abbrev YX8_eventPosition : ZM := (yX8_eventPosition, cX8_eventPosition, 2, (some .int))
set_option maxRecDepth 40000 in
theorem gX8_eventPosition : ZYv YX8_eventPosition 1 := ⟨⟨gw_t 14 (by decide +kernel) rfl, gw_t 923 rfl rfl, ⟨by decide +kernel, by decide +kernel, by decide +kernel⟩, by decide⟩, gw_t 921 (by decide +kernel) rfl, gw_t 922 (by decide +kernel) rfl⟩
abbrev YX8_expectedCount : ZM := (yX8_expectedCount, cX8_expectedCount, 2, (some .int))
set_option maxRecDepth 40000 in
theorem gX8_expectedCount : ZYv YX8_expectedCount 1 := ⟨⟨gw_t 14 (by decide +kernel) rfl, gw_t 907 rfl rfl, ⟨by decide +kernel, by decide +kernel, by decide +kernel⟩, by decide⟩, gw_t 905 (by decide +kernel) rfl, gw_t 906 (by decide +kernel) rfl⟩
abbrev YX8_expects : ZM := (yX8_expects, cX8_expects, 3, (some .int))
set_option maxRecDepth 40000 in
theorem gX8_expects : ZYv YX8_expects 2 := ⟨⟨gw_t 14 (by decide +kernel) rfl, gw_t 826 rfl rfl, ⟨by decide +kernel, by decide +kernel, by decide +kernel⟩, by decide⟩, gw_t 825 (by decide +kernel) rfl, gw_s 34 (by decide +kernel) rfl⟩
abbrev YX8_fastestSafeSpeed : ZM := (yX8_fastestSafeSpeed, cX8_fastestSafeSpeed, 3, (some .int))
set_option maxRecDepth 40000 in
theorem gX8_fastestSafeSpeed : ZYv YX8_fastestSafeSpeed 1 := ⟨⟨gw_t 14 (by decide +kernel) rfl, gw_t 830 rfl rfl, ⟨by decide +kernel, by decide +kernel, by decide +kernel⟩, by decide⟩, gw_t 828 (by decide +kernel) rfl, gw_t 829 (by decide +kernel) rfl⟩
abbrev YX8_firstError : ZM := (yX8_firstError, cX8_firstError, 1, (some .int))
set_option maxRecDepth 40000 in
theorem gX8_firstError : ZYv YX8_firstError 0 := ⟨⟨gw_t 14 (by decide +kernel) rfl, gw_t 742 rfl rfl, ⟨by decide +kernel, by decide +kernel, by decide +kernel⟩, by decide⟩, gw_t 740 (by decide +kernel) rfl, gw_t 741 (by decide +kernel) rfl⟩
abbrev YX8_fringe : ZM := (yX8_fringe, cX8_fringe, 5, (some .int))
set_option maxRecDepth 40000 in
theorem gX8_fringe : ZYv YX8_fringe 1 := ⟨⟨gw_t 14 (by decide +kernel) rfl, gw_t 956 rfl rfl, ⟨by decide +kernel, by decide +kernel, by decide +kernel⟩, by decide⟩, gw_t 955 (by decide +kernel) rfl, gw_s 39 (by decide +kernel) rfl⟩
abbrev YX8_fringePeriodDenominator : ZM := (yX8_fringePeriodDenominator, cX8_fringePeriodDenominator, 1, (some .int))
set_option maxRecDepth 40000 in
theorem gX8_fringePeriodDenominator : ZYv YX8_fringePeriodDenominator 0 := ⟨⟨gw_t 14 (by decide +kernel) rfl, gw_t 960 rfl rfl, ⟨by decide +kernel, by decide +kernel, by decide +kernel⟩, by decide⟩, gw_t 958 (by decide +kernel) rfl, gw_t 959 (by decide +kernel) rfl⟩
abbrev YX8_fringePeriodNumerator : ZM := (yX8_fringePeriodNumerator, cX8_fringePeriodNumerator, 1, (some .int))
set_option maxRecDepth 40000 in
theorem gX8_fringePeriodNumerator : ZYv YX8_fringePeriodNumerator 0 := ⟨⟨gw_t 14 (by decide +kernel) rfl, gw_t 952 rfl rfl, ⟨by decide +kernel, by decide +kernel, by decide +kernel⟩, by decide⟩, gw_t 950 (by decide +kernel) rfl, gw_t 951 (by decide +kernel) rfl⟩
abbrev YX8_in : ZM := (yX8_in, cX8_in, 6, (some .boolean))
set_option maxRecDepth 40000 in
theorem gX8_in : ZYs YX8_in 3 := ⟨⟨gw_t 14 (by decide +kernel) rfl, gw_t 734 rfl rfl, ⟨by decide +kernel, by decide +kernel, by decide +kernel⟩, by decide⟩, gw_t 733 (by decide +kernel) rfl⟩
abbrev YX8_init : ZM := (yX8_init, cX8_init, 1, none)
set_option maxRecDepth 40000 in
theorem gX8_init : ZYi YX8_init 0 := ⟨⟨gw_t 14 (by decide +kernel) rfl, gw_t 669 rfl rfl, ⟨by decide +kernel, by decide +kernel, by decide +kernel⟩, by decide⟩, gw_t 668 (by decide +kernel) rfl, rfl, rfl⟩
abbrev YX8_isCounted : ZM := (yX8_isCounted, cX8_isCounted, 2, (some .boolean))
set_option maxRecDepth 40000 in
theorem gX8_isCounted : ZYv YX8_isCounted 1 := ⟨⟨gw_t 14 (by decide +kernel) rfl, gw_t 813 rfl rfl, ⟨by decide +kernel, by decide +kernel, by decide +kernel⟩, by decide⟩, gw_t 812 (by decide +kernel) rfl, gw_s 32 (by decide +kernel) rfl⟩
abbrev YX8_isDirty : ZM := (yX8_isDirty, cX8_isDirty, 5, (some .boolean))
set_option maxRecDepth 40000 in
theorem gX8_isDirty : ZYv YX8_isDirty 1 := ⟨⟨gw_t 14 (by decide +kernel) rfl, gw_t 801 rfl rfl, ⟨by decide +kernel, by decide +kernel, by decide +kernel⟩, by decide⟩, gw_t 800 (by decide +kernel) rfl, gw_s 29 (by decide +kernel) rfl⟩
abbrev YX8_isEvent : ZM := (yX8_isEvent, cX8_isEvent, 2, (some .boolean))
set_option maxRecDepth 40000 in
theorem gX8_isEvent : ZYv YX8_isEvent 1 := ⟨⟨gw_t 14 (by decide +kernel) rfl, gw_t 915 rfl rfl, ⟨by decide +kernel, by decide +kernel, by decide +kernel⟩, by decide⟩, gw_t 914 (by decide +kernel) rfl, gw_s 36 (by decide +kernel) rfl⟩
abbrev YX8_isMove : ZM := (yX8_isMove, cX8_isMove, 2, (some .boolean))
set_option maxRecDepth 40000 in
theorem gX8_isMove : ZYs YX8_isMove 2 := ⟨⟨gw_t 14 (by decide +kernel) rfl, gw_t 779 rfl rfl, ⟨by decide +kernel, by decide +kernel, by decide +kernel⟩, by decide⟩, gw_t 778 (by decide +kernel) rfl⟩
abbrev YX8_isNumber : ZM := (yX8_isNumber, cX8_isNumber, 6, (some .boolean))
set_option maxRecDepth 40000 in
theorem gX8_isNumber : ZYv YX8_isNumber 3 := ⟨⟨gw_t 14 (by decide +kernel) rfl, gw_t 758 rfl rfl, ⟨by decide +kernel, by decide +kernel, by decide +kernel⟩, by decide⟩, gw_t 757 (by decide +kernel) rfl, gw_s 23 (by decide +kernel) rfl⟩
abbrev YX8_keeps : ZM := (yX8_keeps, cX8_keeps, 2, none)
set_option maxRecDepth 40000 in
theorem gX8_keeps : ZYv YX8_keeps 0 := ⟨⟨gw_t 14 (by decide +kernel) rfl, gw_t 785 rfl rfl, ⟨by decide +kernel, by decide +kernel, by decide +kernel⟩, by decide⟩, gw_t 784 (by decide +kernel) rfl, gw_s 25 (by decide +kernel) rfl⟩
abbrev YX8_letterHere : ZM := (yX8_letterHere, cX8_letterHere, 1, (some .int))
set_option maxRecDepth 40000 in
theorem gX8_letterHere : ZYv YX8_letterHere 0 := ⟨⟨gw_t 14 (by decide +kernel) rfl, gw_t 754 rfl rfl, ⟨by decide +kernel, by decide +kernel, by decide +kernel⟩, by decide⟩, gw_t 753 (by decide +kernel) rfl, gw_s 22 (by decide +kernel) rfl⟩
abbrev YX8_logs : ZM := (yX8_logs, cX8_logs, 4, none)
set_option maxRecDepth 40000 in
theorem gX8_logs : ZYv YX8_logs 2 := ⟨⟨gw_t 14 (by decide +kernel) rfl, gw_t 809 rfl rfl, ⟨by decide +kernel, by decide +kernel, by decide +kernel⟩, by decide⟩, gw_t 808 (by decide +kernel) rfl, gw_s 31 (by decide +kernel) rfl⟩
abbrev YX8_magnificationBits : ZM := (yX8_magnificationBits, cX8_magnificationBits, 2, (some .int))
set_option maxRecDepth 40000 in
theorem gX8_magnificationBits : ZYv YX8_magnificationBits 0 := ⟨⟨gw_t 14 (by decide +kernel) rfl, gw_t 964 rfl rfl, ⟨by decide +kernel, by decide +kernel, by decide +kernel⟩, by decide⟩, gw_t 962 (by decide +kernel) rfl, gw_t 963 (by decide +kernel) rfl⟩
abbrev YX8_markEvent : ZM := (yX8_markEvent, cX8_markEvent, 4, (some .int))
set_option maxRecDepth 40000 in
theorem gX8_markEvent : ZYv YX8_markEvent 1 := ⟨⟨gw_t 14 (by decide +kernel) rfl, gw_t 862 rfl rfl, ⟨by decide +kernel, by decide +kernel, by decide +kernel⟩, by decide⟩, gw_t 861 (by decide +kernel) rfl, gw_s 35 (by decide +kernel) rfl⟩
abbrev YX8_markPosition : ZM := (yX8_markPosition, cX8_markPosition, 2, (some .int))
set_option maxRecDepth 40000 in
theorem gX8_markPosition : ZYv YX8_markPosition 1 := ⟨⟨gw_t 14 (by decide +kernel) rfl, gw_t 903 rfl rfl, ⟨by decide +kernel, by decide +kernel, by decide +kernel⟩, by decide⟩, gw_t 901 (by decide +kernel) rfl, gw_t 902 (by decide +kernel) rfl⟩
abbrev YX8_missRateBits : ZM := (yX8_missRateBits, cX8_missRateBits, 1, (some .int))
set_option maxRecDepth 40000 in
theorem gX8_missRateBits : ZYv YX8_missRateBits 0 := ⟨⟨gw_t 14 (by decide +kernel) rfl, gw_t 889 rfl rfl, ⟨by decide +kernel, by decide +kernel, by decide +kernel⟩, by decide⟩, gw_t 887 (by decide +kernel) rfl, gw_t 888 (by decide +kernel) rfl⟩
abbrev YX8_misses : ZM := (yX8_misses, cX8_misses, 1, (some .int))
set_option maxRecDepth 40000 in
theorem gX8_misses : ZYv YX8_misses 0 := ⟨⟨gw_t 14 (by decide +kernel) rfl, gw_t 881 rfl rfl, ⟨by decide +kernel, by decide +kernel, by decide +kernel⟩, by decide⟩, gw_t 879 (by decide +kernel) rfl, gw_t 880 (by decide +kernel) rfl⟩
abbrev YX8_moveTo : ZM := (yX8_moveTo, cX8_moveTo, 5, (some .int))
set_option maxRecDepth 40000 in
theorem gX8_moveTo : ZYv YX8_moveTo 2 := ⟨⟨gw_t 14 (by decide +kernel) rfl, gw_t 776 rfl rfl, ⟨by decide +kernel, by decide +kernel, by decide +kernel⟩, by decide⟩, gw_t 774 (by decide +kernel) rfl, gw_t 775 (by decide +kernel) rfl⟩
abbrev YX8_moves : ZM := (yX8_moves, cX8_moves, 6, none)
set_option maxRecDepth 40000 in
theorem gX8_moves : ZYv YX8_moves 2 := ⟨⟨gw_t 14 (by decide +kernel) rfl, gw_t 793 rfl rfl, ⟨by decide +kernel, by decide +kernel, by decide +kernel⟩, by decide⟩, gw_t 792 (by decide +kernel) rfl, gw_s 27 (by decide +kernel) rfl⟩
abbrev YX8_ofEvent : ZM := (yX8_ofEvent, cX8_ofEvent, 3, (some .int))
set_option maxRecDepth 40000 in
theorem gX8_ofEvent : ZYv YX8_ofEvent 2 := ⟨⟨gw_t 14 (by decide +kernel) rfl, gw_t 919 rfl rfl, ⟨by decide +kernel, by decide +kernel, by decide +kernel⟩, by decide⟩, gw_t 918 (by decide +kernel) rfl, gw_s 37 (by decide +kernel) rfl⟩
abbrev YX8_overlayPeriod : ZM := (yX8_overlayPeriod, cX8_overlayPeriod, 1, (some .int))
set_option maxRecDepth 40000 in
theorem gX8_overlayPeriod : ZYv YX8_overlayPeriod 0 := ⟨⟨gw_t 14 (by decide +kernel) rfl, gw_t 945 rfl rfl, ⟨by decide +kernel, by decide +kernel, by decide +kernel⟩, by decide⟩, gw_t 943 (by decide +kernel) rfl, gw_t 944 (by decide +kernel) rfl⟩
abbrev YX8_position : ZM := (yX8_position, cX8_position, 1, (some .int))
set_option maxRecDepth 40000 in
theorem gX8_position : ZYv YX8_position 0 := ⟨⟨gw_t 14 (by decide +kernel) rfl, gw_t 869 rfl rfl, ⟨by decide +kernel, by decide +kernel, by decide +kernel⟩, by decide⟩, gw_t 867 (by decide +kernel) rfl, gw_t 868 (by decide +kernel) rfl⟩
abbrev YX8_predictSlip : ZM := (yX8_predictSlip, cX8_predictSlip, 3, (some .long))
set_option maxRecDepth 40000 in
theorem gX8_predictSlip : ZYv YX8_predictSlip 2 := ⟨⟨gw_t 14 (by decide +kernel) rfl, gw_t 817 rfl rfl, ⟨by decide +kernel, by decide +kernel, by decide +kernel⟩, by decide⟩, gw_t 815 (by decide +kernel) rfl, gw_t 816 (by decide +kernel) rfl⟩
abbrev YX8_readAll : ZM := (yX8_readAll, cX8_readAll, 2, (some .int))
set_option maxRecDepth 40000 in
theorem gX8_readAll : ZYv YX8_readAll 0 := ⟨⟨gw_t 14 (by decide +kernel) rfl, gw_t 746 rfl rfl, ⟨by decide +kernel, by decide +kernel, by decide +kernel⟩, by decide⟩, gw_t 745 (by decide +kernel) rfl, gw_s 20 (by decide +kernel) rfl⟩
abbrev YX8_recover : ZM := (yX8_recover, cX8_recover, 8, (some .int))
set_option maxRecDepth 40000 in
theorem gX8_recover : ZYv YX8_recover 1 := ⟨⟨gw_t 14 (by decide +kernel) rfl, gw_t 857 rfl rfl, ⟨by decide +kernel, by decide +kernel, by decide +kernel⟩, by decide⟩, gw_t 855 (by decide +kernel) rfl, gw_t 856 (by decide +kernel) rfl⟩
abbrev YX8_removeDirt : ZM := (yX8_removeDirt, cX8_removeDirt, 4, (some .int))
set_option maxRecDepth 40000 in
theorem gX8_removeDirt : ZYv YX8_removeDirt 1 := ⟨⟨gw_t 14 (by decide +kernel) rfl, gw_t 849 rfl rfl, ⟨by decide +kernel, by decide +kernel, by decide +kernel⟩, by decide⟩, gw_t 847 (by decide +kernel) rfl, gw_t 848 (by decide +kernel) rfl⟩
abbrev YX8_sampleAt : ZM := (yX8_sampleAt, cX8_sampleAt, 5, none)
set_option maxRecDepth 40000 in
theorem gX8_sampleAt : ZYv YX8_sampleAt 2 := ⟨⟨gw_t 14 (by decide +kernel) rfl, gw_t 797 rfl rfl, ⟨by decide +kernel, by decide +kernel, by decide +kernel⟩, by decide⟩, gw_t 796 (by decide +kernel) rfl, gw_s 28 (by decide +kernel) rfl⟩
abbrev YX8_samples : ZM := (yX8_samples, cX8_samples, 1, (some .int))
set_option maxRecDepth 40000 in
theorem gX8_samples : ZYv YX8_samples 0 := ⟨⟨gw_t 14 (by decide +kernel) rfl, gw_t 885 rfl rfl, ⟨by decide +kernel, by decide +kernel, by decide +kernel⟩, by decide⟩, gw_t 883 (by decide +kernel) rfl, gw_t 884 (by decide +kernel) rfl⟩
abbrev YX8_setIndexGrating : ZM := (yX8_setIndexGrating, cX8_setIndexGrating, 4, (some .int))
set_option maxRecDepth 40000 in
theorem gX8_setIndexGrating : ZYv YX8_setIndexGrating 2 := ⟨⟨gw_t 14 (by decide +kernel) rfl, gw_t 838 rfl rfl, ⟨by decide +kernel, by decide +kernel, by decide +kernel⟩, by decide⟩, gw_t 836 (by decide +kernel) rfl, gw_t 837 (by decide +kernel) rfl⟩
abbrev YX8_setMode : ZM := (yX8_setMode, cX8_setMode, 3, (some .int))
set_option maxRecDepth 40000 in
theorem gX8_setMode : ZYv YX8_setMode 1 := ⟨⟨gw_t 14 (by decide +kernel) rfl, gw_t 834 rfl rfl, ⟨by decide +kernel, by decide +kernel, by decide +kernel⟩, by decide⟩, gw_t 832 (by decide +kernel) rfl, gw_t 833 (by decide +kernel) rfl⟩
abbrev YX8_slip : ZM := (yX8_slip, cX8_slip, 1, (some .long))
set_option maxRecDepth 40000 in
theorem gX8_slip : ZYv YX8_slip 0 := ⟨⟨gw_t 14 (by decide +kernel) rfl, gw_t 877 rfl rfl, ⟨by decide +kernel, by decide +kernel, by decide +kernel⟩, by decide⟩, gw_t 875 (by decide +kernel) rfl, gw_t 876 (by decide +kernel) rfl⟩
abbrev YX8_slipOf : ZM := (yX8_slipOf, cX8_slipOf, 2, (some .long))
set_option maxRecDepth 40000 in
theorem gX8_slipOf : ZYv YX8_slipOf 1 := ⟨⟨gw_t 14 (by decide +kernel) rfl, gw_t 822 rfl rfl, ⟨by decide +kernel, by decide +kernel, by decide +kernel⟩, by decide⟩, gw_t 821 (by decide +kernel) rfl, gw_s 33 (by decide +kernel) rfl⟩
abbrev YX8_statement : ZM := (yX8_statement, cX8_statement, 2, (some .boolean))
set_option maxRecDepth 40000 in
theorem gX8_statement : ZYv YX8_statement 0 := ⟨⟨gw_t 14 (by decide +kernel) rfl, gw_t 750 rfl rfl, ⟨by decide +kernel, by decide +kernel, by decide +kernel⟩, by decide⟩, gw_t 749 (by decide +kernel) rfl, gw_s 21 (by decide +kernel) rfl⟩
abbrev YX8_takeRead : ZM := (yX8_takeRead, cX8_takeRead, 2, none)
set_option maxRecDepth 40000 in
theorem gX8_takeRead : ZYv YX8_takeRead 0 := ⟨⟨gw_t 14 (by decide +kernel) rfl, gw_t 678 rfl rfl, ⟨by decide +kernel, by decide +kernel, by decide +kernel⟩, by decide⟩, gw_t 677 (by decide +kernel) rfl, gw_s 19 (by decide +kernel) rfl⟩
abbrev YX8_undo : ZM := (yX8_undo, cX8_undo, 2, (some .int))
set_option maxRecDepth 40000 in
theorem gX8_undo : ZYv YX8_undo 0 := ⟨⟨gw_t 14 (by decide +kernel) rfl, gw_t 772 rfl rfl, ⟨by decide +kernel, by decide +kernel, by decide +kernel⟩, by decide⟩, gw_t 770 (by decide +kernel) rfl, gw_t 771 (by decide +kernel) rfl⟩
abbrev YX8_zeroSlip : ZM := (yX8_zeroSlip, cX8_zeroSlip, 3, (some .int))
set_option maxRecDepth 40000 in
theorem gX8_zeroSlip : ZYv YX8_zeroSlip 0 := ⟨⟨gw_t 14 (by decide +kernel) rfl, gw_t 853 rfl rfl, ⟨by decide +kernel, by decide +kernel, by decide +kernel⟩, by decide⟩, gw_t 851 (by decide +kernel) rfl, gw_t 852 (by decide +kernel) rfl⟩
theorem nL_7 : ZN RL 7 7 7 [.null, .null, .null, .null, .null, .null, .int 0] := ⟨RX7, TX7, tyX7, rfl, iwX7, tyX7_ok, gw_t 16 (by decide +kernel) rfl, gw_t 17 (by decide +kernel) rfl, gw_t 1 (by decide +kernel) rfl, fun j hj => by match j, hj with | 0, _ => rfl | 1, _ => rfl | 2, _ => rfl | 3, _ => rfl | 4, _ => rfl | 5, _ => rfl | 6, _ => rfl⟩
theorem lL_9 : Cond.methodLink RL 9 yX7_init ∈ gw := gw_t 18 (by decide +kernel) rfl
theorem nX7_7 : ZN RX7 7 4 2 [.null, .int 0] := ⟨RX4, TX4, tyX4, rfl, iwX4, tyX4_ok, gw_t 24 (by decide +kernel) rfl, gw_t 25 (by decide +kernel) rfl, gw_t 2 (by decide +kernel) rfl, fun j hj => by match j, hj with | 0, _ => rfl | 1, _ => rfl⟩
theorem lX7_11 : Cond.methodLink RX7 11 yX4_init ∈ gw := gw_t 26 (by decide +kernel) rfl
theorem nX7_18 : ZN RX7 18 5 6 [.null, .null, .int 0, .int 0, .int 0, .int 0] := ⟨RX5, TX5, tyX5, rfl, iwX5, tyX5_ok, gw_t 41 (by decide +kernel) rfl, gw_t 42 (by decide +kernel) rfl, gw_t 4 (by decide +kernel) rfl, fun j hj => by match j, hj with | 0, _ => rfl | 1, _ => rfl | 2, _ => rfl | 3, _ => rfl | 4, _ => rfl | 5, _ => rfl⟩
theorem lX7_20 : (RX7, 20, yX5_init, "MoireEncoder") ∈ zNm := by decide +kernel
theorem nX5_9 : ZN RX5 9 4 2 [.null, .int 0] := ⟨RX4, TX4, tyX4, rfl, iwX4, tyX4_ok, gw_t 47 (by decide +kernel) rfl, gw_t 25 (by decide +kernel) rfl, gw_t 2 (by decide +kernel) rfl, fun j hj => by match j, hj with | 0, _ => rfl | 1, _ => rfl⟩
theorem lX5_11 : Cond.methodLink RX5 11 yX4_init ∈ gw := gw_t 48 (by decide +kernel) rfl
theorem nX5_20 : ZN RX5 20 1 2 [.null, .null] := ⟨RX1, TX1, tyX1, rfl, iwX1, tyX1_ok, gw_t 49 (by decide +kernel) rfl, gw_t 50 (by decide +kernel) rfl, gw_t 5 (by decide +kernel) rfl, fun j hj => by match j, hj with | 0, _ => rfl | 1, _ => rfl⟩
theorem lX5_22 : (RX5, 22, yX1_init, "MoireEncoder") ∈ zNm := by decide +kernel
theorem nX1_9 : ZN RX1 9 4 2 [.null, .int 0] := ⟨RX4, TX4, tyX4, rfl, iwX4, tyX4_ok, gw_t 55 (by decide +kernel) rfl, gw_t 25 (by decide +kernel) rfl, gw_t 2 (by decide +kernel) rfl, fun j hj => by match j, hj with | 0, _ => rfl | 1, _ => rfl⟩
theorem lX1_11 : Cond.methodLink RX1 11 yX4_init ∈ gw := gw_t 56 (by decide +kernel) rfl
theorem nX7_28 : ZN RX7 28 2 2 [.null, .int 0] := ⟨RX2, TX2, tyX2, rfl, iwX2, tyX2_ok, gw_t 91 (by decide +kernel) rfl, gw_t 92 (by decide +kernel) rfl, gw_t 6 (by decide +kernel) rfl, fun j hj => by match j, hj with | 0, _ => rfl | 1, _ => rfl⟩
theorem lX7_30 : Cond.methodLink RX7 30 yX2_init ∈ gw := gw_t 93 (by decide +kernel) rfl
theorem nX2_9 : ZN RX2 9 6 8 [.null, .null, .null, .int 0, .int 0, .int 0, .int 0, .int 0] := ⟨RX6, TX6, tyX6, rfl, iwX6, tyX6_ok, gw_t 97 (by decide +kernel) rfl, gw_t 99 (by decide +kernel) rfl, gw_t 7 (by decide +kernel) rfl, fun j hj => by match j, hj with | 0, _ => rfl | 1, _ => rfl | 2, _ => rfl | 3, _ => rfl | 4, _ => rfl | 5, _ => rfl | 6, _ => rfl | 7, _ => rfl⟩
theorem lX2_17 : (RX2, 17, yX6_init, "MoireEncoder") ∈ zNm := by decide +kernel
theorem nX6_7 : ZN RX6 7 0 3 [.int 0, .long 0, .int 0] := ⟨RX0, TX0, tyX0, rfl, iwX0, tyX0_ok, gw_t 104 (by decide +kernel) rfl, gw_t 105 (by decide +kernel) rfl, gw_t 8 (by decide +kernel) rfl, fun j hj => by match j, hj with | 0, _ => rfl | 1, _ => rfl | 2, _ => rfl⟩
theorem lX6_9 : (RX6, 9, yX0_init, "MoireEncoder") ∈ zNm := by decide +kernel
theorem nX6_16 : ZN RX6 16 3 3 [.null, .null, .null] := ⟨RX3, TX3, tyX3, rfl, iwX3, tyX3_ok, gw_t 122 (by decide +kernel) rfl, gw_t 123 (by decide +kernel) rfl, gw_t 9 (by decide +kernel) rfl, fun j hj => by match j, hj with | 0, _ => rfl | 1, _ => rfl | 2, _ => rfl⟩
theorem lX6_18 : (RX6, 18, yX3_init, "MoireEncoder") ∈ zNm := by decide +kernel
theorem nX3_9 : ZN RX3 9 4 2 [.null, .int 0] := ⟨RX4, TX4, tyX4, rfl, iwX4, tyX4_ok, gw_t 128 (by decide +kernel) rfl, gw_t 25 (by decide +kernel) rfl, gw_t 2 (by decide +kernel) rfl, fun j hj => by match j, hj with | 0, _ => rfl | 1, _ => rfl⟩
theorem lX3_11 : Cond.methodLink RX3 11 yX4_init ∈ gw := gw_t 129 (by decide +kernel) rfl
theorem nX6_23 : ZN RX6 23 1 2 [.null, .null] := ⟨RX1, TX1, tyX1, rfl, iwX1, tyX1_ok, gw_t 143 (by decide +kernel) rfl, gw_t 50 (by decide +kernel) rfl, gw_t 5 (by decide +kernel) rfl, fun j hj => by match j, hj with | 0, _ => rfl | 1, _ => rfl⟩
theorem lX6_25 : (RX6, 25, yX1_init, "MoireEncoder") ∈ zNm := by decide +kernel
theorem nX7_35 : ZN RX7 35 0 3 [.int 0, .long 0, .int 0] := ⟨RX0, TX0, tyX0, rfl, iwX0, tyX0_ok, gw_t 186 (by decide +kernel) rfl, gw_t 105 (by decide +kernel) rfl, gw_t 8 (by decide +kernel) rfl, fun j hj => by match j, hj with | 0, _ => rfl | 1, _ => rfl | 2, _ => rfl⟩
theorem lX7_37 : (RX7, 37, yX0_init, "MoireEncoder") ∈ zNm := by decide +kernel
theorem nX7_42 : ZN RX7 42 6 8 [.null, .null, .null, .int 0, .int 0, .int 0, .int 0, .int 0] := ⟨RX6, TX6, tyX6, rfl, iwX6, tyX6_ok, gw_t 188 (by decide +kernel) rfl, gw_t 99 (by decide +kernel) rfl, gw_t 7 (by decide +kernel) rfl, fun j hj => by match j, hj with | 0, _ => rfl | 1, _ => rfl | 2, _ => rfl | 3, _ => rfl | 4, _ => rfl | 5, _ => rfl | 6, _ => rfl | 7, _ => rfl⟩
theorem lX7_44 : (RX7, 44, yX6_init, "MoireEncoder") ∈ zNm := by decide +kernel
theorem lX7_61 : Cond.methodLink RX7 61 yX4_add ∈ gw := gw_t 239 (by decide +kernel) rfl
theorem lX7_65 : Cond.methodLink RX7 65 yX7_readSetup ∈ gw := gw_t 243 (by decide +kernel) rfl
theorem lX7_89 : Cond.methodLink RX7 89 yX5_reset ∈ gw := gw_t 247 (by decide +kernel) rfl
theorem lX5_27 : Cond.methodLink RX5 27 yX4_clear ∈ gw := gw_t 251 (by decide +kernel) rfl
theorem lX5_30 : Cond.methodLink RX5 30 yX1_clear ∈ gw := gw_t 255 (by decide +kernel) rfl
theorem lX1_42 : Cond.methodLink RX1 42 yX4_clear ∈ gw := gw_t 259 (by decide +kernel) rfl
theorem lX7_82 : Cond.methodLink RX7 82 yX4_size ∈ gw := gw_t 260 (by decide +kernel) rfl
theorem lX7_92 : Cond.methodLink RX7 92 yX7_readStatement ∈ gw := gw_t 264 (by decide +kernel) rfl
theorem lX7_96 : Cond.methodLink RX7 96 yX4_intAt ∈ gw := gw_t 268 (by decide +kernel) rfl
theorem lX4_27 : Cond.methodLink RX4 27 yX4_longAt ∈ gw := gw_t 272 (by decide +kernel) rfl
theorem lX4_23 : Cond.methodLink RX4 23 yX4_has ∈ gw := gw_t 276 (by decide +kernel) rfl
theorem lX7_99 : Cond.methodLink RX7 99 yX7_numberAt ∈ gw := gw_t 280 (by decide +kernel) rfl
theorem lX7_102 : Cond.methodLink RX7 102 yX7_digitsFrom ∈ gw := gw_t 284 (by decide +kernel) rfl
theorem lX7_74 : Cond.methodLink RX7 74 yX7_within ∈ gw := gw_t 288 (by decide +kernel) rfl
theorem lX7_105 : Cond.methodLink RX7 105 yX5_take ∈ gw := gw_t 291 (by decide +kernel) rfl
theorem lX5_44 : (RX5, 44, yX7_isScalePitch, "MoireEncoder") ∈ zNm := by decide +kernel
theorem lX5_48 : (RX5, 48, yX7_isIndexGrating, "MoireEncoder") ∈ zNm := by decide +kernel
theorem lX5_52 : (RX5, 52, yX7_isMode, "MoireEncoder") ∈ zNm := by decide +kernel
theorem lX5_55 : Cond.methodLink RX5 55 yX5_takeMark ∈ gw := gw_t 304 (by decide +kernel) rfl
theorem lX5_61 : Cond.methodLink RX5 61 yX4_size ∈ gw := gw_t 308 (by decide +kernel) rfl
theorem lX5_65 : Cond.methodLink RX5 65 yX4_intAt ∈ gw := gw_t 309 (by decide +kernel) rfl
theorem lX5_69 : Cond.methodLink RX5 69 yX4_isFull ∈ gw := gw_t 310 (by decide +kernel) rfl
theorem lX5_73 : (RX5, 73, yX7_isPosition, "MoireEncoder") ∈ zNm := by decide +kernel
theorem lX5_76 : Cond.methodLink RX5 76 yX4_add ∈ gw := gw_t 317 (by decide +kernel) rfl
theorem lX5_58 : Cond.methodLink RX5 58 yX5_takeDirt ∈ gw := gw_t 318 (by decide +kernel) rfl
theorem lX5_80 : Cond.methodLink RX5 80 yX1_isFull ∈ gw := gw_t 322 (by decide +kernel) rfl
theorem lX1_23 : Cond.methodLink RX1 23 yX4_isFull ∈ gw := gw_t 326 (by decide +kernel) rfl
theorem lX5_81 : (RX5, 81, yX7_isDirt, "MoireEncoder") ∈ zNm := by decide +kernel
theorem lX7_264 : Cond.methodLink RX7 264 yX7_isPosition ∈ gw := gw_t 330 (by decide +kernel) rfl
theorem lX5_84 : Cond.methodLink RX5 84 yX1_add ∈ gw := gw_t 331 (by decide +kernel) rfl
theorem lX1_27 : Cond.methodLink RX1 27 yX4_add ∈ gw := gw_t 335 (by decide +kernel) rfl
theorem lX7_68 : Cond.methodLink RX7 68 yX7_startFromDraft ∈ gw := gw_t 336 (by decide +kernel) rfl
theorem lX7_110 : Cond.methodLink RX7 110 yX4_copyFrom ∈ gw := gw_t 340 (by decide +kernel) rfl
theorem lX4_31 : Cond.methodLink RX4 31 yX4_add ∈ gw := gw_t 344 (by decide +kernel) rfl
theorem lX7_114 : Cond.methodLink RX7 114 yX6_startFrom ∈ gw := gw_t 345 (by decide +kernel) rfl
theorem lX6_30 : Cond.methodLink RX6 30 yX0_reset ∈ gw := gw_t 349 (by decide +kernel) rfl
theorem lX6_33 : Cond.methodLink RX6 33 yX3_clear ∈ gw := gw_t 353 (by decide +kernel) rfl
theorem lX3_38 : Cond.methodLink RX3 38 yX4_clear ∈ gw := gw_t 357 (by decide +kernel) rfl
theorem lX6_39 : Cond.methodLink RX6 39 yX1_copyFrom ∈ gw := gw_t 358 (by decide +kernel) rfl
theorem lX1_45 : Cond.methodLink RX1 45 yX4_copyFrom ∈ gw := gw_t 362 (by decide +kernel) rfl
theorem lX7_118 : Cond.methodLink RX7 118 yX2_forgetAll ∈ gw := gw_t 363 (by decide +kernel) rfl
theorem lX7_71 : Cond.methodLink RX7 71 yX4_clear ∈ gw := gw_t 367 (by decide +kernel) rfl
theorem lL_13 : Cond.methodLink RL 13 yX7_append ∈ gw := gw_t 391 (by decide +kernel) rfl
theorem lX7_78 : Cond.methodLink RX7 78 yX4_isFull ∈ gw := gw_t 395 (by decide +kernel) rfl
theorem lL_18 : Cond.methodLink RL 18 yX7_clearText ∈ gw := gw_t 396 (by decide +kernel) rfl
theorem lL_23 : Cond.methodLink RL 23 yX7_firstError ∈ gw := gw_t 400 (by decide +kernel) rfl
theorem lL_27 : Cond.methodLink RL 27 yX7_configure ∈ gw := gw_t 404 (by decide +kernel) rfl
theorem lL_31 : Cond.methodLink RL 31 yX7_moveTo ∈ gw := gw_t 408 (by decide +kernel) rfl
theorem lX7_121 : Cond.methodLink RX7 121 yX7_isMove ∈ gw := gw_t 412 (by decide +kernel) rfl
theorem lX7_125 : Cond.methodLink RX7 125 yX2_remember ∈ gw := gw_t 415 (by decide +kernel) rfl
theorem lX2_22 : Cond.methodLink RX2 22 yX2_dropOldest ∈ gw := gw_t 419 (by decide +kernel) rfl
theorem lX2_25 : Cond.methodLink RX2 25 yX6_copyFrom ∈ gw := gw_t 423 (by decide +kernel) rfl
theorem lX6_62 : Cond.methodLink RX6 62 yX0_copyFrom ∈ gw := gw_t 427 (by decide +kernel) rfl
theorem lX6_65 : Cond.methodLink RX6 65 yX3_copyFrom ∈ gw := gw_t 431 (by decide +kernel) rfl
theorem lX3_41 : Cond.methodLink RX3 41 yX4_copyFrom ∈ gw := gw_t 435 (by decide +kernel) rfl
theorem lX7_138 : Cond.methodLink RX7 138 yX7_sampleCount ∈ gw := gw_t 436 (by decide +kernel) rfl
theorem lX7_231 : Cond.methodLink RX7 231 yX7_quotient ∈ gw := gw_t 442 (by decide +kernel) rfl
theorem lX7_142 : Cond.methodLink RX7 142 yX7_samplePosition ∈ gw := gw_t 445 (by decide +kernel) rfl
theorem lX7_145 : Cond.methodLink RX7 145 yX7_takeSample ∈ gw := gw_t 448 (by decide +kernel) rfl
theorem lX7_238 : Cond.methodLink RX7 238 yX7_readSample ∈ gw := gw_t 452 (by decide +kernel) rfl
theorem lX7_251 : Cond.methodLink RX7 251 yX1_covers ∈ gw := gw_t 456 (by decide +kernel) rfl
theorem lX1_34 : Cond.methodLink RX1 34 yX4_size ∈ gw := gw_t 460 (by decide +kernel) rfl
theorem lX1_38 : Cond.methodLink RX1 38 yX4_intAt ∈ gw := gw_t 461 (by decide +kernel) rfl
theorem lX7_254 : Cond.methodLink RX7 254 yX7_quadrantAt ∈ gw := gw_t 462 (by decide +kernel) rfl
theorem lX7_277 : Cond.methodLink RX7 277 yX7_remainder ∈ gw := gw_t 466 (by decide +kernel) rfl
theorem lX7_257 : Cond.methodLink RX7 257 yX0_read ∈ gw := gw_t 469 (by decide +kernel) rfl
theorem lX0_13 : Cond.methodLink RX0 13 yX0_counts ∈ gw := gw_t 473 (by decide +kernel) rfl
theorem lX7_242 : Cond.methodLink RX7 242 yX3_wantsMiss ∈ gw := gw_t 476 (by decide +kernel) rfl
theorem lX3_30 : Cond.methodLink RX3 30 yX4_size ∈ gw := gw_t 480 (by decide +kernel) rfl
theorem lX3_34 : Cond.methodLink RX3 34 yX4_intAt ∈ gw := gw_t 481 (by decide +kernel) rfl
theorem lX7_245 : Cond.methodLink RX7 245 yX3_add ∈ gw := gw_t 482 (by decide +kernel) rfl
theorem lX3_26 : Cond.methodLink RX3 26 yX4_addFirst ∈ gw := gw_t 486 (by decide +kernel) rfl
theorem lX7_248 : Cond.methodLink RX7 248 yX7_logPassedMarks ∈ gw := gw_t 490 (by decide +kernel) rfl
theorem lL_36 : Cond.methodLink RL 36 yX7_setMode ∈ gw := gw_t 494 (by decide +kernel) rfl
theorem lX7_148 : Cond.methodLink RX7 148 yX7_isMode ∈ gw := gw_t 498 (by decide +kernel) rfl
theorem lX7_155 : Cond.methodLink RX7 155 yX7_countAt ∈ gw := gw_t 499 (by decide +kernel) rfl
theorem lX7_166 : Cond.methodLink RX7 166 yX3_clear ∈ gw := gw_t 503 (by decide +kernel) rfl
theorem lL_40 : Cond.methodLink RL 40 yX7_setIndexGrating ∈ gw := gw_t 504 (by decide +kernel) rfl
theorem lX7_169 : Cond.methodLink RX7 169 yX7_isIndexGrating ∈ gw := gw_t 508 (by decide +kernel) rfl
theorem lL_44 : Cond.methodLink RL 44 yX7_addDirt ∈ gw := gw_t 509 (by decide +kernel) rfl
theorem lX7_178 : Cond.methodLink RX7 178 yX7_isDirt ∈ gw := gw_t 513 (by decide +kernel) rfl
theorem lX7_185 : Cond.methodLink RX7 185 yX1_isFull ∈ gw := gw_t 514 (by decide +kernel) rfl
theorem lX7_188 : Cond.methodLink RX7 188 yX1_add ∈ gw := gw_t 515 (by decide +kernel) rfl
theorem lL_48 : Cond.methodLink RL 48 yX7_removeDirt ∈ gw := gw_t 516 (by decide +kernel) rfl
theorem lX7_194 : Cond.methodLink RX7 194 yX4_has ∈ gw := gw_t 520 (by decide +kernel) rfl
theorem lX7_200 : Cond.methodLink RX7 200 yX1_removeAt ∈ gw := gw_t 521 (by decide +kernel) rfl
theorem lX1_31 : Cond.methodLink RX1 31 yX4_removeAt ∈ gw := gw_t 525 (by decide +kernel) rfl
theorem lL_52 : Cond.methodLink RL 52 yX7_zeroSlip ∈ gw := gw_t 529 (by decide +kernel) rfl
theorem lL_56 : Cond.methodLink RL 56 yX7_recover ∈ gw := gw_t 533 (by decide +kernel) rfl
theorem lX7_203 : Cond.methodLink RX7 203 yX3_markEventFrom ∈ gw := gw_t 537 (by decide +kernel) rfl
theorem lX7_209 : Cond.methodLink RX7 209 yX4_longAt ∈ gw := gw_t 541 (by decide +kernel) rfl
theorem lX7_219 : Cond.methodLink RX7 219 yX7_matchingPair ∈ gw := gw_t 545 (by decide +kernel) rfl
theorem lL_60 : Cond.methodLink RL 60 yX7_undo ∈ gw := gw_t 549 (by decide +kernel) rfl
theorem lX7_225 : Cond.methodLink RX7 225 yX2_takeBack ∈ gw := gw_t 553 (by decide +kernel) rfl
theorem lL_64 : Cond.methodLink RL 64 yX7_position ∈ gw := gw_t 557 (by decide +kernel) rfl
theorem lL_68 : Cond.methodLink RL 68 yX7_counter ∈ gw := gw_t 561 (by decide +kernel) rfl
theorem lL_73 : Cond.methodLink RL 73 yX7_slip ∈ gw := gw_t 565 (by decide +kernel) rfl
theorem lL_77 : Cond.methodLink RL 77 yX7_misses ∈ gw := gw_t 569 (by decide +kernel) rfl
theorem lL_81 : Cond.methodLink RL 81 yX7_samples ∈ gw := gw_t 573 (by decide +kernel) rfl
theorem lL_85 : Cond.methodLink RL 85 yX7_missRateBits ∈ gw := gw_t 577 (by decide +kernel) rfl
theorem lX7_260 : Cond.methodLink RX7 260 yX7_bitsOf ∈ gw := gw_t 581 (by decide +kernel) rfl
theorem cX7_301 : Cond.constantFloat RX7 301 (1258291200) ∈ gw := gw_t 584 (by decide +kernel) rfl
theorem lL_89 : Cond.methodLink RL 89 yX7_markPosition ∈ gw := gw_t 585 (by decide +kernel) rfl
theorem lL_93 : Cond.methodLink RL 93 yX7_expectedCount ∈ gw := gw_t 589 (by decide +kernel) rfl
theorem lL_97 : Cond.methodLink RL 97 yX7_eventKind ∈ gw := gw_t 593 (by decide +kernel) rfl
theorem lL_101 : Cond.methodLink RL 101 yX7_eventPosition ∈ gw := gw_t 597 (by decide +kernel) rfl
theorem lL_105 : Cond.methodLink RL 105 yX7_eventCounter ∈ gw := gw_t 601 (by decide +kernel) rfl
theorem cX7_275 : Cond.constantLong RX7 275 (-9223372036854775808) ∈ gw := gw_t 605 (by decide +kernel) rfl
theorem lL_110 : Cond.methodLink RL 110 yX7_predictSlip ∈ gw := gw_t 606 (by decide +kernel) rfl
theorem lX7_280 : Cond.methodLink RX7 280 yX0_copyFrom ∈ gw := gw_t 610 (by decide +kernel) rfl
theorem lL_115 : Cond.methodLink RL 115 yX7_fastestSafeSpeed ∈ gw := gw_t 611 (by decide +kernel) rfl
theorem lX7_283 : Cond.methodLink RX7 283 yX7_isSafe ∈ gw := gw_t 615 (by decide +kernel) rfl
theorem lL_119 : Cond.methodLink RL 119 yX7_brightness ∈ gw := gw_t 619 (by decide +kernel) rfl
theorem lX7_286 : Cond.methodLink RX7 286 yX7_brightCells ∈ gw := gw_t 623 (by decide +kernel) rfl
theorem lX7_298 : Cond.methodLink RX7 298 yX7_isClear ∈ gw := gw_t 627 (by decide +kernel) rfl
theorem lL_123 : Cond.methodLink RL 123 yX7_brightestStart ∈ gw := gw_t 630 (by decide +kernel) rfl
theorem lL_127 : Cond.methodLink RL 127 yX7_overlayPeriod ∈ gw := gw_t 634 (by decide +kernel) rfl
theorem lX7_289 : Cond.methodLink RX7 289 yX7_commonDivisor ∈ gw := gw_t 638 (by decide +kernel) rfl
theorem lL_131 : Cond.methodLink RL 131 yX7_fringePeriodNumerator ∈ gw := gw_t 641 (by decide +kernel) rfl
theorem lX7_292 : Cond.methodLink RX7 292 yX7_inLowestTerms ∈ gw := gw_t 645 (by decide +kernel) rfl
theorem lX7_295 : Cond.methodLink RX7 295 yX7_pitchDifference ∈ gw := gw_t 649 (by decide +kernel) rfl
theorem lL_135 : Cond.methodLink RL 135 yX7_fringePeriodDenominator ∈ gw := gw_t 653 (by decide +kernel) rfl
theorem lL_139 : Cond.methodLink RL 139 yX7_magnificationBits ∈ gw := gw_t 657 (by decide +kernel) rfl
theorem lL_143 : Cond.methodLink RL 143 yX7_crossedSpacingBits ∈ gw := gw_t 661 (by decide +kernel) rfl
theorem nL_10 : ZN RL 10 8 15 [.null, .int 0, .int 0, .int 0, .int 0, .int 0, .null, .null, .int 0, .int 0, .null, .null, .null, .null, .int 0] := ⟨RX8, TX8, tyX8, rfl, iwX8, tyX8_ok, gw_t 665 (by decide +kernel) rfl, gw_t 666 (by decide +kernel) rfl, gw_t 14 (by decide +kernel) rfl, fun j hj => by match j, hj with | 0, _ => rfl | 1, _ => rfl | 2, _ => rfl | 3, _ => rfl | 4, _ => rfl | 5, _ => rfl | 6, _ => rfl | 7, _ => rfl | 8, _ => rfl | 9, _ => rfl | 10, _ => rfl | 11, _ => rfl | 12, _ => rfl | 13, _ => rfl | 14, _ => rfl⟩
theorem lL_12 : Cond.methodLink RL 12 yX8_init ∈ gw := gw_t 667 (by decide +kernel) rfl
theorem lX8_31 : Cond.methodLink RX8 31 yX8_beginRead ∈ gw := gw_t 671 (by decide +kernel) rfl
theorem lX8_41 : Cond.methodLink RX8 41 yX8_takeRead ∈ gw := gw_t 675 (by decide +kernel) rfl
theorem lL_17 : Cond.methodLink RL 17 yX8_append ∈ gw := gw_t 726 (by decide +kernel) rfl
theorem cX8_53 : Cond.constantLong RX8 53 (32) ∈ gw := gw_t 730 (by decide +kernel) rfl
theorem cX8_55 : Cond.constantLong RX8 55 (126) ∈ gw := gw_t 731 (by decide +kernel) rfl
theorem lX8_57 : Cond.methodLink RX8 57 yX8_in ∈ gw := gw_t 732 (by decide +kernel) rfl
theorem lL_22 : Cond.methodLink RL 22 yX8_clearText ∈ gw := gw_t 735 (by decide +kernel) rfl
theorem lL_26 : Cond.methodLink RL 26 yX8_firstError ∈ gw := gw_t 739 (by decide +kernel) rfl
theorem lX8_89 : Cond.methodLink RX8 89 yX8_readAll ∈ gw := gw_t 743 (by decide +kernel) rfl
theorem lX8_86 : Cond.methodLink RX8 86 yX8_statement ∈ gw := gw_t 747 (by decide +kernel) rfl
theorem lX8_70 : Cond.methodLink RX8 70 yX8_letterHere ∈ gw := gw_t 751 (by decide +kernel) rfl
theorem lX8_78 : Cond.methodLink RX8 78 yX8_isNumber ∈ gw := gw_t 755 (by decide +kernel) rfl
theorem cX8_74 : Cond.constantLong RX8 74 (48) ∈ gw := gw_t 759 (by decide +kernel) rfl
theorem cX8_76 : Cond.constantLong RX8 76 (57) ∈ gw := gw_t 760 (by decide +kernel) rfl
theorem lX8_82 : Cond.methodLink RX8 82 yX8_dirtStatement ∈ gw := gw_t 761 (by decide +kernel) rfl
theorem lL_30 : Cond.methodLink RL 30 yX8_configure ∈ gw := gw_t 765 (by decide +kernel) rfl
theorem lL_63 : Cond.methodLink RL 63 yX8_undo ∈ gw := gw_t 769 (by decide +kernel) rfl
theorem lL_35 : Cond.methodLink RL 35 yX8_moveTo ∈ gw := gw_t 773 (by decide +kernel) rfl
theorem lX8_118 : Cond.methodLink RX8 118 yX8_isMove ∈ gw := gw_t 777 (by decide +kernel) rfl
theorem cX8_110 : Cond.constantLong RX8 110 (9999) ∈ gw := gw_t 780 (by decide +kernel) rfl
theorem cX8_112 : Cond.constantLong RX8 112 (99) ∈ gw := gw_t 781 (by decide +kernel) rfl
theorem lX8_122 : Cond.methodLink RX8 122 yX8_keeps ∈ gw := gw_t 782 (by decide +kernel) rfl
theorem lX8_125 : Cond.methodLink RX8 125 yX8_aside ∈ gw := gw_t 786 (by decide +kernel) rfl
theorem lX8_128 : Cond.methodLink RX8 128 yX8_moves ∈ gw := gw_t 790 (by decide +kernel) rfl
theorem lX8_107 : Cond.methodLink RX8 107 yX8_sampleAt ∈ gw := gw_t 794 (by decide +kernel) rfl
theorem lX8_100 : Cond.methodLink RX8 100 yX8_isDirty ∈ gw := gw_t 798 (by decide +kernel) rfl
theorem lX8_103 : Cond.methodLink RX8 103 yX8_decodes ∈ gw := gw_t 802 (by decide +kernel) rfl
theorem lX8_92 : Cond.methodLink RX8 92 yX8_logs ∈ gw := gw_t 806 (by decide +kernel) rfl
theorem lX8_96 : Cond.methodLink RX8 96 yX8_isCounted ∈ gw := gw_t 810 (by decide +kernel) rfl
theorem lL_114 : Cond.methodLink RL 114 yX8_predictSlip ∈ gw := gw_t 814 (by decide +kernel) rfl
theorem cX8_131 : Cond.constantLong RX8 131 (-9223372036854775808) ∈ gw := gw_t 818 (by decide +kernel) rfl
theorem lX8_133 : Cond.methodLink RX8 133 yX8_slipOf ∈ gw := gw_t 819 (by decide +kernel) rfl
theorem lX8_114 : Cond.methodLink RX8 114 yX8_expects ∈ gw := gw_t 823 (by decide +kernel) rfl
theorem lL_118 : Cond.methodLink RL 118 yX8_fastestSafeSpeed ∈ gw := gw_t 827 (by decide +kernel) rfl
theorem lL_39 : Cond.methodLink RL 39 yX8_setMode ∈ gw := gw_t 831 (by decide +kernel) rfl
theorem lL_43 : Cond.methodLink RL 43 yX8_setIndexGrating ∈ gw := gw_t 835 (by decide +kernel) rfl
theorem cX8_137 : Cond.constantLong RX8 137 (8) ∈ gw := gw_t 839 (by decide +kernel) rfl
theorem cX8_139 : Cond.constantLong RX8 139 (80) ∈ gw := gw_t 840 (by decide +kernel) rfl
theorem cX8_141 : Cond.constantLong RX8 141 (79) ∈ gw := gw_t 841 (by decide +kernel) rfl
theorem lL_47 : Cond.methodLink RL 47 yX8_addDirt ∈ gw := gw_t 842 (by decide +kernel) rfl
theorem lL_51 : Cond.methodLink RL 51 yX8_removeDirt ∈ gw := gw_t 846 (by decide +kernel) rfl
theorem lL_55 : Cond.methodLink RL 55 yX8_zeroSlip ∈ gw := gw_t 850 (by decide +kernel) rfl
theorem lL_59 : Cond.methodLink RL 59 yX8_recover ∈ gw := gw_t 854 (by decide +kernel) rfl
theorem cX8_143 : Cond.constantLong RX8 143 (9) ∈ gw := gw_t 858 (by decide +kernel) rfl
theorem lX8_145 : Cond.methodLink RX8 145 yX8_markEvent ∈ gw := gw_t 859 (by decide +kernel) rfl
theorem lX8_149 : Cond.methodLink RX8 149 yX8_apart ∈ gw := gw_t 863 (by decide +kernel) rfl
theorem lL_67 : Cond.methodLink RL 67 yX8_position ∈ gw := gw_t 866 (by decide +kernel) rfl
theorem lL_72 : Cond.methodLink RL 72 yX8_counter ∈ gw := gw_t 870 (by decide +kernel) rfl
theorem lL_76 : Cond.methodLink RL 76 yX8_slip ∈ gw := gw_t 874 (by decide +kernel) rfl
theorem lL_80 : Cond.methodLink RL 80 yX8_misses ∈ gw := gw_t 878 (by decide +kernel) rfl
theorem lL_84 : Cond.methodLink RL 84 yX8_samples ∈ gw := gw_t 882 (by decide +kernel) rfl
theorem lL_88 : Cond.methodLink RL 88 yX8_missRateBits ∈ gw := gw_t 886 (by decide +kernel) rfl
theorem lX8_152 : Cond.methodLink RX8 152 yJxf58ca_floatToIntBits_5c35a ∈ gw := gw_t 890 (by decide +kernel) rfl
theorem lJxf58ca_59 : Cond.methodLink RJxf58ca 59 yJxf58ca_isNaN_12338 ∈ gw := gw_t 893 (by decide +kernel) rfl
theorem cJxf58ca_77 : Cond.constant RJxf58ca 77 (2143289344) ∈ gw := gw_t 899 (by decide +kernel) rfl
theorem lL_92 : Cond.methodLink RL 92 yX8_markPosition ∈ gw := gw_t 900 (by decide +kernel) rfl
theorem lL_96 : Cond.methodLink RL 96 yX8_expectedCount ∈ gw := gw_t 904 (by decide +kernel) rfl
theorem lL_100 : Cond.methodLink RL 100 yX8_eventKind ∈ gw := gw_t 908 (by decide +kernel) rfl
theorem lX8_158 : Cond.methodLink RX8 158 yX8_isEvent ∈ gw := gw_t 912 (by decide +kernel) rfl
theorem lX8_161 : Cond.methodLink RX8 161 yX8_ofEvent ∈ gw := gw_t 916 (by decide +kernel) rfl
theorem lL_104 : Cond.methodLink RL 104 yX8_eventPosition ∈ gw := gw_t 920 (by decide +kernel) rfl
theorem lL_109 : Cond.methodLink RL 109 yX8_eventCounter ∈ gw := gw_t 924 (by decide +kernel) rfl
theorem lL_122 : Cond.methodLink RL 122 yX8_brightness ∈ gw := gw_t 928 (by decide +kernel) rfl
theorem cX8_164 : Cond.constantLong RX8 164 (999) ∈ gw := gw_t 932 (by decide +kernel) rfl
theorem cX8_166 : Cond.constantLong RX8 166 (200) ∈ gw := gw_t 933 (by decide +kernel) rfl
theorem lX8_168 : Cond.methodLink RX8 168 yX8_brightIn ∈ gw := gw_t 934 (by decide +kernel) rfl
theorem lL_126 : Cond.methodLink RL 126 yX8_brightestStart ∈ gw := gw_t 938 (by decide +kernel) rfl
theorem lL_130 : Cond.methodLink RL 130 yX8_overlayPeriod ∈ gw := gw_t 942 (by decide +kernel) rfl
theorem lX8_171 : Cond.methodLink RX8 171 yX8_common ∈ gw := gw_t 946 (by decide +kernel) rfl
theorem lL_134 : Cond.methodLink RL 134 yX8_fringePeriodNumerator ∈ gw := gw_t 949 (by decide +kernel) rfl
theorem lX8_174 : Cond.methodLink RX8 174 yX8_fringe ∈ gw := gw_t 953 (by decide +kernel) rfl
theorem lL_138 : Cond.methodLink RL 138 yX8_fringePeriodDenominator ∈ gw := gw_t 957 (by decide +kernel) rfl
theorem lL_142 : Cond.methodLink RL 142 yX8_magnificationBits ∈ gw := gw_t 961 (by decide +kernel) rfl
theorem lL_146 : Cond.methodLink RL 146 yX8_crossedSpacingBits ∈ gw := gw_t 965 (by decide +kernel) rfl
theorem gw_arr_int : Cond.arrayClass .int ∈ gw := gw_t 725 (by decide +kernel) rfl
theorem gw_arr_long : Cond.arrayClass .long ∈ gw := gw_t 40 (by decide +kernel) rfl
theorem gw_ol (c : String) (n : Nat) (k : Nat) (h : tables_1[k]? = some (Cond.methodLink c n objectInit)) : Cond.methodLink c n objectInit ∈ gw := gw_t k h rfl
theorem gw_oi : Cond.instanceMethod objectInit ∈ gw := gw_t 22 (by decide +kernel) rfl
theorem gw_oc : Cond.code objectInit ⟨#[0xb1]⟩ 1 none ∈ gw := gw_t 23 rfl rfl
theorem oX7_1 : Cond.methodLink RX7 1 objectInit ∈ gw := gw_t 21 (by decide +kernel) rfl
theorem oX4_1 : Cond.methodLink RX4 1 objectInit ∈ gw := gw_t 29 (by decide +kernel) rfl
theorem oX5_3 : Cond.methodLink RX5 3 objectInit ∈ gw := gw_t 46 (by decide +kernel) rfl
theorem oX1_3 : Cond.methodLink RX1 3 objectInit ∈ gw := gw_t 54 (by decide +kernel) rfl
theorem oX2_3 : Cond.methodLink RX2 3 objectInit ∈ gw := gw_t 96 (by decide +kernel) rfl
theorem oX6_1 : Cond.methodLink RX6 1 objectInit ∈ gw := gw_t 103 (by decide +kernel) rfl
theorem oX0_1 : Cond.methodLink RX0 1 objectInit ∈ gw := gw_t 109 (by decide +kernel) rfl
theorem oX3_3 : Cond.methodLink RX3 3 objectInit ∈ gw := gw_t 127 (by decide +kernel) rfl
theorem oX8_1 : Cond.methodLink RX8 1 objectInit ∈ gw := gw_t 670 (by decide +kernel) rfl
theorem gw_nat : Cond.native ⟨"java/lang/Float", "floatToRawIntBits", "(F)I"⟩ ∈ gw := gw_t 898 (by decide +kernel) rfl
theorem gw_nas : Cond.static ⟨"java/lang/Float", "floatToRawIntBits", "(F)I"⟩ ∈ gw := gw_t 897 (by decide +kernel) rfl
theorem gw_nal : Cond.methodLink "java/lang/Float" 74 ⟨"java/lang/Float", "floatToRawIntBits", "(F)I"⟩ ∈ gw := gw_t 896 (by decide +kernel) rfl
theorem gw_nai : Cond.initialized "java/lang/Float" ∈ gw := gw_t 15 (by decide +kernel) rfl
end
section
/-! THE LAYER: one judgement V of a method's walk over an abstract heap (a function from addresses, counted from the law's own first cell, to cells),
 and one contract M of a method; every rule below turns V at an instruction into V at the next. Class and reference are not named here, but for the tables. -/
abbrev ZG : Type := Launch × Nat × va_G × (ClassId × ClassId × ClassId)
abbrev AC : Type := (Nat × List Value) ⊕ vp_A
abbrev AH : Type := Nat → Option AC
abbrev AL : Type := List (Option Value)
abbrev ZQ : Type := Option Value → AH → Nat → Prop
def shv (b : Nat) (v : Value) : Value := match v with
  | .ref a => .ref (b + a)
  | w => w
theorem shv_cat (b : Nat) (v : Value) : (shv b v).category = v.category := by cases v <;> rfl
theorem shv_rf (b : Nat) (r : Option Nat) : shv b (va_rf r) = va_rf (r.map (b + ·)) := by cases r <;> rfl
def ze (z : ZG) (c : AC) : va_E := match c with
  | .inl o => .inr (o.1, o.2.map (shv z.2.1))
  | .inr (n, .inl f) => .inl (z.2.2.2.1, n, .inl f)
  | .inr (n, .inr (.inl f)) => .inl (z.2.2.2.2.1, n, .inr (.inl f))
  | .inr (n, .inr (.inr (.inl f))) => .inl (z.2.2.2.1, n, .inr (.inr (.inl f)))
  | .inr (n, .inr (.inr (.inr (.inl f)))) => .inl (z.2.2.2.1, n, .inr (.inr (.inr (.inl f))))
  | .inr (n, .inr (.inr (.inr (.inr f)))) => .inl (z.2.2.2.2.2, n, .inr (.inr (.inr (.inr (fun j => (f j).map (z.2.1 + ·))))))
/-- the heap holds the abstract one -/
def hp (z : ZG) (h : AH) (H : Heap) : Prop := ∀ (a : Nat) (c : AC), h a = some c → va_at z.2.2.1 vwCl (z.2.1 + a, ze z c) H
def hset (h : AH) (a : Nat) (c : AC) : AH := fun x => if x = a then some c else h x
theorem hset_s {h : AH} {a : Nat} {c : AC} : hset h a c a = some c := if_pos rfl
theorem hset_n {h : AH} {a x : Nat} {c : AC} (n : x ≠ a) : hset h a c x = h x := if_neg n
theorem hp.set {z : ZG} {h : AH} {H H1 : Heap} {a : Nat} {c : AC} (hh : hp z h H) (h1 : va_at z.2.2.1 vwCl (z.2.1 + a, ze z c) H1) (oq : ∀ q : Nat, q ≠ z.2.1 + a → H1[q]? = H[q]?) : hp z (hset h a c) H1 := by
  intro x d hx
  by_cases e : x = a
  · subst e
    rw [hset_s] at hx
    cases hx
    exact h1
  · rw [hset_n e] at hx
    exact (hh x d hx).kept (oq _ (by omega))
theorem hp.lt {z : ZG} {h : AH} {H : Heap} (hh : hp z h H) {a : Nat} {c : AC} (ha : h a = some c) : z.2.1 + a < H.size := (hh a c ha).lt
/-- the array classes at hand, and the words of nest mates -/
def zty (z : ZG) : List (ClassId × FieldType) := [(z.2.2.2.1, .int), (z.2.2.2.2.1, .long), (z.2.2.2.2.2, .object "MoireEncoder$State")]
def ZK (z : ZG) (U : State) : Prop := va_K z.2.2.1 vwCl (zty z) U ∧ ((∀ q ∈ zNf, va_Nw (.fieldLinkNest q.1 q.2.1 q.2.2.1 q.2.2.2.1 q.2.2.2.2.1 q.2.2.2.2.2) U) ∧ ∀ q ∈ zNm, va_Nw (.methodLinkNest q.1 q.2.1 q.2.2.1 q.2.2.2) U) ∧ va_AO "MoireEncoder$State" U
theorem ZK.moved {z : ZG} {u U : State} (hW : u.WarmedH U.vm) (h : ZK z u) : ZK z U :=
  ⟨va_K.moved hW.alike h.1, ⟨fun q hq => va_Nw.warmF hW (h.2.1.1 q hq), fun q hq => va_Nw.warmM hW (h.2.1.2 q hq)⟩, va_AO.moved hW.alike h.2.2⟩
theorem ZK.same {z : ZG} {u U : State} (e : u.vm = U.vm) (h : ZK z u) : ZK z U :=
  ⟨va_K.moved (by rw [e]; exact Vm.Alike.refl _) h.1, ⟨fun q hq => va_Nw.same rfl e (h.2.1.1 q hq), fun q hq => va_Nw.same rfl e (h.2.1.2 q hq)⟩, va_AO.moved (by rw [e]; exact Vm.Alike.refl _) h.2.2⟩
/-- the locals by their places -/
def zls (b : Nat) : Nat → AL → List (Nat × Value)
  | _, [] => []
  | i, none :: t => zls b (i + 1) t
  | i, some v :: t => (i, shv b v) :: zls b (i + 1) t
theorem zls_mem (b : Nat) : ∀ (L : AL) (i : Nat) (q : Nat × Value), q ∈ zls b i L ↔ ∃ j v, L[j]? = some (some v) ∧ q = (i + j, shv b v) := by
  intro L
  induction L with
  | nil => intro i q; simp [zls]
  | cons x t ih =>
    intro i q
    cases x with
    | none =>
      simp only [zls, ih]
      constructor
      · rintro ⟨j, v, h, rfl⟩
        exact ⟨j + 1, v, by simpa using h, by rw [show i + 1 + j = i + (j + 1) by omega]⟩
      · rintro ⟨j, v, h, rfl⟩
        cases j with
        | zero => simp at h
        | succ j => exact ⟨j, v, by simpa using h, by rw [show i + 1 + j = i + (j + 1) by omega]⟩
    | some w =>
      simp only [zls, List.mem_cons, ih]
      constructor
      · rintro (rfl | ⟨j, v, h, rfl⟩)
        · exact ⟨0, w, by simp, by simp⟩
        · exact ⟨j + 1, v, by simpa using h, by rw [show i + 1 + j = i + (j + 1) by omega]⟩
      · rintro ⟨j, v, h, rfl⟩
        cases j with
        | zero =>
          simp at h
          subst h
          exact Or.inl (by simp)
        | succ j => exact Or.inr ⟨j, v, by simpa using h, by rw [show i + 1 + j = i + (j + 1) by omega]⟩
def zclr (x : Option Value) : Option Value := match x with
  | none => none
  | some v => match v with
    | .long _ => none
    | .double _ => none
    | w => some w
/-- a value of one word is stored -/
def zp1 : AL → Nat → Value → AL
  | [], _, _ => []
  | _ :: t, 0, v => some v :: t
  | x :: t, 1, v => zclr x :: zp1 t 0 v
  | x :: t, i + 2, v => x :: zp1 t (i + 1) v
/-- a value of two words is stored -/
def zp2 : AL → Nat → Value → AL
  | [], _, _ => []
  | [_], 0, _ => []
  | _ :: _ :: t, 0, v => some v :: none :: t
  | x :: t, 1, v => zclr x :: zp2 t 0 v
  | x :: t, i + 2, v => x :: zp2 t (i + 1) v
theorem zclr_some {x : Option Value} {w : Value} (h : zclr x = some w) : x = some w ∧ w.category = 1 := by
  cases x with
  | none => cases h
  | some v => cases v <;> simp [zclr] at h <;> subst h <;> exact ⟨rfl, rfl⟩
theorem zp1_len : ∀ (L : AL) (i : Nat) (v : Value), (zp1 L i v).length = L.length := by
  intro L
  induction L with
  | nil => intro i v; rfl
  | cons x t ih =>
    intro i v
    match i with
    | 0 => rfl
    | 1 => simp [zp1, ih]
    | i + 2 => simp [zp1, ih]
theorem zp1_at : ∀ (L : AL) (i : Nat) (v : Value) (j : Nat) (w : Value), (zp1 L i v)[j]? = some (some w) → (j = i ∧ w = v) ∨ (L[j]? = some (some w) ∧ j ≠ i ∧ ¬ (j + 1 = i ∧ w.category = 2)) := by
  intro L
  induction L with
  | nil => intro i v j w h; simp [zp1] at h
  | cons x t ih =>
    intro i v j w h
    match i with
    | 0 =>
      cases j with
      | zero => simp [zp1] at h; exact Or.inl ⟨rfl, h.symm⟩
      | succ j => exact Or.inr ⟨by simpa [zp1] using h, by omega, by omega⟩
    | 1 =>
      cases j with
      | zero =>
        simp [zp1] at h
        have := zclr_some h
        exact Or.inr ⟨by simp [this.1], by omega, fun q => by omega⟩
      | succ j =>
        have h' : (zp1 t 0 v)[j]? = some (some w) := by simpa [zp1] using h
        rcases ih 0 v j w h' with ⟨rfl, rfl⟩ | ⟨h1, h2, h3⟩
        · exact Or.inl ⟨rfl, rfl⟩
        · exact Or.inr ⟨by simpa using h1, by omega, fun q => h3 ⟨by omega, q.2⟩⟩
    | i + 2 =>
      cases j with
      | zero => simp [zp1] at h; exact Or.inr ⟨by simp [h], by omega, by omega⟩
      | succ j =>
        have h' : (zp1 t (i + 1) v)[j]? = some (some w) := by simpa [zp1] using h
        rcases ih (i + 1) v j w h' with ⟨rfl, rfl⟩ | ⟨h1, h2, h3⟩
        · exact Or.inl ⟨rfl, rfl⟩
        · exact Or.inr ⟨by simpa using h1, by omega, fun q => h3 ⟨by omega, q.2⟩⟩
theorem zp2_len : ∀ (L : AL) (i : Nat) (v : Value), i + 1 < L.length → (zp2 L i v).length = L.length := by
  intro L
  induction L with
  | nil => intro i v h; rfl
  | cons x t ih =>
    intro i v h
    match i with
    | 0 =>
      cases t with
      | nil => simp at h
      | cons y t => rfl
    | 1 => simp [zp2, ih 0 v (by simp at h; omega)]
    | i + 2 => simp [zp2, ih (i + 1) v (by simp at h; omega)]
theorem zp2_at : ∀ (L : AL) (i : Nat) (v : Value) (j : Nat) (w : Value), (zp2 L i v)[j]? = some (some w) → (j = i ∧ w = v) ∨ (L[j]? = some (some w) ∧ j ≠ i ∧ j ≠ i + 1 ∧ ¬ (j + 1 = i ∧ w.category = 2)) := by
  intro L
  induction L with
  | nil => intro i v j w h; simp [zp2] at h
  | cons x t ih =>
    intro i v j w h
    match i with
    | 0 =>
      cases t with
      | nil => simp [zp2] at h
      | cons y t =>
        match j with
        | 0 => simp [zp2] at h; exact Or.inl ⟨rfl, h.symm⟩
        | 1 => simp [zp2] at h
        | j + 2 => exact Or.inr ⟨by simpa [zp2] using h, by omega, by omega, by omega⟩
    | 1 =>
      cases j with
      | zero =>
        simp [zp2] at h
        have := zclr_some h
        exact Or.inr ⟨by simp [this.1], by omega, by omega, fun q => by omega⟩
      | succ j =>
        have h' : (zp2 t 0 v)[j]? = some (some w) := by simpa [zp2] using h
        rcases ih 0 v j w h' with ⟨rfl, rfl⟩ | ⟨h1, h2, h3, h4⟩
        · exact Or.inl ⟨rfl, rfl⟩
        · exact Or.inr ⟨by simpa using h1, by omega, by omega, fun q => h4 ⟨by omega, q.2⟩⟩
    | i + 2 =>
      cases j with
      | zero => simp [zp2] at h; exact Or.inr ⟨by simp [h], by omega, by omega, by omega⟩
      | succ j =>
        have h' : (zp2 t (i + 1) v)[j]? = some (some w) := by simpa [zp2] using h
        rcases ih (i + 1) v j w h' with ⟨rfl, rfl⟩ | ⟨h1, h2, h3, h4⟩
        · exact Or.inl ⟨rfl, rfl⟩
        · exact Or.inr ⟨by simpa using h1, by omega, by omega, fun q => h4 ⟨by omega, q.2⟩⟩
/-- the locals that hold the listed ones hold those after a store -/
theorem zl_p1 {ls : Array Slot} {b : Nat} {L : AL} {i : Nat} {v : Value} (h : lv_has ls L.length ((i, shv b v) :: (zls b 0 L).filter (fun q => !(q.1 == i) && !(q.1 + 1 == i && q.2.category == 2)))) : lv_has ls (zp1 L i v).length (zls b 0 (zp1 L i v)) := by
  rw [zp1_len]
  refine ⟨h.1, h.2.1, fun q hq => h.2.2 q ?_⟩
  obtain ⟨j, w, h1, rfl⟩ := (zls_mem b _ 0 q).mp hq
  rw [Nat.zero_add]
  rcases zp1_at L i v j w h1 with ⟨rfl, rfl⟩ | ⟨h2, h3, h4⟩
  · exact List.mem_cons_self
  · refine List.mem_cons_of_mem _ (List.mem_filter.mpr ⟨(zls_mem b _ 0 _).mpr ⟨j, w, h2, by rw [Nat.zero_add]⟩, ?_⟩)
    have h5 : ¬ (j + 1 = i ∧ (shv b w).category = 2) := by rw [shv_cat]; exact h4
    by_cases e : j + 1 = i
    · have : ¬ (shv b w).category = 2 := fun c => h5 ⟨e, c⟩
      simp [h3, this]
    · simp [h3, e]
theorem zl_p2 {ls : Array Slot} {b : Nat} {L : AL} {i : Nat} {v : Value} (hi : i + 1 < L.length) (h : lv_has ls L.length ((i, shv b v) :: (zls b 0 L).filter (fun q => !(q.1 == i) && (!(q.1 == i + 1) && !(q.1 + 1 == i && q.2.category == 2))))) : lv_has ls (zp2 L i v).length (zls b 0 (zp2 L i v)) := by
  rw [zp2_len L i v hi]
  refine ⟨h.1, h.2.1, fun q hq => h.2.2 q ?_⟩
  obtain ⟨j, w, h1, rfl⟩ := (zls_mem b _ 0 q).mp hq
  rw [Nat.zero_add]
  rcases zp2_at L i v j w h1 with ⟨rfl, rfl⟩ | ⟨h2, h3, h4, h5⟩
  · exact List.mem_cons_self
  · refine List.mem_cons_of_mem _ (List.mem_filter.mpr ⟨(zls_mem b _ 0 _).mpr ⟨j, w, h2, by rw [Nat.zero_add]⟩, ?_⟩)
    have h6 : ¬ (j + 1 = i ∧ (shv b w).category = 2) := by rw [shv_cat]; exact h5
    by_cases e : j + 1 = i
    · have : ¬ (shv b w).category = 2 := fun c => h6 ⟨e, c⟩
      simp [h3, h4, this]
    · simp [h3, h4, e]
theorem zl_at {ls : Array Slot} {b n : Nat} {L : AL} (h : lv_has ls n (zls b 0 L)) {i : Nat} {v : Value} (hi : L[i]? = some (some v)) : ls[i]? = some (.val (shv b v)) :=
  h.2.2 (i, shv b v) ((zls_mem b L 0 _).mpr ⟨i, v, hi, by rw [Nat.zero_add]⟩)
/-- the locals at a method's entry -/
def zargs : List Value → AL
  | [] => []
  | v :: t => match v with
    | .long x => some (.long x) :: none :: zargs t
    | .double x => some (.double x) :: none :: zargs t
    | w => some w :: zargs t
def zent (as : List Value) (n : Nat) : AL := zargs as ++ List.replicate (n - (zargs as).length) none
theorem zargs_len (b : Nat) : ∀ as : List Value, (zargs as).length = (lg_sl (as.map (shv b))).length := by
  intro as
  induction as with
  | nil => rfl
  | cons v t ih => cases v <;> simp [zargs, lg_sl, ih, shv, Value.category] <;> rfl
theorem zent_len {as : List Value} {n : Nat} (h : (zargs as).length ≤ n) : (zent as n).length = n := by simp [zent]; omega
theorem zls_none (b : Nat) : ∀ (n i : Nat), zls b i (List.replicate n none) = [] := by
  intro n
  induction n with
  | zero => intro i; rfl
  | succ n ih => intro i; rw [List.replicate_succ, zls, ih]
theorem zls_ent (b : Nat) : ∀ (as : List Value) (n i : Nat), zls b i (zargs as ++ List.replicate n none) = lv_args i (as.map (shv b)) := by
  intro as
  induction as with
  | nil => intro n i; simp [zargs, zls_none, lv_args]
  | cons v t ih => intro n i; cases v <;> simp [zargs, zls, lv_args, ih, shv, Value.category]
def zroom (d mc ms : Nat) : Room := { frames := d, cells := mc, slots := ms, locals := 31 * d }
/-- a method's end, in the words of the abstract heap; below the law's first cell nothing has changed -/
def zq (z : ZG) (Q : ZQ) : Array Value → State → Outcome → State → Prop := fun _ st o t =>
  ∃ (v : Option Value) (h : AH) (sz : Nat), o = .returned (v.map (shv z.2.1)) ∧ Q v h sz ∧ hp z h t.heap ∧ t.heap.size = z.2.1 + sz ∧ ∀ q : Nat, q < z.2.1 → t.heap[q]? = st.heap[q]?
def zws (Y : ZM) : List Cond := .code Y.1 Y.2.1 Y.2.2.1 Y.2.2.2 :: gw
/-- a method's contract: from these arguments over this heap it comes to an end with Q -/
def M (z : ZG) (Y : ZM) (d mc ms : Nat) (as : List Value) (h : AH) (sz : Nat) (Q : ZQ) : Prop :=
  MetD lw_cs z.1 Y.1 (zws Y) (zroom d mc ms) (va_Pc (as.map (shv z.2.1)) (fun U => hp z h U.heap ∧ U.heap.size = z.2.1 + sz ∧ ZK z U)) (zq z Q) mc ms (fun q => z.2.1 ≤ q)
def ZC (z : ZG) (Y : ZM) (p : Program) (s : State) (m : MethodId) (args : Array Value) (meth : Method) (c : Code) : Prop :=
  p.tables.exec = Jvm.exec ∧ c.code = Y.2.1 ∧ c.maxLocals = Y.2.2.1 ∧ s.vm.findClass Y.1.cls = some m.cls ∧ (∀ w ∈ gw, w.before args s = true) ∧ meth.sig.returnType = Y.2.2.2 ∧ meth.locks = false ∧ meth.name = Y.1.name ∧ ZK z s
def zr (z : ZG) (s : State) (L : AL) (h : AH) (sz : Nat) (H : Heap) (locs : List Loc) (ls : Array Slot) : Prop :=
  hp z h H ∧ H.size = z.2.1 + sz ∧ lv_has ls L.length (zls z.2.1 0 L) ∧ (∀ q ∈ locs, z.2.1 ≤ q.base) ∧ ∀ q : Nat, q < z.2.1 → H[q]? = s.heap[q]?
/-- the walk of method Y: at pc, with locals L, operand stack st, heap h of sz cells, kc cells and nc slots made so far, it comes to an end with Q -/
def V (z : ZG) (Y : ZM) (R : Room) (Q : ZQ) (pc : Nat) (L : AL) (st : List Value) (h : AH) (sz kc nc : Nat) : Prop :=
  ∀ (p : Program) (e : Env) (s : State) (m : MethodId) (args : Array Value) (below : List Frame) (meth : Method) (c : Code) (d0 : Drawn) (H : Heap) (locs : List Loc) (ls : Array Slot),
    ZC z Y p s m args meth c → s.drawn.sameBut d0 lw_cs → L.length = Y.2.2.1 → zr z s L h sz H locs ls →
    W p z.1 e R (s.setDrawn d0) m args below meth c H locs kc nc (MQD lw_cs below (zq z Q) args s R.cells R.slots (fun q => z.2.1 ≤ q)) (F0 m pc ls (st.map (shv z.2.1)))
theorem M.of {z : ZG} {Y : ZM} {d mc ms : Nat} {as : List Value} {h : AH} {sz : Nat} {Q : ZQ} (hy : plainName Y.1.cls = true) (hn : (zargs as).length ≤ Y.2.2.1) (k : V z Y (zroom d mc ms) Q 0 (zent as Y.2.2.1) [] h sz 0 0) : M z Y d mc ms as h sz Q := by
  refine MetD.ofW (cc := Y.2.1) (maxL := Y.2.2.1) (ret := Y.2.2.2) hy rfl ?_
  intro p e s m args below meth c s₁ B hml hv hd0
  obtain ⟨rfl, hP, hsz, hK⟩ := hv
  have hts := atoms_spec (ws := zws Y) B.pre
  rw [lg_entry_eq]
  have hlen : (lg_sl (as.map (shv z.2.1))).length ≤ Y.2.2.1 := by rw [← zargs_len]; exact hn
  have hl := lv_entry (as.map (shv z.2.1)) hlen
  refine k p e s m _ below meth c s.drawn s.heap [] _ ⟨B.exec, B.bytes, hml, findClass_of_methodNamed B.named, fun w hw => hts w (List.mem_cons_of_mem _ hw), B.returns, B.notSynchronized, (name_of_methodNamed B.named B.method).1, hK⟩ hd0 (zent_len hn) ⟨hP, hsz, ?_, fun q hq => absurd hq List.not_mem_nil, fun _ _ => rfl⟩
  rw [zent_len hn, zent, zls_ent]
  exact hl
section Zrules
variable {z : ZG} {Y : ZM} {R : Room} {Q : ZQ} {pc : Nat} {L : AL} {st : List Value} {h : AH} {sz kc nc : Nat}
/-- the end of a method's walk -/
theorem V_iret {ty : FieldType} {v : Int32} (hd : decode Y.2.1 pc = .ok (.ireturn, 1)) (hrt : Y.2.2.2 = some ty) (hn : narrow ty (.int v) = .int v) (hk : kc ≤ R.cells ∧ nc ≤ R.slots) (hq : Q (some (.int v)) h sz) : V z Y R Q pc L [.int v] h sz kc nc := by
  intro p e s m args below meth c d0 H locs ls C hd0 hL hr
  refine W.widen hk.1 hk.2 (W.endD hd0 ?_)
  exact W.zret (v := v) (ty := ty) C.1 C.2.1 (C.2.2.2.2.2.1.trans hrt) hn (fun t ht hW => ⟨some (.int v), h, sz, rfl, hq, by rw [ht]; exact hr.1, by rw [ht]; exact hr.2.1, fun q hq => by rw [ht]; exact hr.2.2.2.2 q hq⟩) hr.2.2.2.1 hd C.2.2.2.2.2.2.1
theorem V_lret {v : Int64} (hd : decode Y.2.1 pc = .ok (.lreturn, 1)) (hrt : Y.2.2.2 = some .long) (hk : kc ≤ R.cells ∧ nc ≤ R.slots) (hq : Q (some (.long v)) h sz) : V z Y R Q pc L [.long v] h sz kc nc := by
  intro p e s m args below meth c d0 H locs ls C hd0 hL hr
  refine W.widen hk.1 hk.2 (W.endD hd0 ?_)
  exact W.lret (v := v) C.1 C.2.1 (C.2.2.2.2.2.1.trans hrt) (fun t ht hW => ⟨some (.long v), h, sz, rfl, hq, by rw [ht]; exact hr.1, by rw [ht]; exact hr.2.1, fun q hq => by rw [ht]; exact hr.2.2.2.2 q hq⟩) hr.2.2.2.1 hd C.2.2.2.2.2.2.1
theorem V_ret (hd : decode Y.2.1 pc = .ok (.return_, 1)) (hrt : Y.2.2.2 = none) (hk : kc ≤ R.cells ∧ nc ≤ R.slots) (hq : Q none h sz) : V z Y R Q pc L [] h sz kc nc := by
  intro p e s m args below meth c d0 H locs ls C hd0 hL hr
  refine W.widen hk.1 hk.2 (W.endD hd0 ?_)
  exact W.vret C.1 C.2.1 (C.2.2.2.2.2.1.trans hrt) (fun t ht hW => ⟨none, h, sz, rfl, hq, by rw [ht]; exact hr.1, by rw [ht]; exact hr.2.1, fun q hq => by rw [ht]; exact hr.2.2.2.2 q hq⟩) hr.2.2.2.1 hd C.2.2.2.2.2.2.1
theorem V_aret {a : Nat} {rt : FieldType} (hd : decode Y.2.1 pc = .ok (.areturn, 1)) (hrt : Y.2.2.2 = some rt) (hrt2 : (∃ n, rt = .object n) ∨ ∃ t, rt = .array t) (hk : kc ≤ R.cells ∧ nc ≤ R.slots) (hq : Q (some (.ref a)) h sz) : V z Y R Q pc L [.ref a] h sz kc nc := by
  intro p e s m args below meth c d0 H locs ls C hd0 hL hr
  refine W.widen hk.1 hk.2 (W.endD hd0 ?_)
  exact W.aret (v := .ref (z.2.1 + a)) C.1 C.2.1 (C.2.2.2.2.2.1.trans hrt) hrt2 (Or.inr ⟨_, rfl⟩) (fun t ht hW => ⟨some (.ref a), h, sz, rfl, hq, by rw [ht]; exact hr.1, by rw [ht]; exact hr.2.1, fun q hq => by rw [ht]; exact hr.2.2.2.2 q hq⟩) hr.2.2.2.1 hd C.2.2.2.2.2.2.1
theorem zNw_b {own ref name desc host : String} {index : Nat} {s : State} {d : Drawn} {args : Array Value} (h : va_Nw (.fieldLinkNest own index ref name desc host) s) : (Cond.fieldLinkNest own index ref name desc host).before args (s.setDrawn d) = true := va_Nw.use rfl (va_Nw.same rfl (show s.vm = (s.setDrawn d).vm from rfl) h)
theorem V_get {a index ci k : Nat} {fs : List Value} {v : Value} (hd : decode Y.2.1 pc = .ok (.getfield index, 3)) (hw : ZF Y.1.cls index ci k) (he : h a = some (.inl (ci, fs))) (hv : fs[k]? = some v) (kk : V z Y R Q (pc + 3) L (v :: st) h sz kc nc) : V z Y R Q pc L (.ref a :: st) h sz kc nc := by
  intro p e s m args below meth c d0 H locs ls C hd0 hL hr
  obtain ⟨C', T, N, h1, h2, h3, h4⟩ := hw
  have hP : va_P z.2.2.1 vwCl [(z.2.1 + a, ze z (.inl (ci, fs)))] H := fun j q hq => by
    cases j with
    | zero => cases hq; exact hr.1 a _ he
    | succ j => simp at hq
  refine va_get (D := z.2.2.1) (cl := vwCl) (tys := zty z) (ws := [(z.2.1 + a, ze z (.inl (ci, fs)))]) (a := z.2.1 + a) (own := Y.1.cls) (ref := (T k).1) (C := C') (T := T) (N := N) (ci := ci) (Ts := gw) (fs := fs.map (shv z.2.1)) (v := shv z.2.1 v) C.1 C.2.1 (dr_words C.2.2.2.2.1 d0) h3 C.2.2.2.1 C.2.2.2.2.2.2.2.2.1 hP 0 rfl h1 k h2 (dr_words C.2.2.2.2.1 d0 _ h4) (fun _ h9 => h9) (by rw [List.getElem?_map, hv]; rfl) hd ?_
  exact kk p e s m args below meth c d0 H locs ls C hd0 hL hr
theorem V_getN {a index ci k : Nat} {fs : List Value} {v : Value} (hd : decode Y.2.1 pc = .ok (.getfield index, 3)) (hw : ZFN Y.1.cls index ci k) (he : h a = some (.inl (ci, fs))) (hv : fs[k]? = some v) (kk : V z Y R Q (pc + 3) L (v :: st) h sz kc nc) : V z Y R Q pc L (.ref a :: st) h sz kc nc := by
  intro p e s m args below meth c d0 H locs ls C hd0 hL hr
  obtain ⟨C', T, N, host, h1, h2, h3, h4⟩ := hw
  have hP : va_P z.2.2.1 vwCl [(z.2.1 + a, ze z (.inl (ci, fs)))] H := fun j q hq => by
    cases j with
    | zero => cases hq; exact hr.1 a _ he
    | succ j => simp at hq
  refine va_getN (D := z.2.2.1) (cl := vwCl) (tys := zty z) (ws := [(z.2.1 + a, ze z (.inl (ci, fs)))]) (a := z.2.1 + a) (own := Y.1.cls) (ref := (T k).1) (host := host) (C := C') (T := T) (N := N) (ci := ci) (Ts := gw) (fs := fs.map (shv z.2.1)) (v := shv z.2.1 v) C.1 C.2.1 (dr_words C.2.2.2.2.1 d0) h3 C.2.2.2.1 C.2.2.2.2.2.2.2.2.1 hP 0 rfl h1 k h2 (zNw_b (C.2.2.2.2.2.2.2.2.2.1.1 _ h4)) (fun _ h9 => h9) (by rw [List.getElem?_map, hv]; rfl) hd ?_
  exact kk p e s m args below meth c d0 H locs ls C hd0 hL hr
theorem shv_nar {b : Nat} {ty : FieldType} {v : Value} (h : narrow ty v = v) : narrow ty (shv b v) = shv b v := by
  cases v <;> first | exact h | (cases ty <;> rfl)
theorem shv_fit {b : Nat} {ty : FieldType} {v : Value} (h : fits ty v = true) : fits ty (shv b v) = true := by
  cases v <;> first | exact h | (cases ty <;> first | rfl | exact h)
theorem hp.put {z : ZG} {h : AH} {H H1 : Heap} {a ci k fsl : Nat} {fs : List Value} {C' : String} {T : u_T} {N : Nat} {v : Value} {cell : Cell} (hh : hp z h H) (h1 : vwCl[ci]? = some (C', T, N)) (hk : k < N) (hap : ∀ x y, x < N → y < N → x ≠ y → (z.2.2.1.2 ci) x ≠ (z.2.2.1.2 ci) y)
    (hsl : z.2.2.1.2 ci k = fsl) (q2 : cell.cls = z.2.2.1.1 ci) (q3 : cell.vm = .none) (q4 : ∀ k, k < N → cell.slots[z.2.2.1.2 ci k]? = some (vp_V (fs.map (shv z.2.1)) k)) (hl : k < fs.length)
    (e1 : H1[z.2.1 + a]? = some (cell.setSlot fsl (shv z.2.1 v))) (oq : ∀ q : Nat, q ≠ z.2.1 + a → H1[q]? = H[q]?) : hp z (hset h a (.inl (ci, fs.set k v))) H1 := by
  subst hsl
  refine hh.set ⟨_, h1, t_OB.to (V := updV (vp_V (fs.map (shv z.2.1))) k (shv z.2.1 v)) ⟨_, e1, q2, q3, t_set q4 hap hk _⟩ (fun j _ => ?_)⟩ oq
  rw [vp_updV_set (by simpa using hl), ← List.map_set]
theorem zr.put {z : ZG} {s : State} {L : AL} {h h' : AH} {sz : Nat} {H H1 : Heap} {locs : List Loc} {ls : Array Slot} {a k : Nat} (hr : zr z s L h sz H locs ls) (hh : hp z h' H1) (e2 : H1.size = H.size) (oq : ∀ q : Nat, q ≠ z.2.1 + a → H1[q]? = H[q]?) : zr z s L h' sz H1 (locs ++ [⟨z.2.1 + a, k⟩]) ls := by
  refine ⟨hh, by rw [e2]; exact hr.2.1, hr.2.2.1, fun q hq => ?_, fun q hq => by rw [oq q (by omega)]; exact hr.2.2.2.2 q hq⟩
  rcases List.mem_append.mp hq with g | g
  · exact hr.2.2.2.1 q g
  · rw [List.mem_singleton.mp g]; exact Nat.le_add_right _ _
theorem V_iadd {x y : Int32} (hd : decode Y.2.1 pc = .ok (.iadd, 1)) (kk : V z Y R Q (pc + 1) L (.int (x + y) :: st) h sz kc nc) : V z Y R Q pc L (.int y :: .int x :: st) h sz kc nc := fun p e s m args below meth c d0 H locs ls C hd0 hL hr => lv_iadd C.1 C.2.1 hd (kk p e s m args below meth c d0 H locs ls C hd0 hL hr)
theorem V_isub {x y : Int32} (hd : decode Y.2.1 pc = .ok (.isub, 1)) (kk : V z Y R Q (pc + 1) L (.int (x - y) :: st) h sz kc nc) : V z Y R Q pc L (.int y :: .int x :: st) h sz kc nc := fun p e s m args below meth c d0 H locs ls C hd0 hL hr => lv_isub C.1 C.2.1 hd (kk p e s m args below meth c d0 H locs ls C hd0 hL hr)
theorem V_imul {x y : Int32} (hd : decode Y.2.1 pc = .ok (.imul, 1)) (kk : V z Y R Q (pc + 1) L (.int (x * y) :: st) h sz kc nc) : V z Y R Q pc L (.int y :: .int x :: st) h sz kc nc := fun p e s m args below meth c d0 H locs ls C hd0 hL hr => lv_imul C.1 C.2.1 hd (kk p e s m args below meth c d0 H locs ls C hd0 hL hr)
theorem V_iand {x y : Int32} (hd : decode Y.2.1 pc = .ok (.iand, 1)) (kk : V z Y R Q (pc + 1) L (.int (x &&& y) :: st) h sz kc nc) : V z Y R Q pc L (.int y :: .int x :: st) h sz kc nc := fun p e s m args below meth c d0 H locs ls C hd0 hL hr => lv_iand C.1 C.2.1 hd (kk p e s m args below meth c d0 H locs ls C hd0 hL hr)
theorem V_ior {x y : Int32} (hd : decode Y.2.1 pc = .ok (.ior, 1)) (kk : V z Y R Q (pc + 1) L (.int (x ||| y) :: st) h sz kc nc) : V z Y R Q pc L (.int y :: .int x :: st) h sz kc nc := fun p e s m args below meth c d0 H locs ls C hd0 hL hr => lv_ior C.1 C.2.1 hd (kk p e s m args below meth c d0 H locs ls C hd0 hL hr)
theorem V_ixor {x y : Int32} (hd : decode Y.2.1 pc = .ok (.ixor, 1)) (kk : V z Y R Q (pc + 1) L (.int (x ^^^ y) :: st) h sz kc nc) : V z Y R Q pc L (.int y :: .int x :: st) h sz kc nc := fun p e s m args below meth c d0 H locs ls C hd0 hL hr => lv_ixor C.1 C.2.1 hd (kk p e s m args below meth c d0 H locs ls C hd0 hL hr)
theorem V_idiv {x y : Int32} (hd : decode Y.2.1 pc = .ok (.idiv, 1)) (hn : ¬ y = 0) (kk : V z Y R Q (pc + 1) L (.int (x / y) :: st) h sz kc nc) : V z Y R Q pc L (.int y :: .int x :: st) h sz kc nc := fun p e s m args below meth c d0 H locs ls C hd0 hL hr => lv_idiv C.1 C.2.1 hd hn (kk p e s m args below meth c d0 H locs ls C hd0 hL hr)
theorem V_irem {x y : Int32} (hd : decode Y.2.1 pc = .ok (.irem, 1)) (hn : ¬ y = 0) (kk : V z Y R Q (pc + 1) L (.int (x - x / y * y) :: st) h sz kc nc) : V z Y R Q pc L (.int y :: .int x :: st) h sz kc nc := fun p e s m args below meth c d0 H locs ls C hd0 hL hr => lv_irem C.1 C.2.1 hd hn (kk p e s m args below meth c d0 H locs ls C hd0 hL hr)
theorem V_ishl {x y : Int32} (hd : decode Y.2.1 pc = .ok (.ishl, 1)) (kk : V z Y R Q (pc + 1) L (.int (x <<< (y &&& 31)) :: st) h sz kc nc) : V z Y R Q pc L (.int y :: .int x :: st) h sz kc nc := fun p e s m args below meth c d0 H locs ls C hd0 hL hr => lv_ishl C.1 C.2.1 hd (kk p e s m args below meth c d0 H locs ls C hd0 hL hr)
theorem V_ladd {x y : Int64} (hd : decode Y.2.1 pc = .ok (.ladd, 1)) (kk : V z Y R Q (pc + 1) L (.long (x + y) :: st) h sz kc nc) : V z Y R Q pc L (.long y :: .long x :: st) h sz kc nc := fun p e s m args below meth c d0 H locs ls C hd0 hL hr => lv_ladd C.1 C.2.1 hd (kk p e s m args below meth c d0 H locs ls C hd0 hL hr)
theorem V_lsub {x y : Int64} (hd : decode Y.2.1 pc = .ok (.lsub, 1)) (kk : V z Y R Q (pc + 1) L (.long (x - y) :: st) h sz kc nc) : V z Y R Q pc L (.long y :: .long x :: st) h sz kc nc := fun p e s m args below meth c d0 H locs ls C hd0 hL hr => lv_lsub C.1 C.2.1 hd (kk p e s m args below meth c d0 H locs ls C hd0 hL hr)
theorem V_lmul {x y : Int64} (hd : decode Y.2.1 pc = .ok (.lmul, 1)) (kk : V z Y R Q (pc + 1) L (.long (x * y) :: st) h sz kc nc) : V z Y R Q pc L (.long y :: .long x :: st) h sz kc nc := fun p e s m args below meth c d0 H locs ls C hd0 hL hr => lv_lmul C.1 C.2.1 hd (kk p e s m args below meth c d0 H locs ls C hd0 hL hr)
theorem V_lcmp {x y : Int64} (hd : decode Y.2.1 pc = .ok (.lcmp, 1)) (kk : V z Y R Q (pc + 1) L (.int (lg_cmp x y) :: st) h sz kc nc) : V z Y R Q pc L (.long y :: .long x :: st) h sz kc nc := fun p e s m args below meth c d0 H locs ls C hd0 hL hr => W.lcmp C.1 C.2.1 hd (kk p e s m args below meth c d0 H locs ls C hd0 hL hr)
theorem V_i2l {x : Int32} (hd : decode Y.2.1 pc = .ok (.i2l, 1)) (kk : V z Y R Q (pc + 1) L (.long x.toInt64 :: st) h sz kc nc) : V z Y R Q pc L (.int x :: st) h sz kc nc := fun p e s m args below meth c d0 H locs ls C hd0 hL hr => lv_i2l C.1 C.2.1 hd rfl (kk p e s m args below meth c d0 H locs ls C hd0 hL hr)
theorem V_l2i {x : Int64} (hd : decode Y.2.1 pc = .ok (.l2i, 1)) (kk : V z Y R Q (pc + 1) L (.int x.toInt32 :: st) h sz kc nc) : V z Y R Q pc L (.long x :: st) h sz kc nc := fun p e s m args below meth c d0 H locs ls C hd0 hL hr => lv_l2i C.1 C.2.1 hd rfl (kk p e s m args below meth c d0 H locs ls C hd0 hL hr)
theorem V_i2f {x : Int32} (hd : decode Y.2.1 pc = .ok (.i2f, 1)) (kk : V z Y R Q (pc + 1) L (.float (FP.i2f x) :: st) h sz kc nc) : V z Y R Q pc L (.int x :: st) h sz kc nc := fun p e s m args below meth c d0 H locs ls C hd0 hL hr => lv_i2f C.1 C.2.1 hd (kk p e s m args below meth c d0 H locs ls C hd0 hL hr)
theorem V_f2i {x : UInt32} (hd : decode Y.2.1 pc = .ok (.f2i, 1)) (kk : V z Y R Q (pc + 1) L (.int (FP.f2i x) :: st) h sz kc nc) : V z Y R Q pc L (.float x :: st) h sz kc nc := fun p e s m args below meth c d0 H locs ls C hd0 hL hr => lv_f2i C.1 C.2.1 hd (kk p e s m args below meth c d0 H locs ls C hd0 hL hr)
theorem V_fcmp {x y : UInt32} {op : CmpOp} (hd : decode Y.2.1 pc = .ok (.fcmp op, 1)) (kk : V z Y R Q (pc + 1) L (.int (Op.cmpValue (FP.fcmp x y) op) :: st) h sz kc nc) : V z Y R Q pc L (.float y :: .float x :: st) h sz kc nc := fun p e s m args below meth c d0 H locs ls C hd0 hL hr => lv_fcmp C.1 C.2.1 hd (kk p e s m args below meth c d0 H locs ls C hd0 hL hr)
theorem V_fadd {x y : UInt32} (hd : decode Y.2.1 pc = .ok (.fadd, 1)) (kk : ∀ r : UInt32, alike32 r (FP.fadd x y) = true → V z Y R Q (pc + 1) L (.float r :: st) h sz kc nc) : V z Y R Q pc L (.float y :: .float x :: st) h sz kc nc := fun p e s m args below meth c d0 H locs ls C hd0 hL hr => lv_fadd_any hd0 lw_bits C.1 C.2.1 hd (fun r d1 hal hd1 => kk r hal p e s m args below meth c d1 H locs ls C hd1 hL hr)
theorem V_fsub {x y : UInt32} (hd : decode Y.2.1 pc = .ok (.fsub, 1)) (kk : ∀ r : UInt32, alike32 r (FP.fsub x y) = true → V z Y R Q (pc + 1) L (.float r :: st) h sz kc nc) : V z Y R Q pc L (.float y :: .float x :: st) h sz kc nc := fun p e s m args below meth c d0 H locs ls C hd0 hL hr => lv_fsub_any hd0 lw_bits C.1 C.2.1 hd (fun r d1 hal hd1 => kk r hal p e s m args below meth c d1 H locs ls C hd1 hL hr)
theorem V_fmul {x y : UInt32} (hd : decode Y.2.1 pc = .ok (.fmul, 1)) (kk : ∀ r : UInt32, alike32 r (FP.fmul x y) = true → V z Y R Q (pc + 1) L (.float r :: st) h sz kc nc) : V z Y R Q pc L (.float y :: .float x :: st) h sz kc nc := fun p e s m args below meth c d0 H locs ls C hd0 hL hr => lv_fmul_any hd0 lw_bits C.1 C.2.1 hd (fun r d1 hal hd1 => kk r hal p e s m args below meth c d1 H locs ls C hd1 hL hr)
theorem V_fdiv {x y : UInt32} (hd : decode Y.2.1 pc = .ok (.fdiv, 1)) (kk : ∀ r : UInt32, alike32 r (FP.fdiv x y) = true → V z Y R Q (pc + 1) L (.float r :: st) h sz kc nc) : V z Y R Q pc L (.float y :: .float x :: st) h sz kc nc := fun p e s m args below meth c d0 H locs ls C hd0 hL hr => lv_fdiv_any hd0 lw_bits C.1 C.2.1 hd (fun r d1 hal hd1 => kk r hal p e s m args below meth c d1 H locs ls C hd1 hL hr)
theorem V_iconst {n : Int} (hd : decode Y.2.1 pc = .ok (.iconst n, 1)) (kk : V z Y R Q (pc + 1) L (.int (Int32.ofInt n) :: st) h sz kc nc) : V z Y R Q pc L (st) h sz kc nc := fun p e s m args below meth c d0 H locs ls C hd0 hL hr => lv_iconst C.1 C.2.1 hd rfl (kk p e s m args below meth c d0 H locs ls C hd0 hL hr)
theorem V_bipush {n : Int} (hd : decode Y.2.1 pc = .ok (.bipush n, 2)) (kk : V z Y R Q (pc + 2) L (.int (Int8.ofInt n).toInt32 :: st) h sz kc nc) : V z Y R Q pc L (st) h sz kc nc := fun p e s m args below meth c d0 H locs ls C hd0 hL hr => lv_bipush C.1 C.2.1 hd rfl (kk p e s m args below meth c d0 H locs ls C hd0 hL hr)
theorem V_sipush {n : Int} (hd : decode Y.2.1 pc = .ok (.sipush n, 3)) (kk : V z Y R Q (pc + 3) L (.int (Int16.ofInt n).toInt32 :: st) h sz kc nc) : V z Y R Q pc L (st) h sz kc nc := fun p e s m args below meth c d0 H locs ls C hd0 hL hr => lv_sipush C.1 C.2.1 hd rfl (kk p e s m args below meth c d0 H locs ls C hd0 hL hr)
theorem V_lconst {n : Fin 2} (hd : decode Y.2.1 pc = .ok (.lconst n, 1)) (kk : V z Y R Q (pc + 1) L (.long (Int64.ofNat (n : Nat)) :: st) h sz kc nc) : V z Y R Q pc L (st) h sz kc nc := fun p e s m args below meth c d0 H locs ls C hd0 hL hr => lv_lconst C.1 C.2.1 hd rfl (kk p e s m args below meth c d0 H locs ls C hd0 hL hr)
theorem V_null (hd : decode Y.2.1 pc = .ok (.aconst_null, 1)) (kk : V z Y R Q (pc + 1) L (.null :: st) h sz kc nc) : V z Y R Q pc L (st) h sz kc nc := fun p e s m args below meth c d0 H locs ls C hd0 hL hr => lv_null C.1 C.2.1 hd (kk p e s m args below meth c d0 H locs ls C hd0 hL hr)
theorem V_fconst0 (hd : decode Y.2.1 pc = .ok (.fconst 0, 1)) (kk : V z Y R Q (pc + 1) L (.float FP.fconst0 :: st) h sz kc nc) : V z Y R Q pc L (st) h sz kc nc := fun p e s m args below meth c d0 H locs ls C hd0 hL hr => lv_fconst0 C.1 C.2.1 hd (kk p e s m args below meth c d0 H locs ls C hd0 hL hr)
theorem V_fconst1 (hd : decode Y.2.1 pc = .ok (.fconst 1, 1)) (kk : V z Y R Q (pc + 1) L (.float FP.fconst1 :: st) h sz kc nc) : V z Y R Q pc L (st) h sz kc nc := fun p e s m args below meth c d0 H locs ls C hd0 hL hr => lv_fconst1 C.1 C.2.1 hd (kk p e s m args below meth c d0 H locs ls C hd0 hL hr)
theorem V_fconst2 (hd : decode Y.2.1 pc = .ok (.fconst 2, 1)) (kk : V z Y R Q (pc + 1) L (.float FP.fconst2 :: st) h sz kc nc) : V z Y R Q pc L (st) h sz kc nc := fun p e s m args below meth c d0 H locs ls C hd0 hL hr => lv_fconst2 C.1 C.2.1 hd (kk p e s m args below meth c d0 H locs ls C hd0 hL hr)
theorem V_ldc {i : Nat} {v : Int32} (hd : decode Y.2.1 pc = .ok (.ldc i, 2)) (hw : Cond.constant Y.1.cls i v ∈ gw) (kk : V z Y R Q (pc + 2) L (.int v :: st) h sz kc nc) : V z Y R Q pc L (st) h sz kc nc := fun p e s m args below meth c d0 H locs ls C hd0 hL hr => lv_ldc C.1 C.2.1 C.2.2.2.1 (dr_words C.2.2.2.2.1 d0 _ hw) hd (kk p e s m args below meth c d0 H locs ls C hd0 hL hr)
theorem V_ldcf {i : Nat} {v : UInt32} (hd : decode Y.2.1 pc = .ok (.ldc i, 2)) (hw : Cond.constantFloat Y.1.cls i v ∈ gw) (kk : V z Y R Q (pc + 2) L (.float v :: st) h sz kc nc) : V z Y R Q pc L (st) h sz kc nc := fun p e s m args below meth c d0 H locs ls C hd0 hL hr => lv_ldcf C.1 C.2.1 C.2.2.2.1 (dr_words C.2.2.2.2.1 d0 _ hw) hd (kk p e s m args below meth c d0 H locs ls C hd0 hL hr)
theorem V_ldc2 {i : Nat} {v : Int64} (hd : decode Y.2.1 pc = .ok (.ldc2_w i, 3)) (hw : Cond.constantLong Y.1.cls i v ∈ gw) (kk : V z Y R Q (pc + 3) L (.long v :: st) h sz kc nc) : V z Y R Q pc L (st) h sz kc nc := fun p e s m args below meth c d0 H locs ls C hd0 hL hr => lv_ldc2 C.1 C.2.1 C.2.2.2.1 (dr_words C.2.2.2.2.1 d0 _ hw) hd (kk p e s m args below meth c d0 H locs ls C hd0 hL hr)
theorem V_iload_n {k : Fin 4} {x : Int32} (hd : decode Y.2.1 pc = .ok (.iload_n k, 1)) (hl : L[(k : Nat)]? = some (some (.int x))) (kk : V z Y R Q (pc + 1) L (.int x :: st) h sz kc nc) : V z Y R Q pc L (st) h sz kc nc := fun p e s m args below meth c d0 H locs ls C hd0 hL hr => lv_iload_n C.1 C.2.1 hd rfl (zl_at hr.2.2.1 hl) (kk p e s m args below meth c d0 H locs ls C hd0 hL hr)
theorem V_iload {i : Nat} {x : Int32} (hd : decode Y.2.1 pc = .ok (.iload i, 2)) (hl : L[i]? = some (some (.int x))) (kk : V z Y R Q (pc + 2) L (.int x :: st) h sz kc nc) : V z Y R Q pc L (st) h sz kc nc := fun p e s m args below meth c d0 H locs ls C hd0 hL hr => lv_iload C.1 C.2.1 hd (zl_at hr.2.2.1 hl) (kk p e s m args below meth c d0 H locs ls C hd0 hL hr)
theorem V_lload_n {k : Fin 4} {x : Int64} (hd : decode Y.2.1 pc = .ok (.lload_n k, 1)) (hl : L[(k : Nat)]? = some (some (.long x))) (kk : V z Y R Q (pc + 1) L (.long x :: st) h sz kc nc) : V z Y R Q pc L (st) h sz kc nc := fun p e s m args below meth c d0 H locs ls C hd0 hL hr => lv_lload_n C.1 C.2.1 hd rfl (zl_at hr.2.2.1 hl) (kk p e s m args below meth c d0 H locs ls C hd0 hL hr)
theorem V_lload {i : Nat} {x : Int64} (hd : decode Y.2.1 pc = .ok (.lload i, 2)) (hl : L[i]? = some (some (.long x))) (kk : V z Y R Q (pc + 2) L (.long x :: st) h sz kc nc) : V z Y R Q pc L (st) h sz kc nc := fun p e s m args below meth c d0 H locs ls C hd0 hL hr => lv_lload C.1 C.2.1 hd (zl_at hr.2.2.1 hl) (kk p e s m args below meth c d0 H locs ls C hd0 hL hr)
theorem V_fload_n {k : Fin 4} {x : UInt32} (hd : decode Y.2.1 pc = .ok (.fload_n k, 1)) (hl : L[(k : Nat)]? = some (some (.float x))) (kk : V z Y R Q (pc + 1) L (.float x :: st) h sz kc nc) : V z Y R Q pc L (st) h sz kc nc := fun p e s m args below meth c d0 H locs ls C hd0 hL hr => lv_fload_n C.1 C.2.1 hd rfl (zl_at hr.2.2.1 hl) (kk p e s m args below meth c d0 H locs ls C hd0 hL hr)
theorem V_fload {i : Nat} {x : UInt32} (hd : decode Y.2.1 pc = .ok (.fload i, 2)) (hl : L[i]? = some (some (.float x))) (kk : V z Y R Q (pc + 2) L (.float x :: st) h sz kc nc) : V z Y R Q pc L (st) h sz kc nc := fun p e s m args below meth c d0 H locs ls C hd0 hL hr => lv_fload C.1 C.2.1 hd (zl_at hr.2.2.1 hl) (kk p e s m args below meth c d0 H locs ls C hd0 hL hr)
theorem V_aload_n {k : Fin 4} {x : Nat} (hd : decode Y.2.1 pc = .ok (.aload_n k, 1)) (hl : L[(k : Nat)]? = some (some (.ref x))) (kk : V z Y R Q (pc + 1) L (.ref x :: st) h sz kc nc) : V z Y R Q pc L (st) h sz kc nc := fun p e s m args below meth c d0 H locs ls C hd0 hL hr => lv_aload_n C.1 C.2.1 hd rfl (zl_at hr.2.2.1 hl) (kk p e s m args below meth c d0 H locs ls C hd0 hL hr)
theorem V_aload {i : Nat} {x : Nat} (hd : decode Y.2.1 pc = .ok (.aload i, 2)) (hl : L[i]? = some (some (.ref x))) (kk : V z Y R Q (pc + 2) L (.ref x :: st) h sz kc nc) : V z Y R Q pc L (st) h sz kc nc := fun p e s m args below meth c d0 H locs ls C hd0 hL hr => lv_aload C.1 C.2.1 hd (zl_at hr.2.2.1 hl) (kk p e s m args below meth c d0 H locs ls C hd0 hL hr)
theorem V_aload_nN {k : Fin 4} (hd : decode Y.2.1 pc = .ok (.aload_n k, 1)) (hl : L[(k : Nat)]? = some (some .null)) (kk : V z Y R Q (pc + 1) L (.null :: st) h sz kc nc) : V z Y R Q pc L (st) h sz kc nc := fun p e s m args below meth c d0 H locs ls C hd0 hL hr => lv_aload_nN C.1 C.2.1 hd rfl (zl_at hr.2.2.1 hl) (kk p e s m args below meth c d0 H locs ls C hd0 hL hr)
theorem V_istore_n {k : Fin 4} {x : Int32} (hd : decode Y.2.1 pc = .ok (.istore_n k, 1)) (hi : (k : Nat) < L.length) (kk : V z Y R Q (pc + 1) (zp1 L (k : Nat) (.int x)) st h sz kc nc) : V z Y R Q pc L (.int x :: st) h sz kc nc := fun p e s m args below meth c d0 H locs ls C hd0 hL hr => lv_istore_n C.1 C.2.1 hd rfl hr.2.2.1 hi rfl (fun ls2 hl2 => kk p e s m args below meth c d0 H locs ls2 C hd0 (by rw [zp1_len]; exact hL) ⟨hr.1, hr.2.1, zl_p1 hl2, hr.2.2.2⟩)
theorem V_istore {i : Nat} {x : Int32} (hd : decode Y.2.1 pc = .ok (.istore i, 2)) (hi : i < L.length) (kk : V z Y R Q (pc + 2) (zp1 L i (.int x)) st h sz kc nc) : V z Y R Q pc L (.int x :: st) h sz kc nc := fun p e s m args below meth c d0 H locs ls C hd0 hL hr => lv_istore C.1 C.2.1 hd hr.2.2.1 hi rfl (fun ls2 hl2 => kk p e s m args below meth c d0 H locs ls2 C hd0 (by rw [zp1_len]; exact hL) ⟨hr.1, hr.2.1, zl_p1 hl2, hr.2.2.2⟩)
theorem V_fstore_n {k : Fin 4} {x : UInt32} (hd : decode Y.2.1 pc = .ok (.fstore_n k, 1)) (hi : (k : Nat) < L.length) (kk : V z Y R Q (pc + 1) (zp1 L (k : Nat) (.float x)) st h sz kc nc) : V z Y R Q pc L (.float x :: st) h sz kc nc := fun p e s m args below meth c d0 H locs ls C hd0 hL hr => lv_fstore_n C.1 C.2.1 hd rfl hr.2.2.1 hi rfl (fun ls2 hl2 => kk p e s m args below meth c d0 H locs ls2 C hd0 (by rw [zp1_len]; exact hL) ⟨hr.1, hr.2.1, zl_p1 hl2, hr.2.2.2⟩)
theorem V_fstore {i : Nat} {x : UInt32} (hd : decode Y.2.1 pc = .ok (.fstore i, 2)) (hi : i < L.length) (kk : V z Y R Q (pc + 2) (zp1 L i (.float x)) st h sz kc nc) : V z Y R Q pc L (.float x :: st) h sz kc nc := fun p e s m args below meth c d0 H locs ls C hd0 hL hr => lv_fstore C.1 C.2.1 hd hr.2.2.1 hi rfl (fun ls2 hl2 => kk p e s m args below meth c d0 H locs ls2 C hd0 (by rw [zp1_len]; exact hL) ⟨hr.1, hr.2.1, zl_p1 hl2, hr.2.2.2⟩)
theorem V_astore_n {k : Fin 4} {x : Nat} (hd : decode Y.2.1 pc = .ok (.astore_n k, 1)) (hi : (k : Nat) < L.length) (kk : V z Y R Q (pc + 1) (zp1 L (k : Nat) (.ref x)) st h sz kc nc) : V z Y R Q pc L (.ref x :: st) h sz kc nc := fun p e s m args below meth c d0 H locs ls C hd0 hL hr => lv_astore_n C.1 C.2.1 hd rfl hr.2.2.1 hi rfl (fun ls2 hl2 => kk p e s m args below meth c d0 H locs ls2 C hd0 (by rw [zp1_len]; exact hL) ⟨hr.1, hr.2.1, zl_p1 hl2, hr.2.2.2⟩)
theorem V_astore {i : Nat} {x : Nat} (hd : decode Y.2.1 pc = .ok (.astore i, 2)) (hi : i < L.length) (kk : V z Y R Q (pc + 2) (zp1 L i (.ref x)) st h sz kc nc) : V z Y R Q pc L (.ref x :: st) h sz kc nc := fun p e s m args below meth c d0 H locs ls C hd0 hL hr => lv_astore C.1 C.2.1 hd hr.2.2.1 hi rfl (fun ls2 hl2 => kk p e s m args below meth c d0 H locs ls2 C hd0 (by rw [zp1_len]; exact hL) ⟨hr.1, hr.2.1, zl_p1 hl2, hr.2.2.2⟩)
theorem V_lstore_n {k : Fin 4} {x : Int64} (hd : decode Y.2.1 pc = .ok (.lstore_n k, 1)) (hi : (k : Nat) + 1 < L.length) (kk : V z Y R Q (pc + 1) (zp2 L (k : Nat) (.long x)) st h sz kc nc) : V z Y R Q pc L (.long x :: st) h sz kc nc := fun p e s m args below meth c d0 H locs ls C hd0 hL hr => lv_lstore_n C.1 C.2.1 hd rfl hr.2.2.1 hi rfl (fun ls2 hl2 => kk p e s m args below meth c d0 H locs ls2 C hd0 (by rw [zp2_len L _ _ hi]; exact hL) ⟨hr.1, hr.2.1, zl_p2 hi hl2, hr.2.2.2⟩)
theorem V_lstore {i : Nat} {x : Int64} (hd : decode Y.2.1 pc = .ok (.lstore i, 2)) (hi : i + 1 < L.length) (kk : V z Y R Q (pc + 2) (zp2 L i (.long x)) st h sz kc nc) : V z Y R Q pc L (.long x :: st) h sz kc nc := fun p e s m args below meth c d0 H locs ls C hd0 hL hr => lv_lstore C.1 C.2.1 hd hr.2.2.1 hi rfl (fun ls2 hl2 => kk p e s m args below meth c d0 H locs ls2 C hd0 (by rw [zp2_len L _ _ hi]; exact hL) ⟨hr.1, hr.2.1, zl_p2 hi hl2, hr.2.2.2⟩)
theorem V_iinc {i : Nat} {n : Int} {x : Int32} (hd : decode Y.2.1 pc = .ok (.iinc i n, 3)) (hl : L[i]? = some (some (.int x))) (kk : V z Y R Q (pc + 3) (zp1 L i (.int (x + Int32.ofInt n))) st h sz kc nc) : V z Y R Q pc L st h sz kc nc := by
  intro p e s m args below meth c d0 H locs ls C hd0 hL hr
  have hi : i < L.length := (List.getElem?_eq_some_iff.mp hl).1
  obtain ⟨k, hk⟩ := List.getElem?_of_mem ((zls_mem z.2.1 L 0 (i, .int x)).mpr ⟨i, .int x, hl, by rw [Nat.zero_add]; rfl⟩)
  exact lv_iinc C.1 C.2.1 hd hr.2.2.1 hk rfl hi rfl (fun ls2 hl2 => kk p e s m args below meth c d0 H locs ls2 C hd0 (by rw [zp1_len]; exact hL) ⟨hr.1, hr.2.1, zl_p1 hl2, hr.2.2.2⟩)
theorem V_dup {v : Value} (hd : decode Y.2.1 pc = .ok (.dup, 1)) (hv : v.category = 1) (kk : V z Y R Q (pc + 1) L (v :: v :: st) h sz kc nc) : V z Y R Q pc L (v :: st) h sz kc nc := fun p e s m args below meth c d0 H locs ls C hd0 hL hr => lv_dup C.1 C.2.1 hd (by rw [shv_cat]; exact hv) (kk p e s m args below meth c d0 H locs ls C hd0 hL hr)
theorem V_pop {v : Value} (hd : decode Y.2.1 pc = .ok (.pop, 1)) (hv : v.category = 1) (kk : V z Y R Q (pc + 1) L (st) h sz kc nc) : V z Y R Q pc L (v :: st) h sz kc nc := fun p e s m args below meth c d0 H locs ls C hd0 hL hr => lv_pop C.1 C.2.1 hd (by rw [shv_cat]; exact hv) (kk p e s m args below meth c d0 H locs ls C hd0 hL hr)
theorem V_dup2 {v w : Value} (hd : decode Y.2.1 pc = .ok (.dup2, 1)) (hv : v.category = 1) (hw : w.category = 1) (kk : V z Y R Q (pc + 1) L (v :: w :: v :: w :: st) h sz kc nc) : V z Y R Q pc L (v :: w :: st) h sz kc nc := fun p e s m args below meth c d0 H locs ls C hd0 hL hr => lv_dup2_11 C.1 C.2.1 hd (by rw [shv_cat]; exact hv) (by rw [shv_cat]; exact hw) (kk p e s m args below meth c d0 H locs ls C hd0 hL hr)
theorem V_dup_x1 {v w : Value} (hd : decode Y.2.1 pc = .ok (.dup_x1, 1)) (hv : v.category = 1) (hw : w.category = 1) (kk : V z Y R Q (pc + 1) L (v :: w :: v :: st) h sz kc nc) : V z Y R Q pc L (v :: w :: st) h sz kc nc := fun p e s m args below meth c d0 H locs ls C hd0 hL hr => lv_dup_x1 C.1 C.2.1 hd (by rw [shv_cat]; exact hv) (by rw [shv_cat]; exact hw) (kk p e s m args below meth c d0 H locs ls C hd0 hL hr)
theorem V_if_eq {x : Int32} {off : Int} {tgt : Nat} (hd : decode Y.2.1 pc = .ok (.ifCond .eq off, 3)) (ht : (pc : Int) + off = (tgt : Int)) (kt : x = 0 → V z Y R Q tgt L st h sz kc nc) (kf : ¬ x = 0 → V z Y R Q (pc + 3) L st h sz kc nc) : V z Y R Q pc L (.int x :: st) h sz kc nc := fun p e s m args below meth c d0 H locs ls C hd0 hL hr => lv_if_eq C.1 C.2.1 hd ht (fun g => kt g p e s m args below meth c d0 H locs ls C hd0 hL hr) (fun g => kf g p e s m args below meth c d0 H locs ls C hd0 hL hr)
theorem V_if_ne {x : Int32} {off : Int} {tgt : Nat} (hd : decode Y.2.1 pc = .ok (.ifCond .ne off, 3)) (ht : (pc : Int) + off = (tgt : Int)) (kt : ¬ x = 0 → V z Y R Q tgt L st h sz kc nc) (kf : x = 0 → V z Y R Q (pc + 3) L st h sz kc nc) : V z Y R Q pc L (.int x :: st) h sz kc nc := fun p e s m args below meth c d0 H locs ls C hd0 hL hr => lv_if_ne C.1 C.2.1 hd ht (fun g => kt g p e s m args below meth c d0 H locs ls C hd0 hL hr) (fun g => kf g p e s m args below meth c d0 H locs ls C hd0 hL hr)
theorem V_if_lt {x : Int32} {off : Int} {tgt : Nat} (hd : decode Y.2.1 pc = .ok (.ifCond .lt off, 3)) (ht : (pc : Int) + off = (tgt : Int)) (kt : x < 0 → V z Y R Q tgt L st h sz kc nc) (kf : ¬ x < 0 → V z Y R Q (pc + 3) L st h sz kc nc) : V z Y R Q pc L (.int x :: st) h sz kc nc := fun p e s m args below meth c d0 H locs ls C hd0 hL hr => lv_if_lt C.1 C.2.1 hd ht (fun g => kt g p e s m args below meth c d0 H locs ls C hd0 hL hr) (fun g => kf g p e s m args below meth c d0 H locs ls C hd0 hL hr)
theorem V_if_ge {x : Int32} {off : Int} {tgt : Nat} (hd : decode Y.2.1 pc = .ok (.ifCond .ge off, 3)) (ht : (pc : Int) + off = (tgt : Int)) (kt : 0 ≤ x → V z Y R Q tgt L st h sz kc nc) (kf : ¬ 0 ≤ x → V z Y R Q (pc + 3) L st h sz kc nc) : V z Y R Q pc L (.int x :: st) h sz kc nc := fun p e s m args below meth c d0 H locs ls C hd0 hL hr => lv_if_ge C.1 C.2.1 hd ht (fun g => kt g p e s m args below meth c d0 H locs ls C hd0 hL hr) (fun g => kf g p e s m args below meth c d0 H locs ls C hd0 hL hr)
theorem V_if_gt {x : Int32} {off : Int} {tgt : Nat} (hd : decode Y.2.1 pc = .ok (.ifCond .gt off, 3)) (ht : (pc : Int) + off = (tgt : Int)) (kt : 0 < x → V z Y R Q tgt L st h sz kc nc) (kf : ¬ 0 < x → V z Y R Q (pc + 3) L st h sz kc nc) : V z Y R Q pc L (.int x :: st) h sz kc nc := fun p e s m args below meth c d0 H locs ls C hd0 hL hr => lv_if_gt C.1 C.2.1 hd ht (fun g => kt g p e s m args below meth c d0 H locs ls C hd0 hL hr) (fun g => kf g p e s m args below meth c d0 H locs ls C hd0 hL hr)
theorem V_if_le {x : Int32} {off : Int} {tgt : Nat} (hd : decode Y.2.1 pc = .ok (.ifCond .le off, 3)) (ht : (pc : Int) + off = (tgt : Int)) (kt : x ≤ 0 → V z Y R Q tgt L st h sz kc nc) (kf : ¬ x ≤ 0 → V z Y R Q (pc + 3) L st h sz kc nc) : V z Y R Q pc L (.int x :: st) h sz kc nc := fun p e s m args below meth c d0 H locs ls C hd0 hL hr => lv_if_le C.1 C.2.1 hd ht (fun g => kt g p e s m args below meth c d0 H locs ls C hd0 hL hr) (fun g => kf g p e s m args below meth c d0 H locs ls C hd0 hL hr)
theorem V_icmp_eq {x y : Int32} {off : Int} {tgt : Nat} (hd : decode Y.2.1 pc = .ok (.if_icmp .eq off, 3)) (ht : (pc : Int) + off = (tgt : Int)) (kt : x = y → V z Y R Q tgt L st h sz kc nc) (kf : ¬ x = y → V z Y R Q (pc + 3) L st h sz kc nc) : V z Y R Q pc L (.int y :: .int x :: st) h sz kc nc := fun p e s m args below meth c d0 H locs ls C hd0 hL hr => lv_icmp_eq C.1 C.2.1 hd ht (fun g => kt g p e s m args below meth c d0 H locs ls C hd0 hL hr) (fun g => kf g p e s m args below meth c d0 H locs ls C hd0 hL hr)
theorem V_icmp_ne {x y : Int32} {off : Int} {tgt : Nat} (hd : decode Y.2.1 pc = .ok (.if_icmp .ne off, 3)) (ht : (pc : Int) + off = (tgt : Int)) (kt : ¬ x = y → V z Y R Q tgt L st h sz kc nc) (kf : x = y → V z Y R Q (pc + 3) L st h sz kc nc) : V z Y R Q pc L (.int y :: .int x :: st) h sz kc nc := fun p e s m args below meth c d0 H locs ls C hd0 hL hr => lv_icmp_ne C.1 C.2.1 hd ht (fun g => kt g p e s m args below meth c d0 H locs ls C hd0 hL hr) (fun g => kf g p e s m args below meth c d0 H locs ls C hd0 hL hr)
theorem V_icmp_lt {x y : Int32} {off : Int} {tgt : Nat} (hd : decode Y.2.1 pc = .ok (.if_icmp .lt off, 3)) (ht : (pc : Int) + off = (tgt : Int)) (kt : x < y → V z Y R Q tgt L st h sz kc nc) (kf : ¬ x < y → V z Y R Q (pc + 3) L st h sz kc nc) : V z Y R Q pc L (.int y :: .int x :: st) h sz kc nc := fun p e s m args below meth c d0 H locs ls C hd0 hL hr => lv_icmp_lt C.1 C.2.1 hd ht (fun g => kt g p e s m args below meth c d0 H locs ls C hd0 hL hr) (fun g => kf g p e s m args below meth c d0 H locs ls C hd0 hL hr)
theorem V_icmp_ge {x y : Int32} {off : Int} {tgt : Nat} (hd : decode Y.2.1 pc = .ok (.if_icmp .ge off, 3)) (ht : (pc : Int) + off = (tgt : Int)) (kt : y ≤ x → V z Y R Q tgt L st h sz kc nc) (kf : ¬ y ≤ x → V z Y R Q (pc + 3) L st h sz kc nc) : V z Y R Q pc L (.int y :: .int x :: st) h sz kc nc := fun p e s m args below meth c d0 H locs ls C hd0 hL hr => lv_icmp_ge C.1 C.2.1 hd ht (fun g => kt g p e s m args below meth c d0 H locs ls C hd0 hL hr) (fun g => kf g p e s m args below meth c d0 H locs ls C hd0 hL hr)
theorem V_icmp_gt {x y : Int32} {off : Int} {tgt : Nat} (hd : decode Y.2.1 pc = .ok (.if_icmp .gt off, 3)) (ht : (pc : Int) + off = (tgt : Int)) (kt : y < x → V z Y R Q tgt L st h sz kc nc) (kf : ¬ y < x → V z Y R Q (pc + 3) L st h sz kc nc) : V z Y R Q pc L (.int y :: .int x :: st) h sz kc nc := fun p e s m args below meth c d0 H locs ls C hd0 hL hr => lv_icmp_gt C.1 C.2.1 hd ht (fun g => kt g p e s m args below meth c d0 H locs ls C hd0 hL hr) (fun g => kf g p e s m args below meth c d0 H locs ls C hd0 hL hr)
theorem V_icmp_le {x y : Int32} {off : Int} {tgt : Nat} (hd : decode Y.2.1 pc = .ok (.if_icmp .le off, 3)) (ht : (pc : Int) + off = (tgt : Int)) (kt : x ≤ y → V z Y R Q tgt L st h sz kc nc) (kf : ¬ x ≤ y → V z Y R Q (pc + 3) L st h sz kc nc) : V z Y R Q pc L (.int y :: .int x :: st) h sz kc nc := fun p e s m args below meth c d0 H locs ls C hd0 hL hr => lv_icmp_le C.1 C.2.1 hd ht (fun g => kt g p e s m args below meth c d0 H locs ls C hd0 hL hr) (fun g => kf g p e s m args below meth c d0 H locs ls C hd0 hL hr)
theorem V_goto {off : Int} {tgt : Nat} (hd : decode Y.2.1 pc = .ok (.goto off, 3)) (ht : (pc : Int) + off = (tgt : Int)) (kk : V z Y R Q tgt L st h sz kc nc) : V z Y R Q pc L st h sz kc nc := fun p e s m args below meth c d0 H locs ls C hd0 hL hr => lv_goto C.1 C.2.1 hd ht (kk p e s m args below meth c d0 H locs ls C hd0 hL hr)
theorem V_tableOut {dflt lo hi : Int} {offs : Array Int} {len : Nat} {x : Int32} {tgt : Nat} (hd : decode Y.2.1 pc = .ok (.tableswitch dflt lo hi offs, len)) (hx : x.toInt < lo ∨ hi < x.toInt) (ht : (pc : Int) + dflt = (tgt : Int)) (kk : V z Y R Q tgt L st h sz kc nc) : V z Y R Q pc L (.int x :: st) h sz kc nc := fun p e s m args below meth c d0 H locs ls C hd0 hL hr => lv_tableOut C.1 C.2.1 hd hx ht (kk p e s m args below meth c d0 H locs ls C hd0 hL hr)
theorem V_tableIn {dflt lo hi : Int} {offs : Array Int} {len : Nat} {x : Int32} {off : Int} {tgt : Nat} (hd : decode Y.2.1 pc = .ok (.tableswitch dflt lo hi offs, len)) (h1 : ¬ x.toInt < lo) (h2 : ¬ hi < x.toInt) (ho : offs[(x.toInt - lo).toNat]? = some off) (ht : (pc : Int) + off = (tgt : Int)) (kk : V z Y R Q tgt L st h sz kc nc) : V z Y R Q pc L (.int x :: st) h sz kc nc := fun p e s m args below meth c d0 H locs ls C hd0 hL hr => lv_tableIn C.1 C.2.1 hd h1 h2 ho ht (kk p e s m args below meth c d0 H locs ls C hd0 hL hr)
theorem V_lookup {dflt : Int} {ps : Array (Int × Int)} {len : Nat} {x : Int32} {off : Int} {tgt : Nat} (hd : decode Y.2.1 pc = .ok (.lookupswitch dflt ps, len)) (hp0 : (ps.toList.zip (ps.toList.drop 1)).all (fun (a, next) => a.1 < next.1) = true) (ho : Op.lookupswitch.offset ps.toList dflt x.toInt = off) (ht : (pc : Int) + off = (tgt : Int)) (kk : V z Y R Q tgt L st h sz kc nc) : V z Y R Q pc L (.int x :: st) h sz kc nc := fun p e s m args below meth c d0 H locs ls C hd0 hL hr => lv_lookup C.1 C.2.1 hd hp0 ho ht (kk p e s m args below meth c d0 H locs ls C hd0 hL hr)
theorem V_ifnonnull {x : Nat} {off : Int} {tgt : Nat} (hd : decode Y.2.1 pc = .ok (.ifnonnull off, 3)) (ht : (pc : Int) + off = (tgt : Int)) (kk : V z Y R Q tgt L st h sz kc nc) : V z Y R Q pc L (.ref x :: st) h sz kc nc := fun p e s m args below meth c d0 H locs ls C hd0 hL hr => lv_ifnonnull C.1 C.2.1 hd ht (kk p e s m args below meth c d0 H locs ls C hd0 hL hr)
theorem V_ifnull {x : Nat} {off : Int} (hd : decode Y.2.1 pc = .ok (.ifnull off, 3)) (kk : V z Y R Q (pc + 3) L st h sz kc nc) : V z Y R Q pc L (.ref x :: st) h sz kc nc := fun p e s m args below meth c d0 H locs ls C hd0 hL hr => lv_ifnull C.1 C.2.1 hd (kk p e s m args below meth c d0 H locs ls C hd0 hL hr)
/-- arrays -/
theorem zK_i {z : ZG} {s : State} (h : ZK z s) (d : Drawn) : ArrOfT (s.setDrawn d) z.2.2.2.1 .int := (h.1.2 0 (z.2.2.2.1, .int) rfl).1
theorem zK_l {z : ZG} {s : State} (h : ZK z s) (d : Drawn) : ArrOfT (s.setDrawn d) z.2.2.2.2.1 .long := (h.1.2 1 (z.2.2.2.2.1, .long) rfl).1
theorem zK_q {z : ZG} {s : State} (h : ZK z s) (d : Drawn) : ArrOfT (s.setDrawn d) z.2.2.2.2.2 (.object "MoireEncoder$State") := (h.1.2 2 (z.2.2.2.2.2, .object "MoireEncoder$State") rfl).1
theorem V_iald {a n : Nat} {f : Nat → Int32} {i : Int32} (hd : decode Y.2.1 pc = .ok (.iaload, 1)) (he : h a = some (.inr (n, .inl f))) (hi : vp_in i n) (kk : V z Y R Q (pc + 1) L (.int (f i.toNatClampNeg) :: st) h sz kc nc) : V z Y R Q pc L (.int i :: .ref a :: st) h sz kc nc := by
  intro p e s m args below meth c d0 H locs ls C hd0 hL hr
  have hlt : i.toNatClampNeg < n := Nat.not_le.mp fun q => hi (Or.inr q)
  have hc : H[z.2.1 + a]? = some (vp_cell z.2.2.2.1 (n, .inl f)) := hr.1 a _ he
  exact W.iald (v := .int (f i.toNatClampNeg)) C.1 C.2.1 hc (zK_i C.2.2.2.2.2.2.2.2 d0 n (fun j => .int (f j))) (fun q => by cases q) (by show ¬ (i < 0 ∨ (arrV _ _ _).slots.size ≤ _); rw [arrV_size]; exact hi) (by show (arrV _ _ _).slots[_]? = _; rw [arrV_read _ _ hlt]) rfl rfl hd (kk p e s m args below meth c d0 H locs ls C hd0 hL hr)
theorem V_lald {a n : Nat} {f : Nat → Int64} {i : Int32} (hd : decode Y.2.1 pc = .ok (.laload, 1)) (he : h a = some (.inr (n, .inr (.inl f)))) (hi : vp_in i n) (kk : V z Y R Q (pc + 1) L (.long (f i.toNatClampNeg) :: st) h sz kc nc) : V z Y R Q pc L (.int i :: .ref a :: st) h sz kc nc := by
  intro p e s m args below meth c d0 H locs ls C hd0 hL hr
  have hlt : i.toNatClampNeg < n := Nat.not_le.mp fun q => hi (Or.inr q)
  have hc : H[z.2.1 + a]? = some (vp_cell z.2.2.2.2.1 (n, .inr (.inl f))) := hr.1 a _ he
  exact W.lald (v := .long (f i.toNatClampNeg)) C.1 C.2.1 hc (zK_l C.2.2.2.2.2.2.2.2 d0 n (fun j => .long (f j))) (fun q => by cases q) (by show ¬ (i < 0 ∨ (arrV _ _ _).slots.size ≤ _); rw [arrV_size]; exact hi) (by show (arrV _ _ _).slots[_]? = _; rw [arrV_read _ _ hlt]) rfl rfl hd (kk p e s m args below meth c d0 H locs ls C hd0 hL hr)
theorem V_aald {a n : Nat} {f : Nat → Option Nat} {i : Int32} (hd : decode Y.2.1 pc = .ok (.aaload, 1)) (he : h a = some (.inr (n, .inr (.inr (.inr (.inr f)))))) (hi : vp_in i n) (kk : V z Y R Q (pc + 1) L (va_rf (f i.toNatClampNeg) :: st) h sz kc nc) : V z Y R Q pc L (.int i :: .ref a :: st) h sz kc nc := by
  intro p e s m args below meth c d0 H locs ls C hd0 hL hr
  have hlt : i.toNatClampNeg < n := Nat.not_le.mp fun q => hi (Or.inr q)
  have hc : H[z.2.1 + a]? = some (vp_cell z.2.2.2.2.2 (n, .inr (.inr (.inr (.inr (fun j => (f j).map (z.2.1 + ·))))))) := hr.1 a _ he
  refine W.aald (v := va_rf ((f i.toNatClampNeg).map (z.2.1 + ·))) (ty := .object "MoireEncoder$State") C.1 C.2.1 hc (zK_q C.2.2.2.2.2.2.2.2 d0 n (fun j => va_rf ((f j).map (z.2.1 + ·)))) rfl (fun q => by cases q) (by show ¬ (i < 0 ∨ (arrV _ _ _).slots.size ≤ _); rw [arrV_size]; exact hi) (by show (arrV _ _ _).slots[_]? = _; rw [arrV_read _ _ hlt]) rfl rfl hd ?_
  have := kk p e s m args below meth c d0 H locs ls C hd0 hL hr
  rw [List.map_cons, shv_rf] at this
  exact this
theorem V_alen {a : Nat} {x : vp_A} (hd : decode Y.2.1 pc = .ok (.arraylength, 1)) (he : h a = some (.inr x)) (kk : V z Y R Q (pc + 1) L (.int (Int32.ofNat x.1) :: st) h sz kc nc) : V z Y R Q pc L (.ref a :: st) h sz kc nc := by
  intro p e s m args below meth c d0 H locs ls C hd0 hL hr
  have k2 := kk p e s m args below meth c d0 H locs ls C hd0 hL hr
  have hc := hr.1 a _ he
  obtain ⟨n, f | f | f | f | f⟩ := x
  · exact W.alen (n := Int32.ofNat n) C.1 C.2.1 hc (zK_i C.2.2.2.2.2.2.2.2 d0 n (fun j => .int (f j))) (by show (arrV _ _ _).slots.size.toInt32 = _; rw [arrV_size]) rfl rfl hd k2
  · exact W.alen (n := Int32.ofNat n) C.1 C.2.1 hc (zK_l C.2.2.2.2.2.2.2.2 d0 n (fun j => .long (f j))) (by show (arrV _ _ _).slots.size.toInt32 = _; rw [arrV_size]) rfl rfl hd k2
  · exact W.alen (n := Int32.ofNat n) C.1 C.2.1 hc (zK_i C.2.2.2.2.2.2.2.2 d0 n (fun j => .float (f j))) (by show (arrV _ _ _).slots.size.toInt32 = _; rw [arrV_size]) rfl rfl hd k2
  · exact W.alen (n := Int32.ofNat n) C.1 C.2.1 hc (zK_i C.2.2.2.2.2.2.2.2 d0 n (fun j => .double (f j))) (by show (arrV _ _ _).slots.size.toInt32 = _; rw [arrV_size]) rfl rfl hd k2
  · exact W.alen (n := Int32.ofNat n) C.1 C.2.1 hc (zK_q C.2.2.2.2.2.2.2.2 d0 n (fun j => va_rf ((f j).map (z.2.1 + ·)))) (by show (arrV _ _ _).slots.size.toInt32 = _; rw [arrV_size]) rfl rfl hd k2
theorem V_iast {a n : Nat} {f : Nat → Int32} {i x : Int32} (hd : decode Y.2.1 pc = .ok (.iastore, 1)) (he : h a = some (.inr (n, .inl f))) (hi : vp_in i n) (kk : V z Y R Q (pc + 1) L st (hset h a (.inr (n, .inl (upd f i.toNatClampNeg x)))) sz kc nc) : V z Y R Q pc L (.int x :: .int i :: .ref a :: st) h sz kc nc := by
  intro p e s m args below meth c d0 H locs ls C hd0 hL hr
  have hc : H[z.2.1 + a]? = some (vp_cell z.2.2.2.1 (n, .inl f)) := hr.1 a _ he
  refine W.iast C.1 C.2.1 hc (zK_i C.2.2.2.2.2.2.2.2 d0 n (fun j => .int (f j))) (fun q => by cases q) (by show ¬ (i < 0 ∨ (arrV _ _ _).slots.size ≤ _); rw [arrV_size]; exact hi) rfl rfl hd fun H1 e1 e2 oq => ?_
  refine kk p e s m args below meth c d0 H1 _ ls C hd0 hL (hr.put (hr.1.set ?_ oq) e2 oq)
  show H1[z.2.1 + a]? = some (vp_cell _ _)
  rw [e1, vp_cell_i, vp_cell_i, arrV_store]
  congr 2
  funext q
  by_cases hq : q = i.toNatClampNeg
  · subst hq; simp [updV, upd]
  · simp [updV, upd, hq]
theorem V_last {a n : Nat} {f : Nat → Int64} {i : Int32} {x : Int64} (hd : decode Y.2.1 pc = .ok (.lastore, 1)) (he : h a = some (.inr (n, .inr (.inl f)))) (hi : vp_in i n) (kk : V z Y R Q (pc + 1) L st (hset h a (.inr (n, .inr (.inl (vp_updL f i.toNatClampNeg x))))) sz kc nc) : V z Y R Q pc L (.long x :: .int i :: .ref a :: st) h sz kc nc := by
  intro p e s m args below meth c d0 H locs ls C hd0 hL hr
  have hc : H[z.2.1 + a]? = some (vp_cell z.2.2.2.2.1 (n, .inr (.inl f))) := hr.1 a _ he
  refine W.last C.1 C.2.1 hc (zK_l C.2.2.2.2.2.2.2.2 d0 n (fun j => .long (f j))) (fun q => by cases q) (by show ¬ (i < 0 ∨ (arrV _ _ _).slots.size ≤ _); rw [arrV_size]; exact hi) rfl rfl hd fun H1 e1 e2 oq => ?_
  refine kk p e s m args below meth c d0 H1 _ ls C hd0 hL (hr.put (hr.1.set ?_ oq) e2 oq)
  show H1[z.2.1 + a]? = some (vp_cell _ _)
  rw [e1, vp_cell_l, vp_cell_l, arrV_store]
  congr 2
  funext q
  by_cases hq : q = i.toNatClampNeg
  · subst hq; simp [updV, vp_updL]
  · simp [updV, vp_updL, hq]
/-- a State into a row of States -/
theorem V_aast {a n v : Nat} {f : Nat → Option Nat} {i : Int32} {vs : List Value} (hd : decode Y.2.1 pc = .ok (.aastore, 1)) (he : h a = some (.inr (n, .inr (.inr (.inr (.inr f)))))) (hv : h v = some (.inl (6, vs))) (hi : vp_in i n) (kk : V z Y R Q (pc + 1) L st (hset h a (.inr (n, .inr (.inr (.inr (.inr (va_up f i.toNatClampNeg (some v)))))))) sz kc nc) : V z Y R Q pc L (.ref v :: .int i :: .ref a :: st) h sz kc nc := by
  intro p e s m args below meth c d0 H locs ls C hd0 hL hr
  have hlt : i.toNatClampNeg < n := Nat.not_le.mp fun q => hi (Or.inr q)
  have h0 : ¬ i < 0 := fun q => hi (Or.inl q)
  have hc : H[z.2.1 + a]? = some (vp_cell z.2.2.2.2.2 (n, .inr (.inr (.inr (.inr (fun j => (f j).map (z.2.1 + ·))))))) := hr.1 a _ he
  obtain ⟨r', hr', cellV, g1, g2, g3, -⟩ := hr.1 v _ hv
  have hK : va_K z.2.2.1 vwCl (zty z) (s.setDrawn d0) := C.2.2.2.2.2.2.2.2.1
  have hcls := (hK.1 6 (RX6, TX6, 8) rfl).2
  obtain ⟨kA, comp, k1, k2, k3, -⟩ := (hK.2 2 (z.2.2.2.2.2, .object "MoireEncoder$State") rfl).2
  have hcomp : comp = z.2.2.1.1 6 := Option.some.inj (k3.symm.trans hcls.1)
  subst hcomp
  obtain ⟨kC, hkC, -⟩ := hcls.2
  refine W.aast C.1 C.2.1 hc (fun q h => by cases h) (fun h => by cases h) k1 k2 rfl hkC ⟨h0, by show _ < (arrV _ _ _).slots.size; rw [arrV_size]; exact hlt⟩ g1 (fun q h => by rw [g3] at h; cases h) (by rw [g2]; exact hkC) (by rw [g2]; exact va_assign hcls) rfl rfl hd fun H1 e1 e2 oq => ?_
  refine kk p e s m args below meth c d0 H1 _ ls C hd0 hL (hr.put (hr.1.set ?_ oq) e2 oq)
  show H1[z.2.1 + a]? = some (vp_cell _ _)
  rw [e1, vp_cell_q, vp_cell_q, arrV_store]
  congr 2
  funext q
  by_cases hq : q = i.toNatClampNeg
  · subst hq; simp [updV, va_up, va_rf]
  · simp [updV, va_up, hq]
/-- a new cell -/
theorem hp.push {z : ZG} {h : AH} {H H1 : Heap} {sz : Nat} {c : AC} (hh : hp z h H) (hs : H.size = z.2.1 + sz) (h1 : va_at z.2.2.1 vwCl (z.2.1 + sz, ze z c) H1) (o1 : ∀ q : Nat, q < z.2.1 + sz → H1[q]? = H[q]?) : hp z (hset h sz c) H1 := by
  intro x d hx
  by_cases e : x = sz
  · subst e
    rw [hset_s] at hx
    cases hx
    exact h1
  · rw [hset_n e] at hx
    exact (hh x d hx).kept (o1 _ (by have := hh.lt hx; omega))
theorem zr.push {z : ZG} {s : State} {L : AL} {h h' : AH} {sz : Nat} {H H1 : Heap} {locs : List Loc} {ls : Array Slot} (hr : zr z s L h sz H locs ls) (hh : hp z h' H1) (e2 : H1.size = z.2.1 + sz + 1) (o1 : ∀ q : Nat, q < z.2.1 + sz → H1[q]? = H[q]?) : zr z s L h' (sz + 1) H1 locs ls :=
  ⟨hh, by omega, hr.2.2.1, hr.2.2.2.1, fun q hq => by rw [o1 q (by omega)]; exact hr.2.2.2.2 q hq⟩
theorem V_newi {n : Int32} {N : Nat} (hd : decode Y.2.1 pc = .ok (.newarray .int, 2)) (hn : ¬ n < 0) (hN : n.toNatClampNeg = N) (hb : N * componentBytes .int ≤ 536870912) (hk : kc + 1 ≤ R.cells ∧ nc + N ≤ R.slots) (kk : V z Y R Q (pc + 2) L (.ref sz :: st) (hset h sz (.inr (N, .inl (fun _ => 0)))) (sz + 1) (kc + 1) (nc + N)) : V z Y R Q pc L (.int n :: st) h sz kc nc := by
  intro p e s m args below meth c d0 H locs ls C hd0 hL hr
  have hts := dr_words C.2.2.2.2.1 d0
  have hK : va_K z.2.2.1 vwCl (zty z) (s.setDrawn d0) := C.2.2.2.2.2.2.2.2.1
  refine va_newaK (atype := .int) (h := z.2.1 + sz) C.1 C.2.1 (hts _ gw_arr_int) rfl hd rfl hn hN hb hk.1 hk.2 hr.2.1 fun H1 cA e1 e2 o1 hAr hNm => ?_
  have hcA : cA = z.2.2.2.1 := Option.some.inj (hNm.symm.trans (hK.2 0 (z.2.2.2.1, .int) rfl).2)
  subst hcA
  exact kk p e s m args below meth c d0 H1 locs ls C hd0 hL (hr.push (hr.1.push hr.2.1 e1 o1) e2 o1)
theorem V_newl {n : Int32} {N : Nat} (hd : decode Y.2.1 pc = .ok (.newarray .long, 2)) (hn : ¬ n < 0) (hN : n.toNatClampNeg = N) (hb : N * componentBytes .long ≤ 536870912) (hk : kc + 1 ≤ R.cells ∧ nc + N ≤ R.slots) (kk : V z Y R Q (pc + 2) L (.ref sz :: st) (hset h sz (.inr (N, .inr (.inl (fun _ => 0))))) (sz + 1) (kc + 1) (nc + N)) : V z Y R Q pc L (.int n :: st) h sz kc nc := by
  intro p e s m args below meth c d0 H locs ls C hd0 hL hr
  have hts := dr_words C.2.2.2.2.1 d0
  have hK : va_K z.2.2.1 vwCl (zty z) (s.setDrawn d0) := C.2.2.2.2.2.2.2.2.1
  refine va_newaK (atype := .long) (h := z.2.1 + sz) C.1 C.2.1 (hts _ gw_arr_long) rfl hd rfl hn hN hb hk.1 hk.2 hr.2.1 fun H1 cA e1 e2 o1 hAr hNm => ?_
  have hcA : cA = z.2.2.2.2.1 := Option.some.inj (hNm.symm.trans (hK.2 1 (z.2.2.2.2.1, .long) rfl).2)
  subst hcA
  exact kk p e s m args below meth c d0 H1 locs ls C hd0 hL (hr.push (hr.1.push hr.2.1 e1 o1) e2 o1)
end Zrules
end
section
section Zrules2
variable {z : ZG} {Y : ZM} {R : Room} {Q : ZQ} {pc : Nat} {L : AL} {st : List Value} {h : AH} {sz kc nc : Nat}
theorem V_put {a index ci k : Nat} {ty : FieldType} {fs : List Value} {v : Value} (hd : decode Y.2.1 pc = .ok (.putfield index, 3)) (hw : ZF Y.1.cls index ci k) (ht : ZT ci k ty false) (he : h a = some (.inl (ci, fs))) (hl : k < fs.length) (hn : narrow ty v = v) (hf : fits ty v = true) (kk : V z Y R Q (pc + 3) L st (hset h a (.inl (ci, fs.set k v))) sz kc nc) : V z Y R Q pc L (v :: .ref a :: st) h sz kc nc := by
  intro p e s m args below meth c d0 H locs ls C hd0 hL hr
  obtain ⟨C', T, N, h1, h2, h3, h4⟩ := hw
  obtain ⟨C'', T', N', ty0, g1, g2, g3, g4, g5⟩ := ht
  obtain ⟨rfl, rfl, rfl⟩ : C' = C'' ∧ T = T' ∧ N = N' := by
    have e0 := Option.some.inj (h1.symm.trans g1)
    exact ⟨congrArg (fun q => q.1) e0, congrArg (fun q => q.2.1) e0, congrArg (fun q => q.2.2) e0⟩
  have hts := dr_words C.2.2.2.2.1 d0
  have hK : va_K z.2.2.1 vwCl (zty z) (s.setDrawn d0) := C.2.2.2.2.2.2.2.2.1
  have hap := va_apart (own := Y.1.cls) hts h3 ty0 g2 g3 hK h1
  obtain ⟨r, b1, cell, q1, q2, q3, q4⟩ := hr.1 a _ he
  have hr' : r = (C', T, N) := Option.some.inj (b1.symm.trans h1)
  subst hr'
  obtain ⟨hS, hfc, kC, hkC, hkind⟩ := hK.1 ci _ h1
  obtain ⟨cf, kf, fi, f, hi, hsl⟩ := hS k h2
  have hlay := hts _ (h3 _ (u_in_lay h2))
  unfold u_lay at hlay
  rw [if_neg (by rw [g5]; decide)] at hlay
  have hst := (u_facts hfc hkC (u_lays hts h3 h2) hi).1
  have h6 := u_store hfc hkC hkind hlay hi g4 (shv_nar (b := z.2.1) hn) (shv_fit (b := z.2.1) hf)
  have hown : (s.setDrawn d0).vm.findClass Y.1.cls = some m.cls := C.2.2.2.1
  have w1 := hts _ h4
  refine W.putK (v := shv z.2.1 v) C.1 C.2.1 (f := f) (own := Y.1.cls) (ref := (T k).1) ⟨hown, w1, ⟨_, _, _, hi⟩, hst⟩ (by rw [q2]; exact h6) q1 q3 (by rw [hsl]; exact k2_hasslot (q4 k h2)) rfl rfl hd fun H' e1 e2 e3 => ?_
  exact kk p e s m args below meth c d0 H' _ ls C hd0 hL (hr.put (hr.1.put h1 h2 hap hsl.symm q2 q3 q4 hl e1 e3) e2 e3)
theorem V_putN {a index ci k : Nat} {ty : FieldType} {fs : List Value} {v : Value} (hd : decode Y.2.1 pc = .ok (.putfield index, 3)) (hw : ZFN Y.1.cls index ci k) (ht : ZT ci k ty false) (he : h a = some (.inl (ci, fs))) (hl : k < fs.length) (hn : narrow ty v = v) (hf : fits ty v = true) (kk : V z Y R Q (pc + 3) L st (hset h a (.inl (ci, fs.set k v))) sz kc nc) : V z Y R Q pc L (v :: .ref a :: st) h sz kc nc := by
  intro p e s m args below meth c d0 H locs ls C hd0 hL hr
  obtain ⟨C', T, N, host, h1, h2, h3, h4⟩ := hw
  obtain ⟨C'', T', N', ty0, g1, g2, g3, g4, g5⟩ := ht
  obtain ⟨rfl, rfl, rfl⟩ : C' = C'' ∧ T = T' ∧ N = N' := by
    have e0 := Option.some.inj (h1.symm.trans g1)
    exact ⟨congrArg (fun q => q.1) e0, congrArg (fun q => q.2.1) e0, congrArg (fun q => q.2.2) e0⟩
  have hts := dr_words C.2.2.2.2.1 d0
  have hK : va_K z.2.2.1 vwCl (zty z) (s.setDrawn d0) := C.2.2.2.2.2.2.2.2.1
  have hap := va_apart (own := Y.1.cls) hts h3 ty0 g2 g3 hK h1
  obtain ⟨r, b1, cell, q1, q2, q3, q4⟩ := hr.1 a _ he
  have hr' : r = (C', T, N) := Option.some.inj (b1.symm.trans h1)
  subst hr'
  obtain ⟨hS, hfc, kC, hkC, hkind⟩ := hK.1 ci _ h1
  obtain ⟨cf, kf, fi, f, hi, hsl⟩ := hS k h2
  have hlay := hts _ (h3 _ (u_in_lay h2))
  unfold u_lay at hlay
  rw [if_neg (by rw [g5]; decide)] at hlay
  have hst := (u_facts hfc hkC (u_lays hts h3 h2) hi).1
  have h6 := u_store hfc hkC hkind hlay hi g4 (shv_nar (b := z.2.1) hn) (shv_fit (b := z.2.1) hf)
  have hown : (s.setDrawn d0).vm.findClass Y.1.cls = some m.cls := C.2.2.2.1
  have w1 := zNw_b (d := d0) (args := args) (C.2.2.2.2.2.2.2.2.2.1.1 _ h4)
  refine va_WputK (v := shv z.2.1 v) C.1 C.2.1 (f := f) (own := Y.1.cls) (ref := (T k).1) hown w1 hi hst (by rw [q2]; exact h6) q1 q3 (by rw [hsl]; exact k2_hasslot (q4 k h2)) rfl rfl hd fun H' e1 e2 e3 => ?_
  exact kk p e s m args below meth c d0 H' _ ls C hd0 hL (hr.put (hr.1.put h1 h2 hap hsl.symm q2 q3 q4 hl e1 e3) e2 e3)
theorem V_putF {a index ci k : Nat} {ty : FieldType} {fs : List Value} {v : Value} (hd : decode Y.2.1 pc = .ok (.putfield index, 3)) (hw : ZF Y.1.cls index ci k) (ht : ZT ci k ty true) (hi0 : Y.1.name = "<init>") (hdc : ∀ C T N, vwCl[ci]? = some (C, T, N) → (T k).1 = Y.1.cls) (he : h a = some (.inl (ci, fs))) (hl : k < fs.length) (hn : narrow ty v = v) (hf : fits ty v = true) (kk : V z Y R Q (pc + 3) L st (hset h a (.inl (ci, fs.set k v))) sz kc nc) : V z Y R Q pc L (v :: .ref a :: st) h sz kc nc := by
  intro p e s m args below meth c d0 H locs ls C hd0 hL hr
  obtain ⟨C', T, N, h1, h2, h3, h4⟩ := hw
  obtain ⟨C'', T', N', ty0, g1, g2, g3, g4, g5⟩ := ht
  obtain ⟨rfl, rfl, rfl⟩ : C' = C'' ∧ T = T' ∧ N = N' := by
    have e0 := Option.some.inj (h1.symm.trans g1)
    exact ⟨congrArg (fun q => q.1) e0, congrArg (fun q => q.2.1) e0, congrArg (fun q => q.2.2) e0⟩
  have hts := dr_words C.2.2.2.2.1 d0
  have hK : va_K z.2.2.1 vwCl (zty z) (s.setDrawn d0) := C.2.2.2.2.2.2.2.2.1
  have hap := va_apart (own := Y.1.cls) hts h3 ty0 g2 g3 hK h1
  obtain ⟨r, b1, cell, q1, q2, q3, q4⟩ := hr.1 a _ he
  have hr' : r = (C', T, N) := Option.some.inj (b1.symm.trans h1)
  subst hr'
  obtain ⟨hS, hfc, kC, hkC, hkind⟩ := hK.1 ci _ h1
  obtain ⟨cf, kf, fi, f, hi, hsl⟩ := hS k h2
  have hlay := hts _ (h3 _ (u_in_lay h2))
  unfold u_lay at hlay
  rw [if_pos g5] at hlay
  have hst := (u_facts hfc hkC (u_lays hts h3 h2) hi).1
  have hown : (s.setDrawn d0).vm.findClass Y.1.cls = some m.cls := C.2.2.2.1
  have hcf : m.cls = cf := by
    obtain ⟨_, _, c', _, _, _, -, -, hf', -, -, -, hown2, -⟩ := Cond.laysFinal_spec hlay
    have e1 : c' = cf := by have := hi.symm.trans hf'; simp at this; exact this.1.symm
    rw [hdc _ _ _ h1] at hown2
    rw [← e1]; exact Option.some.inj (hown.symm.trans hown2)
  have h6 := u_fits hfc hkC hkind (Or.inr hlay) hi g4 (shv_nar (b := z.2.1) hn) (shv_fit (b := z.2.1) hf)
  have w1 := hts _ h4
  refine W.putFinK (v := shv z.2.1 v) C.1 C.2.1 (f := f) (own := Y.1.cls) (ref := (T k).1) hown w1 hi hst hcf (C.2.2.2.2.2.2.2.1.trans hi0) (by rw [q2]; exact h6) q1 q3 (by rw [hsl]; exact k2_hasslot (q4 k h2)) rfl rfl hd fun H' e1 e2 e3 => ?_
  exact kk p e s m args below meth c d0 H' _ ls C hd0 hL (hr.put (hr.1.put h1 h2 hap hsl.symm q2 q3 q4 hl e1 e3) e2 e3)
theorem V_new {index ci N : Nat} {fs : List Value} (hd : decode Y.2.1 pc = .ok (.new index, 3)) (hw : ZN Y.1.cls index ci N fs) (hfs : fs.map (shv z.2.1) = fs) (hk : kc + 1 ≤ R.cells ∧ nc + N ≤ R.slots) (kk : V z Y R Q (pc + 3) L (.ref sz :: st) (hset h sz (.inl (ci, fs))) (sz + 1) (kc + 1) (nc + N)) : V z Y R Q pc L st h sz kc nc := by
  intro p e s m args below meth c d0 H locs ls C hd0 hL hr
  obtain ⟨C', T, ty, h1, h2, h3, h4, h5, h6, h7⟩ := hw
  have hts := dr_words C.2.2.2.2.1 d0
  have hK : va_K z.2.2.1 vwCl (zty z) (s.setDrawn d0) := C.2.2.2.2.2.2.2.2.1
  have hKn := hK.1 ci _ h1
  have hown : (s.setDrawn d0).vm.findClass Y.1.cls = some m.cls := C.2.2.2.1
  have w1 := hts _ h4
  have w2 := hts _ h5
  have w3 := hts _ h6
  refine W.newcK (h := z.2.1 + sz) C.1 C.2.1 hown w1 w2 w3 rfl hd hk.1 hk.2 hKn.2.1 hr.2.1 fun H1 kC hkC e1 e2 o1 => ?_
  refine kk p e s m args below meth c d0 H1 locs ls C hd0 hL (hr.push (hr.1.push hr.2.1 ⟨_, h1, (u_born ty hts h2 hKn hkC e1 h3).to ?_⟩ o1) e2 o1)
  intro j hj
  show _ = vp_V (fs.map (shv z.2.1)) j
  rw [hfs]
  exact h7 j hj
theorem V_newq {n : Int32} {N index : Nat} (hd : decode Y.2.1 pc = .ok (.anewarray index, 3)) (hw : Cond.classLink Y.1.cls index "MoireEncoder$State" ∈ gw) (hn : ¬ n < 0) (hN : n.toNatClampNeg = N) (hb : N * 4 ≤ 536870912) (hk : kc + 1 ≤ R.cells ∧ nc + N ≤ R.slots) (kk : V z Y R Q (pc + 3) L (.ref sz :: st) (hset h sz (.inr (N, .inr (.inr (.inr (.inr (fun _ => none))))))) (sz + 1) (kc + 1) (nc + N)) : V z Y R Q pc L (.int n :: st) h sz kc nc := by
  intro p e s m args below meth c d0 H locs ls C hd0 hL hr
  have hts := dr_words C.2.2.2.2.1 d0
  have hK : va_K z.2.2.1 vwCl (zty z) (s.setDrawn d0) := C.2.2.2.2.2.2.2.2.1
  have hAO : va_AO "MoireEncoder$State" (s.setDrawn d0) := C.2.2.2.2.2.2.2.2.2.2
  subst hN
  have hown : (s.setDrawn d0).vm.findClass Y.1.cls = some m.cls := C.2.2.2.1
  have w1 := hts _ hw
  have w2 := va_AO.use (A := args) hAO
  refine W.anew C.1 C.2.1 hown w1 w2 rfl hd rfl hn hb hk.1 hk.2 fun cA kA comp f1 f2 f3 f4 => ?_
  obtain ⟨kA', comp', k1, k2, k3, k4⟩ := (hK.2 2 (z.2.2.2.2.2, .object "MoireEncoder$State") rfl).2
  have hcA : cA = z.2.2.2.2.2 := Option.some.inj (f1.symm.trans k4)
  subst hcA
  generalize hH1 : H.push ({ cls := z.2.2.2.2.2, slots := Array.replicate n.toNatClampNeg .null, vm := .none } : Cell) = H1
  have z1 : H1.size = H.size + 1 := by rw [← hH1, Array.size_push]
  have e1 : H1[H.size]? = some (arrV z.2.2.2.2.2 n.toNatClampNeg (fun _ => .null)) := by rw [← hH1, Array.getElem?_push_size, ← arrV_new]
  have o1 : ∀ q : Nat, q < H.size → H1[q]? = H[q]? := fun q hq => by rw [← hH1, Array.getElem?_push, if_neg (Nat.ne_of_lt hq)]
  have hs := hr.2.1
  rw [hs] at z1 e1 o1 ⊢
  exact kk p e s m args below meth c d0 H1 locs ls C hd0 hL (hr.push (hr.1.push hs e1 o1) z1 o1)
/-- Object.<init> -/
theorem V_obj {a idx d mc ms : Nat} (hd : decode Y.2.1 pc = .ok (.invokespecial idx, 3)) (hw : Cond.methodLink Y.1.cls idx objectInit ∈ gw) (hst : (st.map fun v => v.category).sum ≤ 8) (kk : V z Y (zroom (d + 1) mc ms) Q (pc + 3) L st h sz kc nc) : V z Y (zroom (d + 1) mc ms) Q pc L (.ref a :: st) h sz kc nc := by
  intro p e s m args below meth c d0 H locs ls C hd0 hL hr
  have hts := dr_words C.2.2.2.2.1 d0
  have hsum : ((st.map (shv z.2.1)).map fun v => v.category).sum = (st.map fun v => v.category).sum := by
    rw [List.map_map]; congr 1; exact List.map_congr_left fun v _ => shv_cat z.2.1 v
  have hown : (s.setDrawn d0).vm.findClass Y.1.cls = some m.cls := C.2.2.2.1
  have w1 := hts _ hw
  have w2 := hts _ gw_oi
  have w3 := hts _ gw_oc
  exact W.objInit C.1 C.2.1 hown w1 w2 w3 rfl (by rw [C.2.2.1, ← hL]; exact hr.2.2.1.1) rfl hd (by show 1 ≤ d + 1; omega) (by
    show 2 * 0 + ((st.map (shv z.2.1)).map fun v => v.category).sum + 12 ≤ 31 * (d + 1)
    rw [hsum]; omega) (kk p e s m args below meth c d0 H locs ls C hd0 hL hr)
/-- a call, run: what comes back -/
theorem zw_call {p : Program} {e : Env} {s : State} {m : MethodId} {args : Array Value} {below : List Frame} {meth : Method} {c : Code} {d0 : Drawn} {H : Heap} {locs : List Loc} {ls : Array Slot} {QQ : State → Prop} {mc ms : Nat} {st0 rest : List Value} {Q' : ZQ} {a : Array Value} (hd0 : s.drawn.sameBut d0 lw_cs)
    (hrun : va_RunD lw_cs p z.1 e R (s.setDrawn d0) m args below meth c H locs kc nc mc ms (F0 m pc ls st0) rest (zq z Q' a) (fun q => z.2.1 ≤ q)) (hlocs : ∀ q ∈ locs, z.2.1 ≤ q.base) (hfr : ∀ q : Nat, q < z.2.1 → H[q]? = s.heap[q]?)
    (kk : ∀ (v : Option Value) (h' : AH) (sz' : Nat) (d1 : Drawn) (H1 : Heap) (locs1 : List Loc), s.drawn.sameBut d1 lw_cs → Q' v h' sz' → hp z h' H1 → H1.size = z.2.1 + sz' → (∀ q ∈ locs1, z.2.1 ≤ q.base) → (∀ q : Nat, q < z.2.1 → H1[q]? = s.heap[q]?) →
      W p z.1 e R (s.setDrawn d1) m args below meth c H1 locs1 (kc + mc) (nc + ms) QQ (F0 m (pc + 3) ls ((v.map (shv z.2.1)).toList ++ rest))) :
    W p z.1 e R (s.setDrawn d0) m args below meth c H locs kc nc QQ (F0 m pc ls st0) := by
  intro T hT X
  obtain ⟨v, st₀, t, T', Lc, d', hd', h0, X', hLc, e1, e2, ⟨w, h', sz', hv, hq, hh, hs, hf⟩, stp⟩ := hrun T hT X
  have hv' : v = w.map (shv z.2.1) := by cases hv; rfl
  subst hv'
  rw [h0] at hf
  obtain ⟨t2, a1, b1⟩ := kk w h' sz' d' T'.heap (locs ++ Lc) (hd0.trans hd') hq (by rw [e1]; exact hh) (by rw [e1]; exact hs) (fun q hq => by
      rcases List.mem_append.mp hq with g | g
      · exact hlocs q g
      · exact hLc q g) (fun q hq => by rw [e1, hf q hq]; exact hfr q hq) T' rfl X'
  exact ⟨t2, stp t2 a1, b1⟩
theorem zp_blind (z : ZG) (as : List Value) (h : AH) (sz : Nat) : FrameBlind (va_Pc (as.map (shv z.2.1)) (fun U => hp z h U.heap ∧ U.heap.size = z.2.1 + sz ∧ ZK z U)) := fun a U g mk q => ⟨q.1, q.2.1, q.2.2.1, ZK.same (u := U) (U := U.calling g mk a) rfl q.2.2.2⟩
theorem zp_pre {z : ZG} {as : List Value} {h : AH} {sz : Nat} {s : State} {d0 : Drawn} {H : Heap} (hh : hp z h H) (hs : H.size = z.2.1 + sz) (hK : ZK z s) : ∀ U : State, U.heap = H → (s.setDrawn d0).WarmedH U.vm → va_Pc (as.map (shv z.2.1)) (fun U => hp z h U.heap ∧ U.heap.size = z.2.1 + sz ∧ ZK z U) (as.map (shv z.2.1)).toArray U := fun U hU hW => ⟨rfl, by rw [hU]; exact hh, by rw [hU]; exact hs, ZK.moved (u := s.setDrawn d0) hW (ZK.same (u := s) rfl hK)⟩
theorem zw_good {Y' : ZM} {n : Nat} (h : ZY Y' n) : GoodIn gw (zws Y') := fun w hw => by
  rcases List.mem_cons.mp hw with rfl | hw
  · exact ⟨h.2.1, (gw_in h.2.1).2⟩
  · exact ⟨hw, (gw_in hw).2⟩
theorem zw_sum (b : Nat) (st : List Value) : ((st.map (shv b)).map fun v => v.category).sum = (st.map fun v => v.category).sum := by
  rw [List.map_map]; congr 1; exact List.map_congr_left fun v _ => shv_cat b v
/-- calls of the own class, and of others' members that are open: by an object -/
theorem V_callV {Y' : ZM} {stk As : List Value} {a index ci n d mc ms mc' ms' : Nat} {fs : List Value} {Q' : ZQ} (hd : decode Y.2.1 pc = .ok (.invokevirtual index, 3)) (hl : Cond.methodLink Y.1.cls index Y'.1 ∈ gw) (hg : ZYv Y' n) (hM : M z Y' d mc' ms' (.ref a :: As) h sz Q') (he : h a = some (.inl (ci, fs))) (hci : (vwCl[ci]?).map (fun q => q.1) = some Y'.1.cls) (hst : stk = As.reverse ++ .ref a :: st) (hn : As.length = n) (hsum : (st.map fun v => v.category).sum ≤ 8) (hk : kc + mc' ≤ mc ∧ nc + ms' ≤ ms)
    (kk : ∀ (v : Option Value) (h' : AH) (sz' : Nat), Q' v h' sz' → V z Y (zroom (d + 1) mc ms) Q (pc + 3) L (v.toList ++ st) h' sz' (kc + mc') (nc + ms')) : V z Y (zroom (d + 1) mc ms) Q pc L stk h sz kc nc := by
  subst hst
  intro p e s m args below meth c d0 H locs ls C hd0 hL hr
  have hts := dr_words C.2.2.2.2.1 d0
  have hK : va_K z.2.2.1 vwCl (zty z) (s.setDrawn d0) := C.2.2.2.2.2.2.2.2.1
  obtain ⟨q, hq, hqe⟩ : ∃ q, vwCl[ci]? = some q ∧ q.1 = Y'.1.cls := by
    cases hc : vwCl[ci]? with
    | none => rw [hc] at hci; cases hci
    | some q => rw [hc] at hci; exact ⟨q, rfl, Option.some.inj hci⟩
  obtain ⟨q', g0, cell, g1, g2, g3, -⟩ := hr.1 a _ he
  have hrecv : ∃ cellB : Cell, H[z.2.1 + a]? = some cellB ∧ cellB.vm.isStatics = false ∧ (s.setDrawn d0).vm.findClass Y'.1.cls = some cellB.cls := ⟨cell, g1, by rw [g3]; rfl, by rw [g2, ← hqe]; exact (hK.1 ci q hq).2.1⟩
  have w1 := hts _ hg.1.1
  have w2 := hts _ hl
  have w4 := hts _ hg.2.1
  have w5 := hts _ hg.2.2
  have cb : CallB (zroom (d + 1) mc ms) (s.setDrawn d0) args Y.1.cls index Y'.1 Y'.2.1 Y'.2.2.1 Y'.2.2.2 (zws Y') (zroom d mc' ms') mc' ms' n := callB_of n hts (zw_good hg.1) rfl rfl rfl w1 w2 hg.1.2.2.1 ⟨Nat.le_refl _, by show 8 + (Y'.2.2.1 + 11) + 31 * d ≤ 31 * (d + 1); have := hg.1.2.2.2; omega⟩
  have hown : (s.setDrawn d0).vm.findClass Y.1.cls = some m.cls := C.2.2.2.1
  have hrun := va_runV_D (cs := lw_cs) (p := p) (l := z.1) (e := e) (R := zroom (d + 1) mc ms) (s := s.setDrawn d0) (H := H) (below := below) (meth := meth) (locs := locs) (cells := kc) (slots := nc) (C := Y'.1.cls) (b := z.2.1 + a) (As := As.map (shv z.2.1)) (rest := st.map (shv z.2.1)) (g := F0 m pc ls ((As.reverse ++ .ref a :: st).map (shv z.2.1))) ⟨C.1, C.2.1, C.2.2.1, hown, hts⟩ hM ⟨cb, w4, w5⟩ ⟨zp_blind z (.ref a :: As) h sz, hrecv, zp_pre (as := .ref a :: As) hr.1 hr.2.1 C.2.2.2.2.2.2.2.2⟩ rfl (by rw [List.length_map]; exact hn) (by rw [← hL]; exact hr.2.2.1.1) (by show List.map (shv z.2.1) _ = _; rw [List.map_append, List.map_reverse]; rfl) (by show 2 * 0 + _ ≤ 8; rw [zw_sum]; omega) hd hk
  refine zw_call (z := z) (R := zroom (d + 1) mc ms) hd0 hrun hr.2.2.2.1 hr.2.2.2.2 fun v h' sz' d1 H1 locs1 b1 b2 b3 b4 b5 b6 => ?_
  have := kk v h' sz' b2 p e s m args below meth c d1 H1 locs1 ls C b1 hL ⟨b3, b4, hr.2.2.1, b5, b6⟩
  rw [List.map_append] at this
  cases v <;> exact this
/-- static calls -/
theorem V_callS {Y' : ZM} {stk As : List Value} {index n d mc ms mc' ms' : Nat} {Q' : ZQ} (hd : decode Y.2.1 pc = .ok (.invokestatic index, 3)) (hl : Cond.methodLink Y.1.cls index Y'.1 ∈ gw) (hg : ZYs Y' n) (hM : M z Y' d mc' ms' As h sz Q') (hst : stk = As.reverse ++ st) (hn : As.length = n) (hsum : (st.map fun v => v.category).sum ≤ 8) (hk : kc + mc' ≤ mc ∧ nc + ms' ≤ ms)
    (kk : ∀ (v : Option Value) (h' : AH) (sz' : Nat), Q' v h' sz' → V z Y (zroom (d + 1) mc ms) Q (pc + 3) L (v.toList ++ st) h' sz' (kc + mc') (nc + ms')) : V z Y (zroom (d + 1) mc ms) Q pc L stk h sz kc nc := by
  subst hst
  intro p e s m args below meth c d0 H locs ls C hd0 hL hr
  have hts := dr_words C.2.2.2.2.1 d0
  have w1 := hts _ hg.1.1
  have w2 := hts _ hl
  have w4 := hts _ hg.2
  have cb : CallB (zroom (d + 1) mc ms) (s.setDrawn d0) args Y.1.cls index Y'.1 Y'.2.1 Y'.2.2.1 Y'.2.2.2 (zws Y') (zroom d mc' ms') mc' ms' n := callB_of n hts (zw_good hg.1) rfl rfl rfl w1 w2 hg.1.2.2.1 ⟨Nat.le_refl _, by show 8 + (Y'.2.2.1 + 11) + 31 * d ≤ 31 * (d + 1); have := hg.1.2.2.2; omega⟩
  have hown : (s.setDrawn d0).vm.findClass Y.1.cls = some m.cls := C.2.2.2.1
  have hrun := va_runS_D (cs := lw_cs) (p := p) (l := z.1) (e := e) (R := zroom (d + 1) mc ms) (s := s.setDrawn d0) (H := H) (below := below) (meth := meth) (locs := locs) (cells := kc) (slots := nc) (As := As.map (shv z.2.1)) (rest := st.map (shv z.2.1)) (g := F0 m pc ls ((As.reverse ++ st).map (shv z.2.1))) ⟨C.1, C.2.1, C.2.2.1, hown, hts⟩ hM ⟨cb, w4⟩ ⟨zp_blind z As h sz, zp_pre (as := As) hr.1 hr.2.1 C.2.2.2.2.2.2.2.2⟩ rfl (by rw [List.length_map]; exact hn) (by rw [← hL]; exact hr.2.2.1.1) (by show List.map (shv z.2.1) _ = _; rw [List.map_append, List.map_reverse]) (by show 2 * 0 + _ ≤ 8; rw [zw_sum]; omega) hd hk
  refine zw_call (z := z) (R := zroom (d + 1) mc ms) hd0 hrun hr.2.2.2.1 hr.2.2.2.2 fun v h' sz' d1 H1 locs1 b1 b2 b3 b4 b5 b6 => ?_
  have := kk v h' sz' b2 p e s m args below meth c d1 H1 locs1 ls C b1 hL ⟨b3, b4, hr.2.2.1, b5, b6⟩
  rw [List.map_append] at this
  cases v <;> exact this
end Zrules2
end
section
section Zrules3
variable {z : ZG} {Y : ZM} {R : Room} {Q : ZQ} {pc : Nat} {L : AL} {st : List Value} {h : AH} {sz kc nc : Nat}
/-- constructors: of a class that lets them be called, of a nest mate -/
theorem V_callI {Y' : ZM} {stk As : List Value} {a index n d mc ms mc' ms' : Nat} {Q' : ZQ} (hd : decode Y.2.1 pc = .ok (.invokespecial index, 3)) (hl : Cond.methodLink Y.1.cls index Y'.1 ∈ gw) (hg : ZYi Y' n) (hM : M z Y' d mc' ms' (.ref a :: As) h sz Q') (hst : stk = As.reverse ++ .ref a :: st) (hn : As.length = n) (hsum : (st.map fun v => v.category).sum ≤ 8) (hk : kc + mc' ≤ mc ∧ nc + ms' ≤ ms)
    (kk : ∀ (v : Option Value) (h' : AH) (sz' : Nat), Q' v h' sz' → V z Y (zroom (d + 1) mc ms) Q (pc + 3) L (v.toList ++ st) h' sz' (kc + mc') (nc + ms')) : V z Y (zroom (d + 1) mc ms) Q pc L stk h sz kc nc := by
  subst hst
  intro p e s m args below meth c d0 H locs ls C hd0 hL hr
  have hts := dr_words C.2.2.2.2.1 d0
  have hown : (s.setDrawn d0).vm.findClass Y.1.cls = some m.cls := C.2.2.2.1
  obtain ⟨y, bb, ml, rt⟩ := Y'
  obtain ⟨hg1, hg2, hg3, hg4⟩ := hg
  have hrt : rt = none := hg4
  subst hrt
  have w1 := hts _ hg1.1
  have w2 := hts _ hl
  have w4 := hts _ hg2
  have cb : CallB (zroom (d + 1) mc ms) (s.setDrawn d0) args Y.1.cls index y bb ml none (zws (y, bb, ml, none)) (zroom d mc' ms') mc' ms' n := callB_of n hts (zw_good hg1) rfl rfl rfl w1 w2 hg1.2.2.1 ⟨Nat.le_refl _, by show 8 + (ml + 11) + 31 * d ≤ 31 * (d + 1); have : ml ≤ 12 := hg1.2.2.2; omega⟩
  have hrun := va_runI_D (cs := lw_cs) (p := p) (l := z.1) (e := e) (R := zroom (d + 1) mc ms) (s := s.setDrawn d0) (H := H) (below := below) (meth := meth) (locs := locs) (cells := kc) (slots := nc) (b := z.2.1 + a) (As := As.map (shv z.2.1)) (rest := st.map (shv z.2.1)) (g := F0 m pc ls ((As.reverse ++ .ref a :: st).map (shv z.2.1))) ⟨C.1, C.2.1, C.2.2.1, hown, hts⟩ hM ⟨cb, hg3, w4⟩ ⟨zp_blind z (.ref a :: As) h sz, zp_pre (as := .ref a :: As) hr.1 hr.2.1 C.2.2.2.2.2.2.2.2⟩ rfl (by rw [List.length_map]; exact hn) (by rw [← hL]; exact hr.2.2.1.1) (by show List.map (shv z.2.1) _ = _; rw [List.map_append, List.map_reverse]; rfl) (by show 2 * 0 + _ ≤ 8; rw [zw_sum]; omega) hd hk
  refine zw_call (z := z) (R := zroom (d + 1) mc ms) hd0 hrun hr.2.2.2.1 hr.2.2.2.2 fun v h' sz' d1 H1 locs1 b1 b2 b3 b4 b5 b6 => ?_
  have := kk v h' sz' b2 p e s m args below meth c d1 H1 locs1 ls C b1 hL ⟨b3, b4, hr.2.2.1, b5, b6⟩
  rw [List.map_append] at this
  cases v <;> exact this
theorem zNm_b {own host : String} {index : Nat} {y : MethodName} {s : State} {d : Drawn} (h : va_Nw (.methodLinkNest own index y host) s) : va_Nw (.methodLinkNest own index y host) (s.setDrawn d) := va_Nw.same rfl (show s.vm = (s.setDrawn d).vm from rfl) h
theorem V_callIN {Y' : ZM} {stk As : List Value} {host : String} {a index n d mc ms mc' ms' : Nat} {Q' : ZQ} (hd : decode Y.2.1 pc = .ok (.invokespecial index, 3)) (hl : (Y.1.cls, index, Y'.1, host) ∈ zNm) (hg : ZYi Y' n) (hM : M z Y' d mc' ms' (.ref a :: As) h sz Q') (hst : stk = As.reverse ++ .ref a :: st) (hn : As.length = n) (hsum : (st.map fun v => v.category).sum ≤ 8) (hk : kc + mc' ≤ mc ∧ nc + ms' ≤ ms)
    (kk : ∀ (v : Option Value) (h' : AH) (sz' : Nat), Q' v h' sz' → V z Y (zroom (d + 1) mc ms) Q (pc + 3) L (v.toList ++ st) h' sz' (kc + mc') (nc + ms')) : V z Y (zroom (d + 1) mc ms) Q pc L stk h sz kc nc := by
  subst hst
  intro p e s m args below meth c d0 H locs ls C hd0 hL hr
  have hts := dr_words C.2.2.2.2.1 d0
  have hown : (s.setDrawn d0).vm.findClass Y.1.cls = some m.cls := C.2.2.2.1
  obtain ⟨y, bb, ml, rt⟩ := Y'
  obtain ⟨hg1, hg2, hg3, hg4⟩ := hg
  have hrt : rt = none := hg4
  subst hrt
  have w1 := hts _ hg1.1
  have w2 := zNm_b (d := d0) (C.2.2.2.2.2.2.2.2.2.1.2 _ hl)
  have w4 := hts _ hg2
  have cb : va_CN (zroom (d + 1) mc ms) (s.setDrawn d0) args Y.1.cls index y host bb ml none (zws (y, bb, ml, none)) (zroom d mc' ms') mc' ms' n := va_cnB n hts (zw_good hg1) rfl rfl rfl w2 w1 hg1.2.2.1 ⟨Nat.le_refl _, by show 8 + (ml + 11) + 31 * d ≤ 31 * (d + 1); have : ml ≤ 12 := hg1.2.2.2; omega⟩
  have hrun := va_runIN_D (cs := lw_cs) (p := p) (l := z.1) (e := e) (R := zroom (d + 1) mc ms) (s := s.setDrawn d0) (H := H) (below := below) (meth := meth) (locs := locs) (cells := kc) (slots := nc) (b := z.2.1 + a) (As := As.map (shv z.2.1)) (rest := st.map (shv z.2.1)) (g := F0 m pc ls ((As.reverse ++ .ref a :: st).map (shv z.2.1))) ⟨C.1, C.2.1, C.2.2.1, hown, hts⟩ hM ⟨cb, hg3, w4⟩ ⟨zp_blind z (.ref a :: As) h sz, zp_pre (as := .ref a :: As) hr.1 hr.2.1 C.2.2.2.2.2.2.2.2⟩ rfl (by rw [List.length_map]; exact hn) (by rw [← hL]; exact hr.2.2.1.1) (by show List.map (shv z.2.1) _ = _; rw [List.map_append, List.map_reverse]; rfl) (by show 2 * 0 + _ ≤ 8; rw [zw_sum]; omega) hd hk
  refine zw_call (z := z) (R := zroom (d + 1) mc ms) hd0 hrun hr.2.2.2.1 hr.2.2.2.2 fun v h' sz' d1 H1 locs1 b1 b2 b3 b4 b5 b6 => ?_
  have := kk v h' sz' b2 p e s m args below meth c d1 H1 locs1 ls C b1 hL ⟨b3, b4, hr.2.2.1, b5, b6⟩
  rw [List.map_append] at this
  cases v <;> exact this
theorem V_callSN {Y' : ZM} {stk As : List Value} {host : String} {index n d mc ms mc' ms' : Nat} {Q' : ZQ} (hd : decode Y.2.1 pc = .ok (.invokestatic index, 3)) (hl : (Y.1.cls, index, Y'.1, host) ∈ zNm) (hg : ZYs Y' n) (hM : M z Y' d mc' ms' As h sz Q') (hst : stk = As.reverse ++ st) (hn : As.length = n) (hsum : (st.map fun v => v.category).sum ≤ 8) (hk : kc + mc' ≤ mc ∧ nc + ms' ≤ ms)
    (kk : ∀ (v : Option Value) (h' : AH) (sz' : Nat), Q' v h' sz' → V z Y (zroom (d + 1) mc ms) Q (pc + 3) L (v.toList ++ st) h' sz' (kc + mc') (nc + ms')) : V z Y (zroom (d + 1) mc ms) Q pc L stk h sz kc nc := by
  subst hst
  intro p e s m args below meth c d0 H locs ls C hd0 hL hr
  have hts := dr_words C.2.2.2.2.1 d0
  have hown : (s.setDrawn d0).vm.findClass Y.1.cls = some m.cls := C.2.2.2.1
  have w1 := hts _ hg.1.1
  have w2 := zNm_b (d := d0) (C.2.2.2.2.2.2.2.2.2.1.2 _ hl)
  have w4 := hts _ hg.2
  have cb : va_CN (zroom (d + 1) mc ms) (s.setDrawn d0) args Y.1.cls index Y'.1 host Y'.2.1 Y'.2.2.1 Y'.2.2.2 (zws Y') (zroom d mc' ms') mc' ms' n := va_cnB n hts (zw_good hg.1) rfl rfl rfl w2 w1 hg.1.2.2.1 ⟨Nat.le_refl _, by show 8 + (Y'.2.2.1 + 11) + 31 * d ≤ 31 * (d + 1); have := hg.1.2.2.2; omega⟩
  have hrun := va_runSN_D (cs := lw_cs) (p := p) (l := z.1) (e := e) (R := zroom (d + 1) mc ms) (s := s.setDrawn d0) (H := H) (below := below) (meth := meth) (locs := locs) (cells := kc) (slots := nc) (As := As.map (shv z.2.1)) (rest := st.map (shv z.2.1)) (g := F0 m pc ls ((As.reverse ++ st).map (shv z.2.1))) ⟨C.1, C.2.1, C.2.2.1, hown, hts⟩ hM ⟨cb, w4, trivial⟩ ⟨zp_blind z As h sz, zp_pre (as := As) hr.1 hr.2.1 C.2.2.2.2.2.2.2.2⟩ rfl (by rw [List.length_map]; exact hn) (by rw [← hL]; exact hr.2.2.1.1) (by show List.map (shv z.2.1) _ = _; rw [List.map_append, List.map_reverse]) (by show 2 * 0 + _ ≤ 8; rw [zw_sum]; omega) hd hk
  refine zw_call (z := z) (R := zroom (d + 1) mc ms) hd0 hrun hr.2.2.2.1 hr.2.2.2.2 fun v h' sz' d1 H1 locs1 b1 b2 b3 b4 b5 b6 => ?_
  have := kk v h' sz' b2 p e s m args below meth c d1 H1 locs1 ls C b1 hL ⟨b3, b4, hr.2.2.1, b5, b6⟩
  rw [List.map_append] at this
  cases v <;> exact this
end Zrules3
theorem M.mono {z : ZG} {Y : ZM} {d mc ms : Nat} {as : List Value} {h : AH} {sz : Nat} {Q Q2 : ZQ} (hQ : ∀ v h' sz', Q v h' sz' → Q2 v h' sz') (k : M z Y d mc ms as h sz Q) : M z Y d mc ms as h sz Q2 := by
  intro p e ha hc hk s m args below hf happ hP hK
  obtain ⟨n, o, h1, h2, h3, dd, h4, ⟨v, h5, sz5, g1, g2, g3⟩, h6⟩ := k p e ha hc hk s m args below hf happ hP hK
  exact ⟨n, o, h1, h2, h3, dd, h4, ⟨v, h5, sz5, g1, hQ _ _ _ g2, g3⟩, h6⟩
theorem V_mono {z : ZG} {Y : ZM} {R : Room} {Q Q2 : ZQ} {pc : Nat} {L : AL} {st : List Value} {h : AH} {sz kc nc : Nat} (hQ : ∀ v h' sz', Q v h' sz' → Q2 v h' sz') (k : V z Y R Q pc L st h sz kc nc) : V z Y R Q2 pc L st h sz kc nc := by
  intro p e s m args below meth c d0 H locs ls C hd0 hL hr T hT X
  obtain ⟨t, h1, dd, h2, o, h3, h4, ⟨v, h5, sz5, g1, g2, g3⟩, h6⟩ := k p e s m args below meth c d0 H locs ls C hd0 hL hr T hT X
  exact ⟨t, h1, dd, h2, o, h3, h4, ⟨v, h5, sz5, g1, hQ _ _ _ g2, g3⟩, h6⟩
/-- the same of a member of a class that the machine has entries for, where it has none for this one -/
theorem MetD_ofWF {cs : List Choice} {l : Launch} {y : MethodName} {ws ws' : List Cond} {rm : Room} {Pc : Array Value → State → Prop} {Qc : Array Value → State → Outcome → State → Prop} {mc ms : Nat} {free : Addr → Prop} {cc : ByteArray} {maxL : Nat} {ret : Option FieldType}
    (hy : plainFor y = true) (hw : ws = Cond.code y cc maxL ret :: ws')
    (body : ∀ p e s m args below meth c s₁, BodyLoose p l y (headSpec ws rm) cc maxL ret e s m args below meth c s₁ → c.maxLocals = maxL → Pc args s → s.drawn.sameBut s.drawn cs →
      W p l e (headSpec ws rm).room (s.setDrawn s.drawn) m args below meth c s.heap [] 0 0 (MQD cs below Qc args s mc ms free) (entryFrame m args maxL)) : MetD cs l y ws rm Pc Qc mc ms free := by
  refine MetFree.of_bodySF (code := cc) (maxLocals := maxL) (ret := ret) hy ?_ ?_
  · intro args s m h hn
    obtain ⟨meth, c, h1, h2, h3, h4, h5, h6, -, -⟩ := Cond.code_spec hn (atoms_spec (ws := ws) h _ (by rw [hw]; exact List.mem_cons_self))
    exact ⟨meth, c, h1, h2, h3, h4, h5, h6⟩
  · intro p e s m args below meth c s₁ B hml hP _
    have hh0 : s₁.heap = s.heap := by rw [B.state]; rfl
    have X0 : Stand p l e (headSpec ws rm).room (s.setDrawn s.drawn) m args below meth c s₁ [] 0 0 := Stand.of_body B
    obtain ⟨t, a1, d, hd, o, b1, b2, b3, b4⟩ := body p e s m args below meth c s₁ B hml hP (Drawn.sameBut.refl _ _) s₁ hh0 X0
    exact ⟨t, o, a1, b1, b2, d, hd, b3, b4⟩
theorem M.ofF {z : ZG} {Y : ZM} {d mc ms : Nat} {as : List Value} {h : AH} {sz : Nat} {Q : ZQ} (hy : plainFor Y.1 = true) (hn : (zargs as).length ≤ Y.2.2.1) (k : V z Y (zroom d mc ms) Q 0 (zent as Y.2.2.1) [] h sz 0 0) : M z Y d mc ms as h sz Q := by
  refine MetD_ofWF (cc := Y.2.1) (maxL := Y.2.2.1) (ret := Y.2.2.2) hy rfl ?_
  intro p e s m args below meth c s₁ B hml hv hd0
  obtain ⟨rfl, hP, hsz, hK⟩ := hv
  have hts := atoms_spec (ws := zws Y) B.pre
  rw [lg_entry_eq]
  have hlen : (lg_sl (as.map (shv z.2.1))).length ≤ Y.2.2.1 := by rw [← zargs_len]; exact hn
  have hl := lv_entry (as.map (shv z.2.1)) hlen
  refine k p e s m _ below meth c s.drawn s.heap [] _ ⟨B.exec, B.bytes, hml, findClass_of_methodNamed B.named, fun w hw => hts w (List.mem_cons_of_mem _ hw), B.returns, B.notSynchronized, (name_of_methodNamed B.named B.method).1, hK⟩ hd0 (zent_len hn) ⟨hP, hsz, ?_, fun q hq => absurd hq List.not_mem_nil, fun _ _ => rfl⟩
  rw [zent_len hn, zent, zls_ent]
  exact hl
end
section
/-! INTS AS WHOLE NUMBERS: I i, J i; the rules of V over them -/
def I (i : Int) : Int32 := Int32.ofInt i
def J (i : Int) : Int64 := Int64.ofInt i
theorem I_add (a b : Int) : I a + I b = I (a + b) := (Int32.ofInt_add a b).symm
theorem I_sub (a b : Int) : I a - I b = I (a - b) := (Int32.ofInt_sub a b).symm
theorem I_mul (a b : Int) : I a * I b = I (a * b) := (Int32.ofInt_mul a b).symm
theorem J_add' (a b : Int) : J a + J b = J (a + b) := (Int64.ofInt_add a b).symm
theorem J_sub' (a b : Int) : J a - J b = J (a - b) := (Int64.ofInt_sub a b).symm
theorem I_toInt {a : Int} (h : -2147483648 ≤ a ∧ a < 2147483648) : (I a).toInt = a := Int32.toInt_ofInt_of_le (by omega) (by omega)
theorem J_toInt {a : Int} (h : -9223372036854775808 ≤ a ∧ a < 9223372036854775808) : (J a).toInt = a := Int64.toInt_ofInt_of_le (by omega) (by omega)
theorem I_lt {a b : Int} (ha : -2147483648 ≤ a ∧ a < 2147483648) (hb : -2147483648 ≤ b ∧ b < 2147483648) : I a < I b ↔ a < b := by rw [Int32.lt_iff_toInt_lt, I_toInt ha, I_toInt hb]
theorem I_le {a b : Int} (ha : -2147483648 ≤ a ∧ a < 2147483648) (hb : -2147483648 ≤ b ∧ b < 2147483648) : I a ≤ I b ↔ a ≤ b := by rw [Int32.le_iff_toInt_le, I_toInt ha, I_toInt hb]
theorem I_eq {a b : Int} (ha : -2147483648 ≤ a ∧ a < 2147483648) (hb : -2147483648 ≤ b ∧ b < 2147483648) : I a = I b ↔ a = b := by rw [← Int32.toInt_inj, I_toInt ha, I_toInt hb]
theorem J_lt' {a b : Int} (ha : -9223372036854775808 ≤ a ∧ a < 9223372036854775808) (hb : -9223372036854775808 ≤ b ∧ b < 9223372036854775808) : J a < J b ↔ a < b := by rw [Int64.lt_iff_toInt_lt, J_toInt ha, J_toInt hb]
theorem J_eq' {a b : Int} (ha : -9223372036854775808 ≤ a ∧ a < 9223372036854775808) (hb : -9223372036854775808 ≤ b ∧ b < 9223372036854775808) : J a = J b ↔ a = b := by rw [← Int64.toInt_inj, J_toInt ha, J_toInt hb]
theorem I_long {a : Int} (h : -2147483648 ≤ a ∧ a < 2147483648) : (I a).toInt64 = J a := by
  rw [← Int64.toInt_inj, Int32.toInt_toInt64, I_toInt h, J_toInt (by omega)]
theorem I_of (x : Int32) : ∃ a : Int, (-2147483648 ≤ a ∧ a < 2147483648) ∧ x = I a := ⟨x.toInt, ⟨x.le_toInt, x.toInt_lt⟩, (Int32.ofInt_toInt x).symm⟩
theorem J_of (x : Int64) : ∃ a : Int, (-9223372036854775808 ≤ a ∧ a < 9223372036854775808) ∧ x = J a := ⟨x.toInt, ⟨x.le_toInt, x.toInt_lt⟩, (Int64.ofInt_toInt x).symm⟩
theorem I_nat (n : Nat) : Int32.ofNat n = I n := (Int32.ofInt_eq_ofNat).symm
theorem I_clamp {a : Int} (h : -2147483648 ≤ a ∧ a < 2147483648) : (I a).toNatClampNeg = a.toNat := Int32.toNatClampNeg_ofInt_of_le (by omega) (by omega)
theorem I_in {a : Int} {n : Nat} (h : 0 ≤ a ∧ a < n) (hn : n < 2147483648) : vp_in (I a) n := by
  have h1 : ¬ I a < 0 := fun q => by have := (I_lt (a := a) (b := 0) (by omega) (by omega)).mp q; omega
  have h2 : (I a).toNatClampNeg = a.toNat := I_clamp (by omega)
  intro q
  rcases q with q | q
  · exact h1 q
  · rw [h2] at q; omega
theorem I_div {a b : Int} (ha : 0 ≤ a ∧ a < 2147483648) (hb : 0 < b ∧ b < 2147483648) : I a / I b = I (a / b) := by
  have h := pk_div (a := a.toNat) (d := b.toNat) (by omega) (by omega) (by omega)
  have e1 : nI a.toNat = I a := by rw [nI, I_nat]; congr 1; omega
  have e2 : nI b.toNat = I b := by rw [nI, I_nat]; congr 1; omega
  rw [e1, e2] at h
  rw [h, nI, I_nat]
  congr 1
  rw [Int.natCast_ediv]
  rw [Int.toNat_of_nonneg ha.1, Int.toNat_of_nonneg (by omega)]
theorem I_rem {a b : Int} (ha : 0 ≤ a ∧ a < 2147483648) (hb : 0 < b ∧ b < 2147483648) : I a - I a / I b * I b = I (a % b) := by
  rw [I_div ha hb, I_mul, I_sub]
  congr 1
  have := Int.emod_def a b
  rw [this, Int.mul_comm]
theorem I_8 {n : Int} (h : -128 ≤ n ∧ n ≤ 127) : (Int8.ofInt n).toInt32 = I n := Int8.toInt32_ofInt h.1 h.2
theorem I_16 {n : Int} (h : -32768 ≤ n ∧ n ≤ 32767) : (Int16.ofInt n).toInt32 = I n := Int16.toInt32_ofInt h.1 h.2
theorem I_bool (c : Prop) [Decidable c] : narrow .boolean (.int (I (if c then 1 else 0))) = .int (I (if c then 1 else 0)) := by split <;> rfl
section Jrules
variable {z : ZG} {Y : ZM} {R : Room} {Q : ZQ} {pc : Nat} {L : AL} {st : List Value} {h : AH} {sz kc nc : Nat}
theorem J_iadd {a b : Int} (hd : decode Y.2.1 pc = .ok (.iadd, 1)) (kk : V z Y R Q (pc + 1) L (.int (I (a + b)) :: st) h sz kc nc) : V z Y R Q pc L (.int (I b) :: .int (I a) :: st) h sz kc nc := V_iadd hd (by rw [I_add]; exact kk)
theorem J_isub {a b : Int} (hd : decode Y.2.1 pc = .ok (.isub, 1)) (kk : V z Y R Q (pc + 1) L (.int (I (a - b)) :: st) h sz kc nc) : V z Y R Q pc L (.int (I b) :: .int (I a) :: st) h sz kc nc := V_isub hd (by rw [I_sub]; exact kk)
theorem J_imul {a b : Int} (hd : decode Y.2.1 pc = .ok (.imul, 1)) (kk : V z Y R Q (pc + 1) L (.int (I (a * b)) :: st) h sz kc nc) : V z Y R Q pc L (.int (I b) :: .int (I a) :: st) h sz kc nc := V_imul hd (by rw [I_mul]; exact kk)
theorem J_idiv {a b : Int} (hd : decode Y.2.1 pc = .ok (.idiv, 1)) (ha : 0 ≤ a ∧ a < 2147483648) (hb : 0 < b ∧ b < 2147483648) (kk : V z Y R Q (pc + 1) L (.int (I (a / b)) :: st) h sz kc nc) : V z Y R Q pc L (.int (I b) :: .int (I a) :: st) h sz kc nc := V_idiv hd (fun q => by have := (I_eq (a := b) (b := 0) (by omega) (by omega)).mp q; omega) (by rw [I_div ha hb]; exact kk)
theorem J_irem {a b : Int} (hd : decode Y.2.1 pc = .ok (.irem, 1)) (ha : 0 ≤ a ∧ a < 2147483648) (hb : 0 < b ∧ b < 2147483648) (kk : V z Y R Q (pc + 1) L (.int (I (a % b)) :: st) h sz kc nc) : V z Y R Q pc L (.int (I b) :: .int (I a) :: st) h sz kc nc := V_irem hd (fun q => by have := (I_eq (a := b) (b := 0) (by omega) (by omega)).mp q; omega) (by rw [I_rem ha hb]; exact kk)
theorem J_ladd {a b : Int} (hd : decode Y.2.1 pc = .ok (.ladd, 1)) (kk : V z Y R Q (pc + 1) L (.long (J (a + b)) :: st) h sz kc nc) : V z Y R Q pc L (.long (J b) :: .long (J a) :: st) h sz kc nc := V_ladd hd (by rw [J_add']; exact kk)
theorem J_lsub {a b : Int} (hd : decode Y.2.1 pc = .ok (.lsub, 1)) (kk : V z Y R Q (pc + 1) L (.long (J (a - b)) :: st) h sz kc nc) : V z Y R Q pc L (.long (J b) :: .long (J a) :: st) h sz kc nc := V_lsub hd (by rw [J_sub']; exact kk)
theorem J_i2l {a : Int} (hd : decode Y.2.1 pc = .ok (.i2l, 1)) (ha : -2147483648 ≤ a ∧ a < 2147483648) (kk : V z Y R Q (pc + 1) L (.long (J a) :: st) h sz kc nc) : V z Y R Q pc L (.int (I a) :: st) h sz kc nc := V_i2l hd (by rw [I_long ha]; exact kk)
theorem J_iconst {n : Int} (hd : decode Y.2.1 pc = .ok (.iconst n, 1)) (kk : V z Y R Q (pc + 1) L (.int (I n) :: st) h sz kc nc) : V z Y R Q pc L st h sz kc nc := V_iconst hd kk
theorem J_bipush {n : Int} (hd : decode Y.2.1 pc = .ok (.bipush n, 2)) (hn : -128 ≤ n ∧ n ≤ 127) (kk : V z Y R Q (pc + 2) L (.int (I n) :: st) h sz kc nc) : V z Y R Q pc L st h sz kc nc := V_bipush hd (by rw [I_8 hn]; exact kk)
theorem J_sipush {n : Int} (hd : decode Y.2.1 pc = .ok (.sipush n, 3)) (hn : -32768 ≤ n ∧ n ≤ 32767) (kk : V z Y R Q (pc + 3) L (.int (I n) :: st) h sz kc nc) : V z Y R Q pc L st h sz kc nc := V_sipush hd (by rw [I_16 hn]; exact kk)
theorem J_lconst0 (hd : decode Y.2.1 pc = .ok (.lconst 0, 1)) (kk : V z Y R Q (pc + 1) L (.long (J 0) :: st) h sz kc nc) : V z Y R Q pc L st h sz kc nc := V_lconst hd kk
theorem J_lconst1 (hd : decode Y.2.1 pc = .ok (.lconst 1, 1)) (kk : V z Y R Q (pc + 1) L (.long (J 1) :: st) h sz kc nc) : V z Y R Q pc L st h sz kc nc := V_lconst hd kk
theorem J_ldc2 {i : Nat} {v : Int64} (a : Int) (hd : decode Y.2.1 pc = .ok (.ldc2_w i, 3)) (hw : Cond.constantLong Y.1.cls i v ∈ gw) (hv : v = J a) (kk : V z Y R Q (pc + 3) L (.long (J a) :: st) h sz kc nc) : V z Y R Q pc L st h sz kc nc := V_ldc2 hd hw (by rw [hv]; exact kk)
theorem J_ldc {i : Nat} {v : Int32} (a : Int) (hd : decode Y.2.1 pc = .ok (.ldc i, 2)) (hw : Cond.constant Y.1.cls i v ∈ gw) (hv : v = I a) (kk : V z Y R Q (pc + 2) L (.int (I a) :: st) h sz kc nc) : V z Y R Q pc L st h sz kc nc := V_ldc hd hw (by rw [hv]; exact kk)
theorem J_iinc {i : Nat} {n a : Int} (hd : decode Y.2.1 pc = .ok (.iinc i n, 3)) (hl : L[i]? = some (some (.int (I a)))) (kk : V z Y R Q (pc + 3) (zp1 L i (.int (I (a + n)))) st h sz kc nc) : V z Y R Q pc L st h sz kc nc := V_iinc hd hl (by rw [show I a + Int32.ofInt n = I (a + n) from I_add a n]; exact kk)
theorem J_icmp_eq {a b : Int} {off : Int} {tgt : Nat} (hd : decode Y.2.1 pc = .ok (.if_icmp .eq off, 3)) (ht : (pc : Int) + off = (tgt : Int)) (ha : -2147483648 ≤ a ∧ a < 2147483648) (hb : -2147483648 ≤ b ∧ b < 2147483648) (kt : a = b → V z Y R Q tgt L st h sz kc nc) (kf : ¬ a = b → V z Y R Q (pc + 3) L st h sz kc nc) : V z Y R Q pc L (.int (I b) :: .int (I a) :: st) h sz kc nc := V_icmp_eq hd ht (fun q => kt ((I_eq ha hb).mp q)) (fun q => kf (fun w => q ((I_eq ha hb).mpr w)))
theorem J_if_eq {a : Int} {off : Int} {tgt : Nat} (hd : decode Y.2.1 pc = .ok (.ifCond .eq off, 3)) (ht : (pc : Int) + off = (tgt : Int)) (ha : -2147483648 ≤ a ∧ a < 2147483648) (kt : a = 0 → V z Y R Q tgt L st h sz kc nc) (kf : ¬ a = 0 → V z Y R Q (pc + 3) L st h sz kc nc) : V z Y R Q pc L (.int (I a) :: st) h sz kc nc := V_if_eq hd ht (fun q => kt ((I_eq ha (by omega)).mp q)) (fun q => kf (fun w => q ((I_eq ha (by omega)).mpr w)))
theorem J_lcmp_eq {a b : Int} {off : Int} {tgt : Nat} (hd : decode Y.2.1 pc = .ok (.lcmp, 1)) (hd2 : decode Y.2.1 (pc + 1) = .ok (.ifCond .eq off, 3)) (ht : ((pc + 1 : Nat) : Int) + off = (tgt : Int)) (ha : -9223372036854775808 ≤ a ∧ a < 9223372036854775808) (hb : -9223372036854775808 ≤ b ∧ b < 9223372036854775808) (kt : a = b → V z Y R Q tgt L st h sz kc nc) (kf : ¬ a = b → V z Y R Q (pc + 1 + 3) L st h sz kc nc) : V z Y R Q pc L (.long (J b) :: .long (J a) :: st) h sz kc nc := by
  refine V_lcmp hd ?_
  have e : lg_cmp (J a) (J b) = I (if b < a then 1 else if a = b then 0 else -1) := by
    have h1 := J_lt' hb ha
    have h2 := J_eq' ha hb
    have h3 := J_lt' ha hb
    unfold lg_cmp
    by_cases q1 : b < a
    · simp [h1.mpr q1, q1]; rfl
    · by_cases q2 : a = b
      · subst q2; simp; rfl
      · have q3 : ¬ J b < J a := fun w => q1 (h1.mp w)
        have q4 : ¬ J a = J b := fun w => q2 (h2.mp w)
        simp [q1, q2, q3, q4]; rfl
  rw [e]
  refine J_if_eq hd2 ht (by split <;> (try split) <;> omega) (fun q => kt ?_) (fun q => kf ?_)
  · revert q; split <;> (try split) <;> omega
  · revert q; split <;> (try split) <;> omega
theorem J_icmp_ne {a b : Int} {off : Int} {tgt : Nat} (hd : decode Y.2.1 pc = .ok (.if_icmp .ne off, 3)) (ht : (pc : Int) + off = (tgt : Int)) (ha : -2147483648 ≤ a ∧ a < 2147483648) (hb : -2147483648 ≤ b ∧ b < 2147483648) (kt : ¬ a = b → V z Y R Q tgt L st h sz kc nc) (kf : a = b → V z Y R Q (pc + 3) L st h sz kc nc) : V z Y R Q pc L (.int (I b) :: .int (I a) :: st) h sz kc nc := V_icmp_ne hd ht (fun q => kt (fun w => q ((I_eq ha hb).mpr w))) (fun q => kf ((I_eq ha hb).mp q))
theorem J_if_ne {a : Int} {off : Int} {tgt : Nat} (hd : decode Y.2.1 pc = .ok (.ifCond .ne off, 3)) (ht : (pc : Int) + off = (tgt : Int)) (ha : -2147483648 ≤ a ∧ a < 2147483648) (kt : ¬ a = 0 → V z Y R Q tgt L st h sz kc nc) (kf : a = 0 → V z Y R Q (pc + 3) L st h sz kc nc) : V z Y R Q pc L (.int (I a) :: st) h sz kc nc := V_if_ne hd ht (fun q => kt (fun w => q ((I_eq ha (by omega)).mpr w))) (fun q => kf ((I_eq ha (by omega)).mp q))
theorem J_lcmp_ne {a b : Int} {off : Int} {tgt : Nat} (hd : decode Y.2.1 pc = .ok (.lcmp, 1)) (hd2 : decode Y.2.1 (pc + 1) = .ok (.ifCond .ne off, 3)) (ht : ((pc + 1 : Nat) : Int) + off = (tgt : Int)) (ha : -9223372036854775808 ≤ a ∧ a < 9223372036854775808) (hb : -9223372036854775808 ≤ b ∧ b < 9223372036854775808) (kt : ¬ a = b → V z Y R Q tgt L st h sz kc nc) (kf : a = b → V z Y R Q (pc + 1 + 3) L st h sz kc nc) : V z Y R Q pc L (.long (J b) :: .long (J a) :: st) h sz kc nc := by
  refine V_lcmp hd ?_
  have e : lg_cmp (J a) (J b) = I (if b < a then 1 else if a = b then 0 else -1) := by
    have h1 := J_lt' hb ha
    have h2 := J_eq' ha hb
    have h3 := J_lt' ha hb
    unfold lg_cmp
    by_cases q1 : b < a
    · simp [h1.mpr q1, q1]; rfl
    · by_cases q2 : a = b
      · subst q2; simp; rfl
      · have q3 : ¬ J b < J a := fun w => q1 (h1.mp w)
        have q4 : ¬ J a = J b := fun w => q2 (h2.mp w)
        simp [q1, q2, q3, q4]; rfl
  rw [e]
  refine J_if_ne hd2 ht (by split <;> (try split) <;> omega) (fun q => kt ?_) (fun q => kf ?_)
  · revert q; split <;> (try split) <;> omega
  · revert q; split <;> (try split) <;> omega
theorem J_icmp_lt {a b : Int} {off : Int} {tgt : Nat} (hd : decode Y.2.1 pc = .ok (.if_icmp .lt off, 3)) (ht : (pc : Int) + off = (tgt : Int)) (ha : -2147483648 ≤ a ∧ a < 2147483648) (hb : -2147483648 ≤ b ∧ b < 2147483648) (kt : a < b → V z Y R Q tgt L st h sz kc nc) (kf : ¬ a < b → V z Y R Q (pc + 3) L st h sz kc nc) : V z Y R Q pc L (.int (I b) :: .int (I a) :: st) h sz kc nc := V_icmp_lt hd ht (fun q => kt ((I_lt ha hb).mp q)) (fun q => kf (fun w => q ((I_lt ha hb).mpr w)))
theorem J_if_lt {a : Int} {off : Int} {tgt : Nat} (hd : decode Y.2.1 pc = .ok (.ifCond .lt off, 3)) (ht : (pc : Int) + off = (tgt : Int)) (ha : -2147483648 ≤ a ∧ a < 2147483648) (kt : a < 0 → V z Y R Q tgt L st h sz kc nc) (kf : ¬ a < 0 → V z Y R Q (pc + 3) L st h sz kc nc) : V z Y R Q pc L (.int (I a) :: st) h sz kc nc := V_if_lt hd ht (fun q => kt ((I_lt ha (by omega)).mp q)) (fun q => kf (fun w => q ((I_lt ha (by omega)).mpr w)))
theorem J_lcmp_lt {a b : Int} {off : Int} {tgt : Nat} (hd : decode Y.2.1 pc = .ok (.lcmp, 1)) (hd2 : decode Y.2.1 (pc + 1) = .ok (.ifCond .lt off, 3)) (ht : ((pc + 1 : Nat) : Int) + off = (tgt : Int)) (ha : -9223372036854775808 ≤ a ∧ a < 9223372036854775808) (hb : -9223372036854775808 ≤ b ∧ b < 9223372036854775808) (kt : a < b → V z Y R Q tgt L st h sz kc nc) (kf : ¬ a < b → V z Y R Q (pc + 1 + 3) L st h sz kc nc) : V z Y R Q pc L (.long (J b) :: .long (J a) :: st) h sz kc nc := by
  refine V_lcmp hd ?_
  have e : lg_cmp (J a) (J b) = I (if b < a then 1 else if a = b then 0 else -1) := by
    have h1 := J_lt' hb ha
    have h2 := J_eq' ha hb
    have h3 := J_lt' ha hb
    unfold lg_cmp
    by_cases q1 : b < a
    · simp [h1.mpr q1, q1]; rfl
    · by_cases q2 : a = b
      · subst q2; simp; rfl
      · have q3 : ¬ J b < J a := fun w => q1 (h1.mp w)
        have q4 : ¬ J a = J b := fun w => q2 (h2.mp w)
        simp [q1, q2, q3, q4]; rfl
  rw [e]
  refine J_if_lt hd2 ht (by split <;> (try split) <;> omega) (fun q => kt ?_) (fun q => kf ?_)
  · revert q; split <;> (try split) <;> omega
  · revert q; split <;> (try split) <;> omega
theorem J_icmp_ge {a b : Int} {off : Int} {tgt : Nat} (hd : decode Y.2.1 pc = .ok (.if_icmp .ge off, 3)) (ht : (pc : Int) + off = (tgt : Int)) (ha : -2147483648 ≤ a ∧ a < 2147483648) (hb : -2147483648 ≤ b ∧ b < 2147483648) (kt : b ≤ a → V z Y R Q tgt L st h sz kc nc) (kf : ¬ b ≤ a → V z Y R Q (pc + 3) L st h sz kc nc) : V z Y R Q pc L (.int (I b) :: .int (I a) :: st) h sz kc nc := V_icmp_ge hd ht (fun q => kt ((I_le hb ha).mp q)) (fun q => kf (fun w => q ((I_le hb ha).mpr w)))
theorem J_if_ge {a : Int} {off : Int} {tgt : Nat} (hd : decode Y.2.1 pc = .ok (.ifCond .ge off, 3)) (ht : (pc : Int) + off = (tgt : Int)) (ha : -2147483648 ≤ a ∧ a < 2147483648) (kt : 0 ≤ a → V z Y R Q tgt L st h sz kc nc) (kf : ¬ 0 ≤ a → V z Y R Q (pc + 3) L st h sz kc nc) : V z Y R Q pc L (.int (I a) :: st) h sz kc nc := V_if_ge hd ht (fun q => kt ((I_le (by omega) ha).mp q)) (fun q => kf (fun w => q ((I_le (by omega) ha).mpr w)))
theorem J_lcmp_ge {a b : Int} {off : Int} {tgt : Nat} (hd : decode Y.2.1 pc = .ok (.lcmp, 1)) (hd2 : decode Y.2.1 (pc + 1) = .ok (.ifCond .ge off, 3)) (ht : ((pc + 1 : Nat) : Int) + off = (tgt : Int)) (ha : -9223372036854775808 ≤ a ∧ a < 9223372036854775808) (hb : -9223372036854775808 ≤ b ∧ b < 9223372036854775808) (kt : ¬ a < b → V z Y R Q tgt L st h sz kc nc) (kf : a < b → V z Y R Q (pc + 1 + 3) L st h sz kc nc) : V z Y R Q pc L (.long (J b) :: .long (J a) :: st) h sz kc nc := by
  refine V_lcmp hd ?_
  have e : lg_cmp (J a) (J b) = I (if b < a then 1 else if a = b then 0 else -1) := by
    have h1 := J_lt' hb ha
    have h2 := J_eq' ha hb
    have h3 := J_lt' ha hb
    unfold lg_cmp
    by_cases q1 : b < a
    · simp [h1.mpr q1, q1]; rfl
    · by_cases q2 : a = b
      · subst q2; simp; rfl
      · have q3 : ¬ J b < J a := fun w => q1 (h1.mp w)
        have q4 : ¬ J a = J b := fun w => q2 (h2.mp w)
        simp [q1, q2, q3, q4]; rfl
  rw [e]
  refine J_if_ge hd2 ht (by split <;> (try split) <;> omega) (fun q => kt ?_) (fun q => kf ?_)
  · revert q; split <;> (try split) <;> omega
  · revert q; split <;> (try split) <;> omega
theorem J_icmp_gt {a b : Int} {off : Int} {tgt : Nat} (hd : decode Y.2.1 pc = .ok (.if_icmp .gt off, 3)) (ht : (pc : Int) + off = (tgt : Int)) (ha : -2147483648 ≤ a ∧ a < 2147483648) (hb : -2147483648 ≤ b ∧ b < 2147483648) (kt : b < a → V z Y R Q tgt L st h sz kc nc) (kf : ¬ b < a → V z Y R Q (pc + 3) L st h sz kc nc) : V z Y R Q pc L (.int (I b) :: .int (I a) :: st) h sz kc nc := V_icmp_gt hd ht (fun q => kt ((I_lt hb ha).mp q)) (fun q => kf (fun w => q ((I_lt hb ha).mpr w)))
theorem J_if_gt {a : Int} {off : Int} {tgt : Nat} (hd : decode Y.2.1 pc = .ok (.ifCond .gt off, 3)) (ht : (pc : Int) + off = (tgt : Int)) (ha : -2147483648 ≤ a ∧ a < 2147483648) (kt : 0 < a → V z Y R Q tgt L st h sz kc nc) (kf : ¬ 0 < a → V z Y R Q (pc + 3) L st h sz kc nc) : V z Y R Q pc L (.int (I a) :: st) h sz kc nc := V_if_gt hd ht (fun q => kt ((I_lt (by omega) ha).mp q)) (fun q => kf (fun w => q ((I_lt (by omega) ha).mpr w)))
theorem J_lcmp_gt {a b : Int} {off : Int} {tgt : Nat} (hd : decode Y.2.1 pc = .ok (.lcmp, 1)) (hd2 : decode Y.2.1 (pc + 1) = .ok (.ifCond .gt off, 3)) (ht : ((pc + 1 : Nat) : Int) + off = (tgt : Int)) (ha : -9223372036854775808 ≤ a ∧ a < 9223372036854775808) (hb : -9223372036854775808 ≤ b ∧ b < 9223372036854775808) (kt : b < a → V z Y R Q tgt L st h sz kc nc) (kf : ¬ b < a → V z Y R Q (pc + 1 + 3) L st h sz kc nc) : V z Y R Q pc L (.long (J b) :: .long (J a) :: st) h sz kc nc := by
  refine V_lcmp hd ?_
  have e : lg_cmp (J a) (J b) = I (if b < a then 1 else if a = b then 0 else -1) := by
    have h1 := J_lt' hb ha
    have h2 := J_eq' ha hb
    have h3 := J_lt' ha hb
    unfold lg_cmp
    by_cases q1 : b < a
    · simp [h1.mpr q1, q1]; rfl
    · by_cases q2 : a = b
      · subst q2; simp; rfl
      · have q3 : ¬ J b < J a := fun w => q1 (h1.mp w)
        have q4 : ¬ J a = J b := fun w => q2 (h2.mp w)
        simp [q1, q2, q3, q4]; rfl
  rw [e]
  refine J_if_gt hd2 ht (by split <;> (try split) <;> omega) (fun q => kt ?_) (fun q => kf ?_)
  · revert q; split <;> (try split) <;> omega
  · revert q; split <;> (try split) <;> omega
theorem J_icmp_le {a b : Int} {off : Int} {tgt : Nat} (hd : decode Y.2.1 pc = .ok (.if_icmp .le off, 3)) (ht : (pc : Int) + off = (tgt : Int)) (ha : -2147483648 ≤ a ∧ a < 2147483648) (hb : -2147483648 ≤ b ∧ b < 2147483648) (kt : a ≤ b → V z Y R Q tgt L st h sz kc nc) (kf : ¬ a ≤ b → V z Y R Q (pc + 3) L st h sz kc nc) : V z Y R Q pc L (.int (I b) :: .int (I a) :: st) h sz kc nc := V_icmp_le hd ht (fun q => kt ((I_le ha hb).mp q)) (fun q => kf (fun w => q ((I_le ha hb).mpr w)))
theorem J_if_le {a : Int} {off : Int} {tgt : Nat} (hd : decode Y.2.1 pc = .ok (.ifCond .le off, 3)) (ht : (pc : Int) + off = (tgt : Int)) (ha : -2147483648 ≤ a ∧ a < 2147483648) (kt : a ≤ 0 → V z Y R Q tgt L st h sz kc nc) (kf : ¬ a ≤ 0 → V z Y R Q (pc + 3) L st h sz kc nc) : V z Y R Q pc L (.int (I a) :: st) h sz kc nc := V_if_le hd ht (fun q => kt ((I_le ha (by omega)).mp q)) (fun q => kf (fun w => q ((I_le ha (by omega)).mpr w)))
theorem J_lcmp_le {a b : Int} {off : Int} {tgt : Nat} (hd : decode Y.2.1 pc = .ok (.lcmp, 1)) (hd2 : decode Y.2.1 (pc + 1) = .ok (.ifCond .le off, 3)) (ht : ((pc + 1 : Nat) : Int) + off = (tgt : Int)) (ha : -9223372036854775808 ≤ a ∧ a < 9223372036854775808) (hb : -9223372036854775808 ≤ b ∧ b < 9223372036854775808) (kt : ¬ b < a → V z Y R Q tgt L st h sz kc nc) (kf : b < a → V z Y R Q (pc + 1 + 3) L st h sz kc nc) : V z Y R Q pc L (.long (J b) :: .long (J a) :: st) h sz kc nc := by
  refine V_lcmp hd ?_
  have e : lg_cmp (J a) (J b) = I (if b < a then 1 else if a = b then 0 else -1) := by
    have h1 := J_lt' hb ha
    have h2 := J_eq' ha hb
    have h3 := J_lt' ha hb
    unfold lg_cmp
    by_cases q1 : b < a
    · simp [h1.mpr q1, q1]; rfl
    · by_cases q2 : a = b
      · subst q2; simp; rfl
      · have q3 : ¬ J b < J a := fun w => q1 (h1.mp w)
        have q4 : ¬ J a = J b := fun w => q2 (h2.mp w)
        simp [q1, q2, q3, q4]; rfl
  rw [e]
  refine J_if_le hd2 ht (by split <;> (try split) <;> omega) (fun q => kt ?_) (fun q => kf ?_)
  · revert q; split <;> (try split) <;> omega
  · revert q; split <;> (try split) <;> omega
/-- a row of n ints at a, told by f as far as it goes -/
def ar (h : AH) (a n : Nat) (f : Nat → Int) : Prop := ∃ u : Nat → Int32, h a = some (.inr (n, .inl u)) ∧ ∀ j, j < n → u j = I (f j)
theorem ar.to {h : AH} {a n : Nat} {f f2 : Nat → Int} (ha : ar h a n f) (e : ∀ j, j < n → f j = f2 j) : ar h a n f2 := by
  obtain ⟨u, h1, h2⟩ := ha
  exact ⟨u, h1, fun j hj => by rw [h2 j hj, e j hj]⟩
theorem ar.kept {h h2 : AH} {a n : Nat} {f : Nat → Int} (ha : ar h a n f) (e : h2 a = h a) : ar h2 a n f := by
  obtain ⟨u, h1, h3⟩ := ha
  exact ⟨u, e.trans h1, h3⟩
theorem J_iald {a n : Nat} {f : Nat → Int} {i : Int} (hd : decode Y.2.1 pc = .ok (.iaload, 1)) (he : ar h a n f) (hi : 0 ≤ i ∧ i < n) (hn : n < 2147483648) (kk : V z Y R Q (pc + 1) L (.int (I (f i.toNat)) :: st) h sz kc nc) : V z Y R Q pc L (.int (I i) :: .ref a :: st) h sz kc nc := by
  obtain ⟨u, h1, h2⟩ := he
  exact V_iald hd h1 (I_in hi hn) (by rw [I_clamp (by omega), h2 i.toNat (by omega)]; exact kk)
theorem J_iast {a n : Nat} {f : Nat → Int} {i x : Int} (hd : decode Y.2.1 pc = .ok (.iastore, 1)) (he : ar h a n f) (hi : 0 ≤ i ∧ i < n) (hn : n < 2147483648) (kk : ∀ h' : AH, ar h' a n (va_up f i.toNat x) → (∀ q, q ≠ a → h' q = h q) → V z Y R Q (pc + 1) L st h' sz kc nc) : V z Y R Q pc L (.int (I x) :: .int (I i) :: .ref a :: st) h sz kc nc := by
  obtain ⟨u, h1, h2⟩ := he
  refine V_iast hd h1 (I_in hi hn) (kk _ ⟨_, hset_s, fun j hj => ?_⟩ (fun q hq => hset_n hq))
  rw [I_clamp (by omega)]
  simp only [upd, va_up]
  split
  · rfl
  · exact h2 j hj
end Jrules
/-- the reference: its object at r, its rows; below r the heap is g -/
def MS (g : AH) (r n s : Nat) (l sp nu rs rm sc mk km : Int) (T RA RD MA NW SD KP : Nat → Int) (h : AH) : Prop :=
  h r = some (.inl (8, [.ref (r + 1), .int (I l), .int (I sp), .int (I nu), .int (I rs), .int (I rm), .ref (r + 2), .ref (r + 3), .int (I sc), .int (I mk), .ref (r + 4), .ref n, .ref s, .ref (r + 7), .int (I km)])) ∧
  (ar h (r + 1) 200 T ∧ ar h (r + 2) 6 RA ∧ ar h (r + 3) 42 RD ∧ ar h (r + 4) 6 MA ∧ ar h (n) 42 NW ∧ ar h (s) 42 SD ∧ ar h (r + 7) 252 KP) ∧
  ((n = r + 5 ∧ s = r + 6) ∨ (n = r + 6 ∧ s = r + 5)) ∧ ∀ x : Nat, x < r → h x = g x
section Rrules
variable {z : ZG} {Y : ZM} {R : Room} {Q : ZQ} {pc : Nat} {L : AL} {st : List Value} {h g : AH} {sz kc nc r n s : Nat} {l sp nu rs rm sc mk km : Int} {T RA RD MA NW SD KP : Nat → Int}
theorem MS.aT (hm : MS g r n s l sp nu rs rm sc mk km T RA RD MA NW SD KP h) : ar h (r + 1) 200 T := hm.2.1.1
theorem MS.eT {f2 : Nat → Int} (hm : MS g r n s l sp nu rs rm sc mk km T RA RD MA NW SD KP h) (e : ∀ j, j < 200 → T j = f2 j) : MS g r n s l sp nu rs rm sc mk km f2 RA RD MA NW SD KP h := by
  obtain ⟨h0, ⟨p0, p1, p2, p3, p4, p5, p6⟩, h8, h9⟩ := hm
  exact ⟨h0, ⟨p0.to e, p1, p2, p3, p4, p5, p6⟩, h8, h9⟩
theorem MS.aRA (hm : MS g r n s l sp nu rs rm sc mk km T RA RD MA NW SD KP h) : ar h (r + 2) 6 RA := hm.2.1.2.1
theorem MS.eRA {f2 : Nat → Int} (hm : MS g r n s l sp nu rs rm sc mk km T RA RD MA NW SD KP h) (e : ∀ j, j < 6 → RA j = f2 j) : MS g r n s l sp nu rs rm sc mk km T f2 RD MA NW SD KP h := by
  obtain ⟨h0, ⟨p0, p1, p2, p3, p4, p5, p6⟩, h8, h9⟩ := hm
  exact ⟨h0, ⟨p0, p1.to e, p2, p3, p4, p5, p6⟩, h8, h9⟩
theorem MS.aRD (hm : MS g r n s l sp nu rs rm sc mk km T RA RD MA NW SD KP h) : ar h (r + 3) 42 RD := hm.2.1.2.2.1
theorem MS.eRD {f2 : Nat → Int} (hm : MS g r n s l sp nu rs rm sc mk km T RA RD MA NW SD KP h) (e : ∀ j, j < 42 → RD j = f2 j) : MS g r n s l sp nu rs rm sc mk km T RA f2 MA NW SD KP h := by
  obtain ⟨h0, ⟨p0, p1, p2, p3, p4, p5, p6⟩, h8, h9⟩ := hm
  exact ⟨h0, ⟨p0, p1, p2.to e, p3, p4, p5, p6⟩, h8, h9⟩
theorem MS.aMA (hm : MS g r n s l sp nu rs rm sc mk km T RA RD MA NW SD KP h) : ar h (r + 4) 6 MA := hm.2.1.2.2.2.1
theorem MS.eMA {f2 : Nat → Int} (hm : MS g r n s l sp nu rs rm sc mk km T RA RD MA NW SD KP h) (e : ∀ j, j < 6 → MA j = f2 j) : MS g r n s l sp nu rs rm sc mk km T RA RD f2 NW SD KP h := by
  obtain ⟨h0, ⟨p0, p1, p2, p3, p4, p5, p6⟩, h8, h9⟩ := hm
  exact ⟨h0, ⟨p0, p1, p2, p3.to e, p4, p5, p6⟩, h8, h9⟩
theorem MS.aNW (hm : MS g r n s l sp nu rs rm sc mk km T RA RD MA NW SD KP h) : ar h (n) 42 NW := hm.2.1.2.2.2.2.1
theorem MS.eNW {f2 : Nat → Int} (hm : MS g r n s l sp nu rs rm sc mk km T RA RD MA NW SD KP h) (e : ∀ j, j < 42 → NW j = f2 j) : MS g r n s l sp nu rs rm sc mk km T RA RD MA f2 SD KP h := by
  obtain ⟨h0, ⟨p0, p1, p2, p3, p4, p5, p6⟩, h8, h9⟩ := hm
  exact ⟨h0, ⟨p0, p1, p2, p3, p4.to e, p5, p6⟩, h8, h9⟩
theorem MS.aSD (hm : MS g r n s l sp nu rs rm sc mk km T RA RD MA NW SD KP h) : ar h (s) 42 SD := hm.2.1.2.2.2.2.2.1
theorem MS.eSD {f2 : Nat → Int} (hm : MS g r n s l sp nu rs rm sc mk km T RA RD MA NW SD KP h) (e : ∀ j, j < 42 → SD j = f2 j) : MS g r n s l sp nu rs rm sc mk km T RA RD MA NW f2 KP h := by
  obtain ⟨h0, ⟨p0, p1, p2, p3, p4, p5, p6⟩, h8, h9⟩ := hm
  exact ⟨h0, ⟨p0, p1, p2, p3, p4, p5.to e, p6⟩, h8, h9⟩
theorem MS.aKP (hm : MS g r n s l sp nu rs rm sc mk km T RA RD MA NW SD KP h) : ar h (r + 7) 252 KP := hm.2.1.2.2.2.2.2.2
theorem MS.eKP {f2 : Nat → Int} (hm : MS g r n s l sp nu rs rm sc mk km T RA RD MA NW SD KP h) (e : ∀ j, j < 252 → KP j = f2 j) : MS g r n s l sp nu rs rm sc mk km T RA RD MA NW SD f2 h := by
  obtain ⟨h0, ⟨p0, p1, p2, p3, p4, p5, p6⟩, h8, h9⟩ := hm
  exact ⟨h0, ⟨p0, p1, p2, p3, p4, p5, p6.to e⟩, h8, h9⟩
theorem R_put_1 {i : Nat} {x : Int} (hd : decode Y.2.1 pc = .ok (.putfield i, 3)) (hw : ZF Y.1.cls i 8 1) (hm : MS g r n s l sp nu rs rm sc mk km T RA RD MA NW SD KP h) (kk : ∀ h' : AH, MS g r n s x sp nu rs rm sc mk km T RA RD MA NW SD KP h' → V z Y R Q (pc + 3) L st h' sz kc nc) : V z Y R Q pc L (.int (I x) :: .ref r :: st) h sz kc nc := by
  refine V_put hd hw tX8_1 hm.1 (Nat.le_of_ble_eq_true rfl) rfl rfl (kk _ ?_)
  obtain ⟨h0, ⟨h1, h2, h3, h4, h5, h6, h7⟩, h8, h9⟩ := hm
  have hn : n ≠ r ∧ s ≠ r := by omega
  exact ⟨hset_s, ⟨h1.kept (hset_n (by omega)), h2.kept (hset_n (by omega)), h3.kept (hset_n (by omega)), h4.kept (hset_n (by omega)), h5.kept (hset_n hn.1), h6.kept (hset_n hn.2), h7.kept (hset_n (by omega))⟩, h8, fun x hx => (hset_n (by omega)).trans (h9 x hx)⟩
theorem R_put_2 {i : Nat} {x : Int} (hd : decode Y.2.1 pc = .ok (.putfield i, 3)) (hw : ZF Y.1.cls i 8 2) (hm : MS g r n s l sp nu rs rm sc mk km T RA RD MA NW SD KP h) (kk : ∀ h' : AH, MS g r n s l x nu rs rm sc mk km T RA RD MA NW SD KP h' → V z Y R Q (pc + 3) L st h' sz kc nc) : V z Y R Q pc L (.int (I x) :: .ref r :: st) h sz kc nc := by
  refine V_put hd hw tX8_2 hm.1 (Nat.le_of_ble_eq_true rfl) rfl rfl (kk _ ?_)
  obtain ⟨h0, ⟨h1, h2, h3, h4, h5, h6, h7⟩, h8, h9⟩ := hm
  have hn : n ≠ r ∧ s ≠ r := by omega
  exact ⟨hset_s, ⟨h1.kept (hset_n (by omega)), h2.kept (hset_n (by omega)), h3.kept (hset_n (by omega)), h4.kept (hset_n (by omega)), h5.kept (hset_n hn.1), h6.kept (hset_n hn.2), h7.kept (hset_n (by omega))⟩, h8, fun x hx => (hset_n (by omega)).trans (h9 x hx)⟩
theorem R_put_3 {i : Nat} {x : Int} (hd : decode Y.2.1 pc = .ok (.putfield i, 3)) (hw : ZF Y.1.cls i 8 3) (hm : MS g r n s l sp nu rs rm sc mk km T RA RD MA NW SD KP h) (kk : ∀ h' : AH, MS g r n s l sp x rs rm sc mk km T RA RD MA NW SD KP h' → V z Y R Q (pc + 3) L st h' sz kc nc) : V z Y R Q pc L (.int (I x) :: .ref r :: st) h sz kc nc := by
  refine V_put hd hw tX8_3 hm.1 (Nat.le_of_ble_eq_true rfl) rfl rfl (kk _ ?_)
  obtain ⟨h0, ⟨h1, h2, h3, h4, h5, h6, h7⟩, h8, h9⟩ := hm
  have hn : n ≠ r ∧ s ≠ r := by omega
  exact ⟨hset_s, ⟨h1.kept (hset_n (by omega)), h2.kept (hset_n (by omega)), h3.kept (hset_n (by omega)), h4.kept (hset_n (by omega)), h5.kept (hset_n hn.1), h6.kept (hset_n hn.2), h7.kept (hset_n (by omega))⟩, h8, fun x hx => (hset_n (by omega)).trans (h9 x hx)⟩
theorem R_put_4 {i : Nat} {x : Int} (hd : decode Y.2.1 pc = .ok (.putfield i, 3)) (hw : ZF Y.1.cls i 8 4) (hm : MS g r n s l sp nu rs rm sc mk km T RA RD MA NW SD KP h) (kk : ∀ h' : AH, MS g r n s l sp nu x rm sc mk km T RA RD MA NW SD KP h' → V z Y R Q (pc + 3) L st h' sz kc nc) : V z Y R Q pc L (.int (I x) :: .ref r :: st) h sz kc nc := by
  refine V_put hd hw tX8_4 hm.1 (Nat.le_of_ble_eq_true rfl) rfl rfl (kk _ ?_)
  obtain ⟨h0, ⟨h1, h2, h3, h4, h5, h6, h7⟩, h8, h9⟩ := hm
  have hn : n ≠ r ∧ s ≠ r := by omega
  exact ⟨hset_s, ⟨h1.kept (hset_n (by omega)), h2.kept (hset_n (by omega)), h3.kept (hset_n (by omega)), h4.kept (hset_n (by omega)), h5.kept (hset_n hn.1), h6.kept (hset_n hn.2), h7.kept (hset_n (by omega))⟩, h8, fun x hx => (hset_n (by omega)).trans (h9 x hx)⟩
theorem R_put_5 {i : Nat} {x : Int} (hd : decode Y.2.1 pc = .ok (.putfield i, 3)) (hw : ZF Y.1.cls i 8 5) (hm : MS g r n s l sp nu rs rm sc mk km T RA RD MA NW SD KP h) (kk : ∀ h' : AH, MS g r n s l sp nu rs x sc mk km T RA RD MA NW SD KP h' → V z Y R Q (pc + 3) L st h' sz kc nc) : V z Y R Q pc L (.int (I x) :: .ref r :: st) h sz kc nc := by
  refine V_put hd hw tX8_5 hm.1 (Nat.le_of_ble_eq_true rfl) rfl rfl (kk _ ?_)
  obtain ⟨h0, ⟨h1, h2, h3, h4, h5, h6, h7⟩, h8, h9⟩ := hm
  have hn : n ≠ r ∧ s ≠ r := by omega
  exact ⟨hset_s, ⟨h1.kept (hset_n (by omega)), h2.kept (hset_n (by omega)), h3.kept (hset_n (by omega)), h4.kept (hset_n (by omega)), h5.kept (hset_n hn.1), h6.kept (hset_n hn.2), h7.kept (hset_n (by omega))⟩, h8, fun x hx => (hset_n (by omega)).trans (h9 x hx)⟩
theorem R_put_8 {i : Nat} {x : Int} (hd : decode Y.2.1 pc = .ok (.putfield i, 3)) (hw : ZF Y.1.cls i 8 8) (hm : MS g r n s l sp nu rs rm sc mk km T RA RD MA NW SD KP h) (kk : ∀ h' : AH, MS g r n s l sp nu rs rm x mk km T RA RD MA NW SD KP h' → V z Y R Q (pc + 3) L st h' sz kc nc) : V z Y R Q pc L (.int (I x) :: .ref r :: st) h sz kc nc := by
  refine V_put hd hw tX8_8 hm.1 (Nat.le_of_ble_eq_true rfl) rfl rfl (kk _ ?_)
  obtain ⟨h0, ⟨h1, h2, h3, h4, h5, h6, h7⟩, h8, h9⟩ := hm
  have hn : n ≠ r ∧ s ≠ r := by omega
  exact ⟨hset_s, ⟨h1.kept (hset_n (by omega)), h2.kept (hset_n (by omega)), h3.kept (hset_n (by omega)), h4.kept (hset_n (by omega)), h5.kept (hset_n hn.1), h6.kept (hset_n hn.2), h7.kept (hset_n (by omega))⟩, h8, fun x hx => (hset_n (by omega)).trans (h9 x hx)⟩
theorem R_put_9 {i : Nat} {x : Int} (hd : decode Y.2.1 pc = .ok (.putfield i, 3)) (hw : ZF Y.1.cls i 8 9) (hm : MS g r n s l sp nu rs rm sc mk km T RA RD MA NW SD KP h) (kk : ∀ h' : AH, MS g r n s l sp nu rs rm sc x km T RA RD MA NW SD KP h' → V z Y R Q (pc + 3) L st h' sz kc nc) : V z Y R Q pc L (.int (I x) :: .ref r :: st) h sz kc nc := by
  refine V_put hd hw tX8_9 hm.1 (Nat.le_of_ble_eq_true rfl) rfl rfl (kk _ ?_)
  obtain ⟨h0, ⟨h1, h2, h3, h4, h5, h6, h7⟩, h8, h9⟩ := hm
  have hn : n ≠ r ∧ s ≠ r := by omega
  exact ⟨hset_s, ⟨h1.kept (hset_n (by omega)), h2.kept (hset_n (by omega)), h3.kept (hset_n (by omega)), h4.kept (hset_n (by omega)), h5.kept (hset_n hn.1), h6.kept (hset_n hn.2), h7.kept (hset_n (by omega))⟩, h8, fun x hx => (hset_n (by omega)).trans (h9 x hx)⟩
theorem R_put_14 {i : Nat} {x : Int} (hd : decode Y.2.1 pc = .ok (.putfield i, 3)) (hw : ZF Y.1.cls i 8 14) (hm : MS g r n s l sp nu rs rm sc mk km T RA RD MA NW SD KP h) (kk : ∀ h' : AH, MS g r n s l sp nu rs rm sc mk x T RA RD MA NW SD KP h' → V z Y R Q (pc + 3) L st h' sz kc nc) : V z Y R Q pc L (.int (I x) :: .ref r :: st) h sz kc nc := by
  refine V_put hd hw tX8_14 hm.1 (Nat.le_of_ble_eq_true rfl) rfl rfl (kk _ ?_)
  obtain ⟨h0, ⟨h1, h2, h3, h4, h5, h6, h7⟩, h8, h9⟩ := hm
  have hn : n ≠ r ∧ s ≠ r := by omega
  exact ⟨hset_s, ⟨h1.kept (hset_n (by omega)), h2.kept (hset_n (by omega)), h3.kept (hset_n (by omega)), h4.kept (hset_n (by omega)), h5.kept (hset_n hn.1), h6.kept (hset_n hn.2), h7.kept (hset_n (by omega))⟩, h8, fun x hx => (hset_n (by omega)).trans (h9 x hx)⟩
theorem R_ast_T {i x : Int} (hd : decode Y.2.1 pc = .ok (.iastore, 1)) (hm : MS g r n s l sp nu rs rm sc mk km T RA RD MA NW SD KP h) (hi : 0 ≤ i ∧ i < 200) (kk : ∀ h' : AH, MS g r n s l sp nu rs rm sc mk km (va_up T i.toNat x) RA RD MA NW SD KP h' → V z Y R Q (pc + 1) L st h' sz kc nc) : V z Y R Q pc L (.int (I x) :: .int (I i) :: .ref (r + 1) :: st) h sz kc nc := by
  refine J_iast hd hm.aT hi (Nat.le_of_ble_eq_true rfl) (fun h2 ha ho => kk h2 ?_)
  obtain ⟨h0, ⟨h1, h22, h3, h4, h5, h6, h7⟩, h8, h9⟩ := hm
  have hn : n ≠ r ∧ s ≠ r ∧ n ≠ s ∧ n ≠ r + 1 ∧ n ≠ r + 2 ∧ n ≠ r + 3 ∧ n ≠ r + 4 ∧ n ≠ r + 7 ∧ s ≠ r + 1 ∧ s ≠ r + 2 ∧ s ≠ r + 3 ∧ s ≠ r + 4 ∧ s ≠ r + 7 := by omega
  exact ⟨(ho _ (by omega)).trans h0, ⟨ha, h22.kept (ho _ (by omega)), h3.kept (ho _ (by omega)), h4.kept (ho _ (by omega)), h5.kept (ho _ (by omega)), h6.kept (ho _ (by omega)), h7.kept (ho _ (by omega))⟩, h8, fun x hx => (ho _ (by omega)).trans (h9 x hx)⟩
theorem R_ald_T {i : Int} (hd : decode Y.2.1 pc = .ok (.iaload, 1)) (hm : MS g r n s l sp nu rs rm sc mk km T RA RD MA NW SD KP h) (hi : 0 ≤ i ∧ i < 200) (kk : V z Y R Q (pc + 1) L (.int (I (T i.toNat)) :: st) h sz kc nc) : V z Y R Q pc L (.int (I i) :: .ref (r + 1) :: st) h sz kc nc := J_iald hd hm.aT hi (Nat.le_of_ble_eq_true rfl) kk
theorem R_ast_RA {i x : Int} (hd : decode Y.2.1 pc = .ok (.iastore, 1)) (hm : MS g r n s l sp nu rs rm sc mk km T RA RD MA NW SD KP h) (hi : 0 ≤ i ∧ i < 6) (kk : ∀ h' : AH, MS g r n s l sp nu rs rm sc mk km T (va_up RA i.toNat x) RD MA NW SD KP h' → V z Y R Q (pc + 1) L st h' sz kc nc) : V z Y R Q pc L (.int (I x) :: .int (I i) :: .ref (r + 2) :: st) h sz kc nc := by
  refine J_iast hd hm.aRA hi (Nat.le_of_ble_eq_true rfl) (fun h2 ha ho => kk h2 ?_)
  obtain ⟨h0, ⟨h1, h22, h3, h4, h5, h6, h7⟩, h8, h9⟩ := hm
  have hn : n ≠ r ∧ s ≠ r ∧ n ≠ s ∧ n ≠ r + 1 ∧ n ≠ r + 2 ∧ n ≠ r + 3 ∧ n ≠ r + 4 ∧ n ≠ r + 7 ∧ s ≠ r + 1 ∧ s ≠ r + 2 ∧ s ≠ r + 3 ∧ s ≠ r + 4 ∧ s ≠ r + 7 := by omega
  exact ⟨(ho _ (by omega)).trans h0, ⟨h1.kept (ho _ (by omega)), ha, h3.kept (ho _ (by omega)), h4.kept (ho _ (by omega)), h5.kept (ho _ (by omega)), h6.kept (ho _ (by omega)), h7.kept (ho _ (by omega))⟩, h8, fun x hx => (ho _ (by omega)).trans (h9 x hx)⟩
theorem R_ald_RA {i : Int} (hd : decode Y.2.1 pc = .ok (.iaload, 1)) (hm : MS g r n s l sp nu rs rm sc mk km T RA RD MA NW SD KP h) (hi : 0 ≤ i ∧ i < 6) (kk : V z Y R Q (pc + 1) L (.int (I (RA i.toNat)) :: st) h sz kc nc) : V z Y R Q pc L (.int (I i) :: .ref (r + 2) :: st) h sz kc nc := J_iald hd hm.aRA hi (Nat.le_of_ble_eq_true rfl) kk
theorem R_ast_RD {i x : Int} (hd : decode Y.2.1 pc = .ok (.iastore, 1)) (hm : MS g r n s l sp nu rs rm sc mk km T RA RD MA NW SD KP h) (hi : 0 ≤ i ∧ i < 42) (kk : ∀ h' : AH, MS g r n s l sp nu rs rm sc mk km T RA (va_up RD i.toNat x) MA NW SD KP h' → V z Y R Q (pc + 1) L st h' sz kc nc) : V z Y R Q pc L (.int (I x) :: .int (I i) :: .ref (r + 3) :: st) h sz kc nc := by
  refine J_iast hd hm.aRD hi (Nat.le_of_ble_eq_true rfl) (fun h2 ha ho => kk h2 ?_)
  obtain ⟨h0, ⟨h1, h22, h3, h4, h5, h6, h7⟩, h8, h9⟩ := hm
  have hn : n ≠ r ∧ s ≠ r ∧ n ≠ s ∧ n ≠ r + 1 ∧ n ≠ r + 2 ∧ n ≠ r + 3 ∧ n ≠ r + 4 ∧ n ≠ r + 7 ∧ s ≠ r + 1 ∧ s ≠ r + 2 ∧ s ≠ r + 3 ∧ s ≠ r + 4 ∧ s ≠ r + 7 := by omega
  exact ⟨(ho _ (by omega)).trans h0, ⟨h1.kept (ho _ (by omega)), h22.kept (ho _ (by omega)), ha, h4.kept (ho _ (by omega)), h5.kept (ho _ (by omega)), h6.kept (ho _ (by omega)), h7.kept (ho _ (by omega))⟩, h8, fun x hx => (ho _ (by omega)).trans (h9 x hx)⟩
theorem R_ald_RD {i : Int} (hd : decode Y.2.1 pc = .ok (.iaload, 1)) (hm : MS g r n s l sp nu rs rm sc mk km T RA RD MA NW SD KP h) (hi : 0 ≤ i ∧ i < 42) (kk : V z Y R Q (pc + 1) L (.int (I (RD i.toNat)) :: st) h sz kc nc) : V z Y R Q pc L (.int (I i) :: .ref (r + 3) :: st) h sz kc nc := J_iald hd hm.aRD hi (Nat.le_of_ble_eq_true rfl) kk
theorem R_ast_MA {i x : Int} (hd : decode Y.2.1 pc = .ok (.iastore, 1)) (hm : MS g r n s l sp nu rs rm sc mk km T RA RD MA NW SD KP h) (hi : 0 ≤ i ∧ i < 6) (kk : ∀ h' : AH, MS g r n s l sp nu rs rm sc mk km T RA RD (va_up MA i.toNat x) NW SD KP h' → V z Y R Q (pc + 1) L st h' sz kc nc) : V z Y R Q pc L (.int (I x) :: .int (I i) :: .ref (r + 4) :: st) h sz kc nc := by
  refine J_iast hd hm.aMA hi (Nat.le_of_ble_eq_true rfl) (fun h2 ha ho => kk h2 ?_)
  obtain ⟨h0, ⟨h1, h22, h3, h4, h5, h6, h7⟩, h8, h9⟩ := hm
  have hn : n ≠ r ∧ s ≠ r ∧ n ≠ s ∧ n ≠ r + 1 ∧ n ≠ r + 2 ∧ n ≠ r + 3 ∧ n ≠ r + 4 ∧ n ≠ r + 7 ∧ s ≠ r + 1 ∧ s ≠ r + 2 ∧ s ≠ r + 3 ∧ s ≠ r + 4 ∧ s ≠ r + 7 := by omega
  exact ⟨(ho _ (by omega)).trans h0, ⟨h1.kept (ho _ (by omega)), h22.kept (ho _ (by omega)), h3.kept (ho _ (by omega)), ha, h5.kept (ho _ (by omega)), h6.kept (ho _ (by omega)), h7.kept (ho _ (by omega))⟩, h8, fun x hx => (ho _ (by omega)).trans (h9 x hx)⟩
theorem R_ald_MA {i : Int} (hd : decode Y.2.1 pc = .ok (.iaload, 1)) (hm : MS g r n s l sp nu rs rm sc mk km T RA RD MA NW SD KP h) (hi : 0 ≤ i ∧ i < 6) (kk : V z Y R Q (pc + 1) L (.int (I (MA i.toNat)) :: st) h sz kc nc) : V z Y R Q pc L (.int (I i) :: .ref (r + 4) :: st) h sz kc nc := J_iald hd hm.aMA hi (Nat.le_of_ble_eq_true rfl) kk
theorem R_ast_NW {i x : Int} (hd : decode Y.2.1 pc = .ok (.iastore, 1)) (hm : MS g r n s l sp nu rs rm sc mk km T RA RD MA NW SD KP h) (hi : 0 ≤ i ∧ i < 42) (kk : ∀ h' : AH, MS g r n s l sp nu rs rm sc mk km T RA RD MA (va_up NW i.toNat x) SD KP h' → V z Y R Q (pc + 1) L st h' sz kc nc) : V z Y R Q pc L (.int (I x) :: .int (I i) :: .ref (n) :: st) h sz kc nc := by
  refine J_iast hd hm.aNW hi (Nat.le_of_ble_eq_true rfl) (fun h2 ha ho => kk h2 ?_)
  obtain ⟨h0, ⟨h1, h22, h3, h4, h5, h6, h7⟩, h8, h9⟩ := hm
  have hn : n ≠ r ∧ s ≠ r ∧ n ≠ s ∧ n ≠ r + 1 ∧ n ≠ r + 2 ∧ n ≠ r + 3 ∧ n ≠ r + 4 ∧ n ≠ r + 7 ∧ s ≠ r + 1 ∧ s ≠ r + 2 ∧ s ≠ r + 3 ∧ s ≠ r + 4 ∧ s ≠ r + 7 := by omega
  exact ⟨(ho _ (by omega)).trans h0, ⟨h1.kept (ho _ (by omega)), h22.kept (ho _ (by omega)), h3.kept (ho _ (by omega)), h4.kept (ho _ (by omega)), ha, h6.kept (ho _ (by omega)), h7.kept (ho _ (by omega))⟩, h8, fun x hx => (ho _ (by omega)).trans (h9 x hx)⟩
theorem R_ald_NW {i : Int} (hd : decode Y.2.1 pc = .ok (.iaload, 1)) (hm : MS g r n s l sp nu rs rm sc mk km T RA RD MA NW SD KP h) (hi : 0 ≤ i ∧ i < 42) (kk : V z Y R Q (pc + 1) L (.int (I (NW i.toNat)) :: st) h sz kc nc) : V z Y R Q pc L (.int (I i) :: .ref (n) :: st) h sz kc nc := J_iald hd hm.aNW hi (Nat.le_of_ble_eq_true rfl) kk
theorem R_ast_SD {i x : Int} (hd : decode Y.2.1 pc = .ok (.iastore, 1)) (hm : MS g r n s l sp nu rs rm sc mk km T RA RD MA NW SD KP h) (hi : 0 ≤ i ∧ i < 42) (kk : ∀ h' : AH, MS g r n s l sp nu rs rm sc mk km T RA RD MA NW (va_up SD i.toNat x) KP h' → V z Y R Q (pc + 1) L st h' sz kc nc) : V z Y R Q pc L (.int (I x) :: .int (I i) :: .ref (s) :: st) h sz kc nc := by
  refine J_iast hd hm.aSD hi (Nat.le_of_ble_eq_true rfl) (fun h2 ha ho => kk h2 ?_)
  obtain ⟨h0, ⟨h1, h22, h3, h4, h5, h6, h7⟩, h8, h9⟩ := hm
  have hn : n ≠ r ∧ s ≠ r ∧ n ≠ s ∧ n ≠ r + 1 ∧ n ≠ r + 2 ∧ n ≠ r + 3 ∧ n ≠ r + 4 ∧ n ≠ r + 7 ∧ s ≠ r + 1 ∧ s ≠ r + 2 ∧ s ≠ r + 3 ∧ s ≠ r + 4 ∧ s ≠ r + 7 := by omega
  exact ⟨(ho _ (by omega)).trans h0, ⟨h1.kept (ho _ (by omega)), h22.kept (ho _ (by omega)), h3.kept (ho _ (by omega)), h4.kept (ho _ (by omega)), h5.kept (ho _ (by omega)), ha, h7.kept (ho _ (by omega))⟩, h8, fun x hx => (ho _ (by omega)).trans (h9 x hx)⟩
theorem R_ald_SD {i : Int} (hd : decode Y.2.1 pc = .ok (.iaload, 1)) (hm : MS g r n s l sp nu rs rm sc mk km T RA RD MA NW SD KP h) (hi : 0 ≤ i ∧ i < 42) (kk : V z Y R Q (pc + 1) L (.int (I (SD i.toNat)) :: st) h sz kc nc) : V z Y R Q pc L (.int (I i) :: .ref (s) :: st) h sz kc nc := J_iald hd hm.aSD hi (Nat.le_of_ble_eq_true rfl) kk
theorem R_ast_KP {i x : Int} (hd : decode Y.2.1 pc = .ok (.iastore, 1)) (hm : MS g r n s l sp nu rs rm sc mk km T RA RD MA NW SD KP h) (hi : 0 ≤ i ∧ i < 252) (kk : ∀ h' : AH, MS g r n s l sp nu rs rm sc mk km T RA RD MA NW SD (va_up KP i.toNat x) h' → V z Y R Q (pc + 1) L st h' sz kc nc) : V z Y R Q pc L (.int (I x) :: .int (I i) :: .ref (r + 7) :: st) h sz kc nc := by
  refine J_iast hd hm.aKP hi (Nat.le_of_ble_eq_true rfl) (fun h2 ha ho => kk h2 ?_)
  obtain ⟨h0, ⟨h1, h22, h3, h4, h5, h6, h7⟩, h8, h9⟩ := hm
  have hn : n ≠ r ∧ s ≠ r ∧ n ≠ s ∧ n ≠ r + 1 ∧ n ≠ r + 2 ∧ n ≠ r + 3 ∧ n ≠ r + 4 ∧ n ≠ r + 7 ∧ s ≠ r + 1 ∧ s ≠ r + 2 ∧ s ≠ r + 3 ∧ s ≠ r + 4 ∧ s ≠ r + 7 := by omega
  exact ⟨(ho _ (by omega)).trans h0, ⟨h1.kept (ho _ (by omega)), h22.kept (ho _ (by omega)), h3.kept (ho _ (by omega)), h4.kept (ho _ (by omega)), h5.kept (ho _ (by omega)), h6.kept (ho _ (by omega)), ha⟩, h8, fun x hx => (ho _ (by omega)).trans (h9 x hx)⟩
theorem R_ald_KP {i : Int} (hd : decode Y.2.1 pc = .ok (.iaload, 1)) (hm : MS g r n s l sp nu rs rm sc mk km T RA RD MA NW SD KP h) (hi : 0 ≤ i ∧ i < 252) (kk : V z Y R Q (pc + 1) L (.int (I (KP i.toNat)) :: st) h sz kc nc) : V z Y R Q pc L (.int (I i) :: .ref (r + 7) :: st) h sz kc nc := J_iald hd hm.aKP hi (Nat.le_of_ble_eq_true rfl) kk
theorem R_aldk_T {i : Int} (k : Nat) (hd : decode Y.2.1 pc = .ok (.iaload, 1)) (hm : MS g r n s l sp nu rs rm sc mk km T RA RD MA NW SD KP h) (hk : i = (k : Int)) (hi : k < 200) (kk : V z Y R Q (pc + 1) L (.int (I (T k)) :: st) h sz kc nc) : V z Y R Q pc L (.int (I i) :: .ref (r + 1) :: st) h sz kc nc := by
  subst hk
  exact R_ald_T hd hm (by omega) (by rw [Int.toNat_natCast]; exact kk)
theorem R_astk_T {i x : Int} (k : Nat) (hd : decode Y.2.1 pc = .ok (.iastore, 1)) (hm : MS g r n s l sp nu rs rm sc mk km T RA RD MA NW SD KP h) (hk : i = (k : Int)) (hi : k < 200) (kk : ∀ h' : AH, MS g r n s l sp nu rs rm sc mk km (va_up T k x) RA RD MA NW SD KP h' → V z Y R Q (pc + 1) L st h' sz kc nc) : V z Y R Q pc L (.int (I x) :: .int (I i) :: .ref (r + 1) :: st) h sz kc nc := by
  subst hk
  exact R_ast_T hd hm (by omega) (fun h2 hm2 => kk h2 (by rw [Int.toNat_natCast] at hm2; exact hm2))
theorem R_aldk_RA {i : Int} (k : Nat) (hd : decode Y.2.1 pc = .ok (.iaload, 1)) (hm : MS g r n s l sp nu rs rm sc mk km T RA RD MA NW SD KP h) (hk : i = (k : Int)) (hi : k < 6) (kk : V z Y R Q (pc + 1) L (.int (I (RA k)) :: st) h sz kc nc) : V z Y R Q pc L (.int (I i) :: .ref (r + 2) :: st) h sz kc nc := by
  subst hk
  exact R_ald_RA hd hm (by omega) (by rw [Int.toNat_natCast]; exact kk)
theorem R_astk_RA {i x : Int} (k : Nat) (hd : decode Y.2.1 pc = .ok (.iastore, 1)) (hm : MS g r n s l sp nu rs rm sc mk km T RA RD MA NW SD KP h) (hk : i = (k : Int)) (hi : k < 6) (kk : ∀ h' : AH, MS g r n s l sp nu rs rm sc mk km T (va_up RA k x) RD MA NW SD KP h' → V z Y R Q (pc + 1) L st h' sz kc nc) : V z Y R Q pc L (.int (I x) :: .int (I i) :: .ref (r + 2) :: st) h sz kc nc := by
  subst hk
  exact R_ast_RA hd hm (by omega) (fun h2 hm2 => kk h2 (by rw [Int.toNat_natCast] at hm2; exact hm2))
theorem R_aldk_RD {i : Int} (k : Nat) (hd : decode Y.2.1 pc = .ok (.iaload, 1)) (hm : MS g r n s l sp nu rs rm sc mk km T RA RD MA NW SD KP h) (hk : i = (k : Int)) (hi : k < 42) (kk : V z Y R Q (pc + 1) L (.int (I (RD k)) :: st) h sz kc nc) : V z Y R Q pc L (.int (I i) :: .ref (r + 3) :: st) h sz kc nc := by
  subst hk
  exact R_ald_RD hd hm (by omega) (by rw [Int.toNat_natCast]; exact kk)
theorem R_astk_RD {i x : Int} (k : Nat) (hd : decode Y.2.1 pc = .ok (.iastore, 1)) (hm : MS g r n s l sp nu rs rm sc mk km T RA RD MA NW SD KP h) (hk : i = (k : Int)) (hi : k < 42) (kk : ∀ h' : AH, MS g r n s l sp nu rs rm sc mk km T RA (va_up RD k x) MA NW SD KP h' → V z Y R Q (pc + 1) L st h' sz kc nc) : V z Y R Q pc L (.int (I x) :: .int (I i) :: .ref (r + 3) :: st) h sz kc nc := by
  subst hk
  exact R_ast_RD hd hm (by omega) (fun h2 hm2 => kk h2 (by rw [Int.toNat_natCast] at hm2; exact hm2))
theorem R_aldk_MA {i : Int} (k : Nat) (hd : decode Y.2.1 pc = .ok (.iaload, 1)) (hm : MS g r n s l sp nu rs rm sc mk km T RA RD MA NW SD KP h) (hk : i = (k : Int)) (hi : k < 6) (kk : V z Y R Q (pc + 1) L (.int (I (MA k)) :: st) h sz kc nc) : V z Y R Q pc L (.int (I i) :: .ref (r + 4) :: st) h sz kc nc := by
  subst hk
  exact R_ald_MA hd hm (by omega) (by rw [Int.toNat_natCast]; exact kk)
theorem R_astk_MA {i x : Int} (k : Nat) (hd : decode Y.2.1 pc = .ok (.iastore, 1)) (hm : MS g r n s l sp nu rs rm sc mk km T RA RD MA NW SD KP h) (hk : i = (k : Int)) (hi : k < 6) (kk : ∀ h' : AH, MS g r n s l sp nu rs rm sc mk km T RA RD (va_up MA k x) NW SD KP h' → V z Y R Q (pc + 1) L st h' sz kc nc) : V z Y R Q pc L (.int (I x) :: .int (I i) :: .ref (r + 4) :: st) h sz kc nc := by
  subst hk
  exact R_ast_MA hd hm (by omega) (fun h2 hm2 => kk h2 (by rw [Int.toNat_natCast] at hm2; exact hm2))
theorem R_aldk_NW {i : Int} (k : Nat) (hd : decode Y.2.1 pc = .ok (.iaload, 1)) (hm : MS g r n s l sp nu rs rm sc mk km T RA RD MA NW SD KP h) (hk : i = (k : Int)) (hi : k < 42) (kk : V z Y R Q (pc + 1) L (.int (I (NW k)) :: st) h sz kc nc) : V z Y R Q pc L (.int (I i) :: .ref (n) :: st) h sz kc nc := by
  subst hk
  exact R_ald_NW hd hm (by omega) (by rw [Int.toNat_natCast]; exact kk)
theorem R_astk_NW {i x : Int} (k : Nat) (hd : decode Y.2.1 pc = .ok (.iastore, 1)) (hm : MS g r n s l sp nu rs rm sc mk km T RA RD MA NW SD KP h) (hk : i = (k : Int)) (hi : k < 42) (kk : ∀ h' : AH, MS g r n s l sp nu rs rm sc mk km T RA RD MA (va_up NW k x) SD KP h' → V z Y R Q (pc + 1) L st h' sz kc nc) : V z Y R Q pc L (.int (I x) :: .int (I i) :: .ref (n) :: st) h sz kc nc := by
  subst hk
  exact R_ast_NW hd hm (by omega) (fun h2 hm2 => kk h2 (by rw [Int.toNat_natCast] at hm2; exact hm2))
theorem R_aldk_SD {i : Int} (k : Nat) (hd : decode Y.2.1 pc = .ok (.iaload, 1)) (hm : MS g r n s l sp nu rs rm sc mk km T RA RD MA NW SD KP h) (hk : i = (k : Int)) (hi : k < 42) (kk : V z Y R Q (pc + 1) L (.int (I (SD k)) :: st) h sz kc nc) : V z Y R Q pc L (.int (I i) :: .ref (s) :: st) h sz kc nc := by
  subst hk
  exact R_ald_SD hd hm (by omega) (by rw [Int.toNat_natCast]; exact kk)
theorem R_astk_SD {i x : Int} (k : Nat) (hd : decode Y.2.1 pc = .ok (.iastore, 1)) (hm : MS g r n s l sp nu rs rm sc mk km T RA RD MA NW SD KP h) (hk : i = (k : Int)) (hi : k < 42) (kk : ∀ h' : AH, MS g r n s l sp nu rs rm sc mk km T RA RD MA NW (va_up SD k x) KP h' → V z Y R Q (pc + 1) L st h' sz kc nc) : V z Y R Q pc L (.int (I x) :: .int (I i) :: .ref (s) :: st) h sz kc nc := by
  subst hk
  exact R_ast_SD hd hm (by omega) (fun h2 hm2 => kk h2 (by rw [Int.toNat_natCast] at hm2; exact hm2))
theorem R_aldk_KP {i : Int} (k : Nat) (hd : decode Y.2.1 pc = .ok (.iaload, 1)) (hm : MS g r n s l sp nu rs rm sc mk km T RA RD MA NW SD KP h) (hk : i = (k : Int)) (hi : k < 252) (kk : V z Y R Q (pc + 1) L (.int (I (KP k)) :: st) h sz kc nc) : V z Y R Q pc L (.int (I i) :: .ref (r + 7) :: st) h sz kc nc := by
  subst hk
  exact R_ald_KP hd hm (by omega) (by rw [Int.toNat_natCast]; exact kk)
theorem R_astk_KP {i x : Int} (k : Nat) (hd : decode Y.2.1 pc = .ok (.iastore, 1)) (hm : MS g r n s l sp nu rs rm sc mk km T RA RD MA NW SD KP h) (hk : i = (k : Int)) (hi : k < 252) (kk : ∀ h' : AH, MS g r n s l sp nu rs rm sc mk km T RA RD MA NW SD (va_up KP k x) h' → V z Y R Q (pc + 1) L st h' sz kc nc) : V z Y R Q pc L (.int (I x) :: .int (I i) :: .ref (r + 7) :: st) h sz kc nc := by
  subst hk
  exact R_ast_KP hd hm (by omega) (fun h2 hm2 => kk h2 (by rw [Int.toNat_natCast] at hm2; exact hm2))
end Rrules
end
section
/-! THE REFERENCE, first rows: in, clearText, letterHere, append, beginRead, takeRead -/
set_option maxHeartbeats 4000000 in
set_option maxRecDepth 100000 in
/-- in(v, lo, hi) -/
theorem m8_in {z : ZG} {d sz : Nat} {h : AH} {v lo hi : Int} (hv : -9223372036854775808 ≤ v ∧ v < 9223372036854775808) (hl : -9223372036854775808 ≤ lo ∧ lo < 9223372036854775808) (hh : -9223372036854775808 ≤ hi ∧ hi < 9223372036854775808) : M z YX8_in d 0 0 [.long (J v), .long (J lo), .long (J hi)] h sz (fun w h' sz' => ∃ t : Int, w = some (.int (I t)) ∧ ((t = 1 ∧ lo ≤ v ∧ v ≤ hi) ∨ (t = 0 ∧ ¬ (lo ≤ v ∧ v ≤ hi))) ∧ h' = h ∧ sz' = sz) := by
  refine M.of (by decide +kernel) (Nat.le_of_ble_eq_true rfl) ?_
  refine V_lload_n dX8_in_0 rfl ?_
  refine V_lload_n dX8_in_1 rfl ?_
  refine J_lcmp_lt (tgt := 17) dX8_in_2 dX8_in_3 (by decide) (by omega) (by omega) (fun c2 => ?_) (fun c2 => ?_)
  · refine J_iconst dX8_in_17 ?_
    exact V_iret dX8_in_18 rfl rfl ⟨Nat.zero_le _, Nat.zero_le _⟩ ⟨_, rfl, by omega, rfl, rfl⟩
  · refine V_lload_n dX8_in_6 rfl ?_
    refine V_lload dX8_in_7 rfl ?_
    refine J_lcmp_gt (tgt := 17) dX8_in_9 dX8_in_10 (by decide) (by omega) (by omega) (fun c9 => ?_) (fun c9 => ?_)
    · refine J_iconst dX8_in_17 ?_
      exact V_iret dX8_in_18 rfl rfl ⟨Nat.zero_le _, Nat.zero_le _⟩ ⟨_, rfl, by omega, rfl, rfl⟩
    · refine J_iconst dX8_in_13 ?_
      refine V_goto (tgt := 18) dX8_in_14 (by decide) ?_
      exact V_iret dX8_in_18 rfl rfl ⟨Nat.zero_le _, Nat.zero_le _⟩ ⟨_, rfl, by omega, rfl, rfl⟩
set_option maxHeartbeats 4000000 in
set_option maxRecDepth 100000 in
theorem m8_clearText {z : ZG} {d sz r n s : Nat} {g h : AH} {l sp nu rs rm sc mk km : Int} {T RA RD MA NW SD KP : Nat → Int} (hm : MS g r n s l sp nu rs rm sc mk km T RA RD MA NW SD KP h) : M z YX8_clearText d 0 0 [.ref r] h sz (fun w h' sz' => w = some (.int (I l)) ∧ sz' = sz ∧ MS g r n s 0 sp nu rs rm sc mk km T RA RD MA NW SD KP h') := by
  refine M.of (by decide +kernel) (Nat.le_of_ble_eq_true rfl) ?_
  refine V_aload_n dX8_clearText_0 rfl ?_
  refine V_get dX8_clearText_1 fX8_61 hm.1 rfl ?_
  refine V_istore_n dX8_clearText_4 (Nat.le_of_ble_eq_true rfl) ?_
  refine V_aload_n dX8_clearText_5 rfl ?_
  refine J_iconst dX8_clearText_6 ?_
  refine R_put_1 dX8_clearText_7 fX8_61 hm (fun h hm => ?_)
  refine V_iload_n dX8_clearText_10 rfl ?_
  exact V_iret dX8_clearText_11 rfl rfl ⟨Nat.zero_le _, Nat.zero_le _⟩ ⟨rfl, rfl, hm⟩
/-- the sign at the spot, 0 behind the text -/
def lh (T : Nat → Int) (l sp : Int) : Int := if sp < l then T sp.toNat else 0
theorem lh_rg {T : Nat → Int} {l sp : Int} (hT : ∀ j, j < 200 → 0 ≤ T j ∧ T j ≤ 126) (hl : 0 ≤ sp ∧ l ≤ 200) : 0 ≤ lh T l sp ∧ lh T l sp ≤ 126 := by
  unfold lh
  split
  · exact hT _ (by omega)
  · omega
set_option maxHeartbeats 4000000 in
set_option maxRecDepth 100000 in
theorem m8_letterHere {z : ZG} {d sz r n s : Nat} {g h : AH} {l sp nu rs rm sc mk km : Int} {T RA RD MA NW SD KP : Nat → Int} (hm : MS g r n s l sp nu rs rm sc mk km T RA RD MA NW SD KP h) (hl : 0 ≤ l ∧ l ≤ 200) (hs : 0 ≤ sp ∧ sp < 100000) : M z YX8_letterHere d 0 0 [.ref r] h sz (fun w h' sz' => w = some (.int (I (lh T l sp))) ∧ h' = h ∧ sz' = sz) := by
  refine M.of (by decide +kernel) (Nat.le_of_ble_eq_true rfl) ?_
  refine V_aload_n dX8_letterHere_0 rfl ?_
  refine V_get dX8_letterHere_1 fX8_64 hm.1 rfl ?_
  refine V_aload_n dX8_letterHere_4 rfl ?_
  refine V_get dX8_letterHere_5 fX8_61 hm.1 rfl ?_
  refine J_icmp_ge (tgt := 23) dX8_letterHere_8 (by decide) (by omega) (by omega) (fun c8 => ?_) (fun c8 => ?_)
  · refine J_iconst dX8_letterHere_23 ?_
    exact V_iret dX8_letterHere_24 rfl rfl ⟨Nat.zero_le _, Nat.zero_le _⟩ ⟨by unfold lh; first | rw [if_pos (by omega)] | rw [if_neg (by omega)], rfl, rfl⟩
  · refine V_aload_n dX8_letterHere_11 rfl ?_
    refine V_get dX8_letterHere_12 fX8_7 hm.1 rfl ?_
    refine V_aload_n dX8_letterHere_15 rfl ?_
    refine V_get dX8_letterHere_16 fX8_64 hm.1 rfl ?_
    refine R_ald_T dX8_letterHere_19 hm (by omega) ?_
    refine V_goto (tgt := 24) dX8_letterHere_20 (by decide) ?_
    exact V_iret dX8_letterHere_24 rfl rfl ⟨Nat.zero_le _, Nat.zero_le _⟩ ⟨by unfold lh; first | rw [if_pos (by omega)] | rw [if_neg (by omega)], rfl, rfl⟩
set_option maxHeartbeats 4000000 in
set_option maxRecDepth 100000 in
theorem m8_append {z : ZG} {d sz r n s : Nat} {g h : AH} {l sp nu rs rm sc mk km : Int} {T RA RD MA NW SD KP : Nat → Int} {c : Int} (hc : -2147483648 ≤ c ∧ c < 2147483648) (hm : MS g r n s l sp nu rs rm sc mk km T RA RD MA NW SD KP h) (hl : 0 ≤ l ∧ l ≤ 200) : M z YX8_append (d + 1) 0 0 [.ref r, .int (I c)] h sz (fun w h' sz' => ∃ (res l2 : Int) (T2 : Nat → Int), w = some (.int (I res)) ∧ sz' = sz ∧ MS g r n s l2 sp nu rs rm sc mk km T2 RA RD MA NW SD KP h' ∧ ((¬ (32 ≤ c ∧ c ≤ 126) ∧ res = -1 ∧ l2 = l ∧ T2 = T) ∨ ((32 ≤ c ∧ c ≤ 126) ∧ l = 200 ∧ res = -3 ∧ l2 = l ∧ T2 = T) ∨ ((32 ≤ c ∧ c ≤ 126) ∧ l ≠ 200 ∧ res = l + 1 ∧ l2 = l + 1 ∧ T2 = va_up T l.toNat c))) := by
  refine M.of (by decide +kernel) (Nat.le_of_ble_eq_true rfl) ?_
  refine V_iload_n dX8_append_0 rfl ?_
  refine J_i2l dX8_append_1 (by omega) ?_
  refine J_ldc2 32 dX8_append_2 cX8_53 rfl ?_
  refine J_ldc2 126 dX8_append_5 cX8_55 rfl ?_
  refine V_callS (Y' := YX8_in) dX8_append_8 lX8_57 gX8_in (m8_in (by omega) (by omega) (by omega)) rfl rfl (Nat.le_of_ble_eq_true rfl) ⟨Nat.zero_le _, Nat.zero_le _⟩ (fun v h1 sz1 hq => ?_)
  obtain ⟨t8, rfl, ht8, rfl, rfl⟩ := hq
  refine J_if_ne (tgt := 16) dX8_append_11 (by decide) (by omega) (fun c11 => ?_) (fun c11 => ?_)
  · refine V_aload_n dX8_append_16 rfl ?_
    refine V_get dX8_append_17 fX8_61 hm.1 rfl ?_
    refine J_sipush dX8_append_20 (by decide) ?_
    refine J_icmp_ne (tgt := 29) dX8_append_23 (by decide) (by omega) (by omega) (fun c23 => ?_) (fun c23 => ?_)
    · refine V_aload_n dX8_append_29 rfl ?_
      refine V_get dX8_append_30 fX8_7 hm.1 rfl ?_
      refine V_aload_n dX8_append_33 rfl ?_
      refine V_get dX8_append_34 fX8_61 hm.1 rfl ?_
      refine V_iload_n dX8_append_37 rfl ?_
      refine R_ast_T dX8_append_38 hm (by omega) (fun h hm => ?_)
      refine V_aload_n dX8_append_39 rfl ?_
      refine V_dup dX8_append_40 rfl ?_
      refine V_get dX8_append_41 fX8_61 hm.1 rfl ?_
      refine J_iconst dX8_append_44 ?_
      refine J_iadd dX8_append_45 ?_
      refine R_put_1 dX8_append_46 fX8_61 hm (fun h hm => ?_)
      refine V_aload_n dX8_append_49 rfl ?_
      refine V_get dX8_append_50 fX8_61 hm.1 rfl ?_
      exact V_iret dX8_append_53 rfl rfl ⟨Nat.zero_le _, Nat.zero_le _⟩ ⟨_, _, _, rfl, rfl, hm, Or.inr (Or.inr ⟨by omega, by omega, rfl, rfl, rfl⟩)⟩
    · refine J_bipush dX8_append_26 (by decide) ?_
      exact V_iret dX8_append_28 rfl rfl ⟨Nat.zero_le _, Nat.zero_le _⟩ ⟨_, _, _, rfl, rfl, hm, Or.inr (Or.inl ⟨by omega, by omega, rfl, rfl, rfl⟩)⟩
  · refine J_iconst dX8_append_14 ?_
    exact V_iret dX8_append_15 rfl rfl ⟨Nat.zero_le _, Nat.zero_le _⟩ ⟨_, _, _, rfl, rfl, hm, Or.inl ⟨by omega, rfl, rfl, rfl⟩⟩
def rd0 (j : Nat) : Int := if j = 5 then 4 else if j = 6 then 22 else 0
set_option maxHeartbeats 4000000 in
set_option maxRecDepth 100000 in
theorem l8_beginRead {z : ZG} {d sz r n s : Nat} {g : AH} {l sp nu  sc mk km : Int} {T RA MA NW SD KP : Nat → Int} : ∀ (f : Nat) (i : Int) (RD : Nat → Int) (h : AH), 0 ≤ i → i ≤ 42 → 42 - i < f → (∀ j : Nat, (j : Int) < i → RD j = 0) → MS g r n s l sp nu 0 0 sc mk km T RA RD MA NW SD KP h → V z YX8_beginRead (zroom d 0 0) (fun w h' sz' => w = none ∧ sz' = sz ∧ MS g r n s l sp nu 0 0 sc mk km T RA rd0 MA NW SD KP h') 12 [some (.ref r), some (.int (I i))] [] h sz 0 0 := by
  intro f
  induction f with
  | zero => intro i RD h h1 h2 h3; omega
  | succ f ih =>
    intro i RD h h1 h2 h3 hz hm
    refine V_iload_n dX8_beginRead_12 rfl ?_
    refine J_bipush dX8_beginRead_13 (by decide) ?_
    refine J_icmp_ge (tgt := 31) dX8_beginRead_15 (by decide) (by omega) (by omega) (fun c15 => ?_) (fun c15 => ?_)
    · refine V_aload_n dX8_beginRead_31 rfl ?_
      refine V_get dX8_beginRead_32 fX8_16 hm.1 rfl ?_
      refine J_iconst dX8_beginRead_35 ?_
      refine J_iconst dX8_beginRead_36 ?_
      refine R_astk_RD 5 dX8_beginRead_37 hm rfl (by decide) (fun h hm => ?_)
      refine V_aload_n dX8_beginRead_38 rfl ?_
      refine V_get dX8_beginRead_39 fX8_16 hm.1 rfl ?_
      refine J_bipush dX8_beginRead_42 (by decide) ?_
      refine J_bipush dX8_beginRead_44 (by decide) ?_
      refine R_astk_RD 6 dX8_beginRead_46 hm rfl (by decide) (fun h hm => ?_)
      exact V_ret dX8_beginRead_47 rfl ⟨Nat.zero_le _, Nat.zero_le _⟩ ⟨rfl, rfl, hm.eRD (fun j hj => by have hz := hz j (by omega); unfold rd0; simp only [va_up]; split <;> (try split) <;> simp_all)⟩
    · refine V_aload_n dX8_beginRead_18 rfl ?_
      refine V_get dX8_beginRead_19 fX8_16 hm.1 rfl ?_
      refine V_iload_n dX8_beginRead_22 rfl ?_
      refine J_iconst dX8_beginRead_23 ?_
      refine R_ast_RD dX8_beginRead_24 hm (by omega) (fun h hm => ?_)
      refine J_iinc dX8_beginRead_25 rfl ?_
      refine V_goto (tgt := 12) dX8_beginRead_28 (by decide) ?_
      refine ih (i + 1) _ h (by omega) (by omega) (by omega) ?_ hm
      intro j hj
      simp only [va_up]
      split
      · rfl
      · exact hz j (by omega)
set_option maxHeartbeats 4000000 in
set_option maxRecDepth 100000 in
theorem m8_beginRead {z : ZG} {d sz r n s : Nat} {g h : AH} {l sp nu rs rm sc mk km : Int} {T RA RD MA NW SD KP : Nat → Int} (hm : MS g r n s l sp nu rs rm sc mk km T RA RD MA NW SD KP h) : M z YX8_beginRead d 0 0 [.ref r] h sz (fun w h' sz' => w = none ∧ sz' = sz ∧ MS g r n s l sp nu 0 0 sc mk km T RA rd0 MA NW SD KP h') := by
  refine M.of (by decide +kernel) (Nat.le_of_ble_eq_true rfl) ?_
  refine V_aload_n dX8_beginRead_0 rfl ?_
  refine J_iconst dX8_beginRead_1 ?_
  refine R_put_4 dX8_beginRead_2 fX8_34 hm (fun h hm => ?_)
  refine V_aload_n dX8_beginRead_5 rfl ?_
  refine J_iconst dX8_beginRead_6 ?_
  refine R_put_5 dX8_beginRead_7 fX8_38 hm (fun h hm => ?_)
  refine J_iconst dX8_beginRead_10 ?_
  refine V_istore_n dX8_beginRead_11 (Nat.le_of_ble_eq_true rfl) ?_
  exact l8_beginRead 43 0 _ _ (by omega) (by omega) (by omega) (fun j hj => by omega) hm
end
section
/-! THE REFERENCE: rows copied (takeRead, keeps, undo, aside), dirt, the log, counting -/
set_option maxHeartbeats 4000000 in
set_option maxRecDepth 100000 in
theorem l8_aside_2 {z : ZG} {d sz r n s : Nat} {g : AH} {l sp nu rs rm sc mk km : Int} {T RA RD MA NW KP : Nat → Int} {SD0 : Nat → Int} : ∀ (f : Nat) (i : Nat) (SD : Nat → Int) (h : AH), i ≤ 42 → 42 - i < f → (∀ j : Nat, j < 42 → SD j = if j < i then NW j else SD0 j) → MS g r n s l sp nu rs rm sc mk km T RA RD MA NW SD KP h → V z YX8_aside (zroom d 0 0) (fun w h' sz' => w = none ∧ sz' = sz ∧ MS g r n s l sp nu rs rm sc mk km T RA RD MA NW NW KP h') 2 [some (.ref r), some (.int (I (i : Int)))] [] h sz 0 0 := by
  intro f
  induction f with
  | zero => intro i SD h h1 h2; omega
  | succ f ih =>
    intro i SD h h1 h2 hz hm
    refine V_iload_n dX8_aside_2 rfl ?_
    refine J_bipush dX8_aside_3 (by decide) ?_
    refine J_icmp_ge (tgt := 26) dX8_aside_5 (by decide) (by omega) (by omega) (fun c5 => ?_) (fun c5 => ?_)
    · exact V_ret dX8_aside_26 rfl ⟨Nat.zero_le _, Nat.zero_le _⟩ ⟨rfl, rfl, hm.eSD (fun j hj => by rw [hz j hj, if_pos (by omega)])⟩
    · refine V_aload_n dX8_aside_8 rfl ?_
      refine V_get dX8_aside_9 fX8_25 hm.1 rfl ?_
      refine V_iload_n dX8_aside_12 rfl ?_
      refine V_aload_n dX8_aside_13 rfl ?_
      refine V_get dX8_aside_14 fX8_22 hm.1 rfl ?_
      refine V_iload_n dX8_aside_17 rfl ?_
      refine R_aldk_NW i dX8_aside_18 hm (by omega) (by omega) ?_
      refine R_astk_SD i dX8_aside_19 hm (by omega) (by omega) (fun h hm => ?_)
      refine J_iinc dX8_aside_20 rfl ?_
      refine V_goto (tgt := 2) dX8_aside_23 (by decide) ?_
      refine ih (i + 1) _ h (by omega) (by omega) ?_ hm
      intro j hj
      have e := hz j hj
      simp only [va_up]
      by_cases q1 : j = i
      · subst q1; rw [if_pos rfl, if_pos (by omega)]
      · rw [if_neg q1, e]; split <;> split <;> first | rfl | omega
set_option maxHeartbeats 4000000 in
set_option maxRecDepth 100000 in
theorem m8_aside {z : ZG} {d sz r n s : Nat} {g h : AH} {l sp nu rs rm sc mk km : Int} {T RA RD MA NW SD KP : Nat → Int} (hm : MS g r n s l sp nu rs rm sc mk km T RA RD MA NW SD KP h) : M z YX8_aside d 0 0 [.ref r] h sz (fun w h' sz' => w = none ∧ sz' = sz ∧ MS g r n s l sp nu rs rm sc mk km T RA RD MA NW NW KP h') := by
  refine M.of (by decide +kernel) (Nat.le_of_ble_eq_true rfl) ?_
  refine J_iconst dX8_aside_0 ?_
  refine V_istore_n dX8_aside_1 (Nat.le_of_ble_eq_true rfl) ?_
  exact l8_aside_2 (SD0 := SD) 43 0 _ _ (by omega) (by omega) (fun j hj => by rw [if_neg (by omega)]) hm
set_option maxHeartbeats 4000000 in
set_option maxRecDepth 100000 in
theorem l8_takeRead_44 {z : ZG} {d sz r n s : Nat} {g : AH} {l sp nu rs rm km : Int} {T RA RD SD KP : Nat → Int} {NW0 : Nat → Int} : ∀ (f : Nat) (i : Nat) (NW : Nat → Int) (h : AH), i ≤ 42 → 42 - i < f → (∀ j : Nat, j < 42 → NW j = if j < i then RD j else NW0 j) → MS g r n s l sp nu rs rm rs rm km T RA RD RA NW SD KP h → V z YX8_takeRead (zroom d 0 0) (fun w h' sz' => w = none ∧ sz' = sz ∧ MS g r n s l sp nu rs rm rs rm 0 T RA RD RA RD SD KP h') 44 [some (.ref r), some (.int (I (i : Int)))] [] h sz 0 0 := by
  intro f
  induction f with
  | zero => intro i NW h h1 h2; omega
  | succ f ih =>
    intro i NW h h1 h2 hz hm
    refine V_iload_n dX8_takeRead_44 rfl ?_
    refine J_bipush dX8_takeRead_45 (by decide) ?_
    refine J_icmp_ge (tgt := 68) dX8_takeRead_47 (by decide) (by omega) (by omega) (fun c47 => ?_) (fun c47 => ?_)
    · refine V_aload_n dX8_takeRead_68 rfl ?_
      refine J_iconst dX8_takeRead_69 ?_
      refine R_put_14 dX8_takeRead_70 fX8_50 hm (fun h hm => ?_)
      exact V_ret dX8_takeRead_73 rfl ⟨Nat.zero_le _, Nat.zero_le _⟩ ⟨rfl, rfl, hm.eNW (fun j hj => by rw [hz j hj, if_pos (by omega)])⟩
    · refine V_aload_n dX8_takeRead_50 rfl ?_
      refine V_get dX8_takeRead_51 fX8_22 hm.1 rfl ?_
      refine V_iload_n dX8_takeRead_54 rfl ?_
      refine V_aload_n dX8_takeRead_55 rfl ?_
      refine V_get dX8_takeRead_56 fX8_16 hm.1 rfl ?_
      refine V_iload_n dX8_takeRead_59 rfl ?_
      refine R_aldk_RD i dX8_takeRead_60 hm (by omega) (by omega) ?_
      refine R_astk_NW i dX8_takeRead_61 hm (by omega) (by omega) (fun h hm => ?_)
      refine J_iinc dX8_takeRead_62 rfl ?_
      refine V_goto (tgt := 44) dX8_takeRead_65 (by decide) ?_
      refine ih (i + 1) _ h (by omega) (by omega) ?_ hm
      intro j hj
      have e := hz j hj
      simp only [va_up]
      by_cases q1 : j = i
      · subst q1; rw [if_pos rfl, if_pos (by omega)]
      · rw [if_neg q1, e]; split <;> split <;> first | rfl | omega
set_option maxHeartbeats 4000000 in
set_option maxRecDepth 100000 in
theorem l8_takeRead_18 {z : ZG} {d sz r n s : Nat} {g : AH} {l sp nu rs rm km : Int} {T RA RD NW SD KP : Nat → Int} {MA0 : Nat → Int} : ∀ (f : Nat) (i : Nat) (MA : Nat → Int) (h : AH), i ≤ 6 → 6 - i < f → (∀ j : Nat, j < 6 → MA j = if j < i then RA j else MA0 j) → MS g r n s l sp nu rs rm rs rm km T RA RD MA NW SD KP h → V z YX8_takeRead (zroom d 0 0) (fun w h' sz' => w = none ∧ sz' = sz ∧ MS g r n s l sp nu rs rm rs rm 0 T RA RD RA RD SD KP h') 18 [some (.ref r), some (.int (I (i : Int)))] [] h sz 0 0 := by
  intro f
  induction f with
  | zero => intro i MA h h1 h2; omega
  | succ f ih =>
    intro i MA h h1 h2 hz hm
    refine V_iload_n dX8_takeRead_18 rfl ?_
    refine J_bipush dX8_takeRead_19 (by decide) ?_
    refine J_icmp_ge (tgt := 42) dX8_takeRead_21 (by decide) (by omega) (by omega) (fun c21 => ?_) (fun c21 => ?_)
    · refine J_iconst dX8_takeRead_42 ?_
      refine V_istore_n dX8_takeRead_43 (Nat.le_of_ble_eq_true rfl) ?_
      exact l8_takeRead_44 (NW0 := NW) 43 0 _ _ (by omega) (by omega) (fun j hj => by rw [if_neg (by omega)]) (hm.eMA (fun j hj => by rw [hz j hj, if_pos (by omega)]))
    · refine V_aload_n dX8_takeRead_24 rfl ?_
      refine V_get dX8_takeRead_25 fX8_19 hm.1 rfl ?_
      refine V_iload_n dX8_takeRead_28 rfl ?_
      refine V_aload_n dX8_takeRead_29 rfl ?_
      refine V_get dX8_takeRead_30 fX8_13 hm.1 rfl ?_
      refine V_iload_n dX8_takeRead_33 rfl ?_
      refine R_aldk_RA i dX8_takeRead_34 hm (by omega) (by omega) ?_
      refine R_astk_MA i dX8_takeRead_35 hm (by omega) (by omega) (fun h hm => ?_)
      refine J_iinc dX8_takeRead_36 rfl ?_
      refine V_goto (tgt := 18) dX8_takeRead_39 (by decide) ?_
      refine ih (i + 1) _ h (by omega) (by omega) ?_ hm
      intro j hj
      have e := hz j hj
      simp only [va_up]
      by_cases q1 : j = i
      · subst q1; rw [if_pos rfl, if_pos (by omega)]
      · rw [if_neg q1, e]; split <;> split <;> first | rfl | omega
set_option maxHeartbeats 4000000 in
set_option maxRecDepth 100000 in
theorem m8_takeRead {z : ZG} {d sz r n s : Nat} {g h : AH} {l sp nu rs rm sc mk km : Int} {T RA RD MA NW SD KP : Nat → Int} (hm : MS g r n s l sp nu rs rm sc mk km T RA RD MA NW SD KP h) : M z YX8_takeRead d 0 0 [.ref r] h sz (fun w h' sz' => w = none ∧ sz' = sz ∧ MS g r n s l sp nu rs rm rs rm 0 T RA RD RA RD SD KP h') := by
  refine M.of (by decide +kernel) (Nat.le_of_ble_eq_true rfl) ?_
  refine V_aload_n dX8_takeRead_0 rfl ?_
  refine V_aload_n dX8_takeRead_1 rfl ?_
  refine V_get dX8_takeRead_2 fX8_34 hm.1 rfl ?_
  refine R_put_8 dX8_takeRead_5 fX8_44 hm (fun h hm => ?_)
  refine V_aload_n dX8_takeRead_8 rfl ?_
  refine V_aload_n dX8_takeRead_9 rfl ?_
  refine V_get dX8_takeRead_10 fX8_38 hm.1 rfl ?_
  refine R_put_9 dX8_takeRead_13 fX8_47 hm (fun h hm => ?_)
  refine J_iconst dX8_takeRead_16 ?_
  refine V_istore_n dX8_takeRead_17 (Nat.le_of_ble_eq_true rfl) ?_
  exact l8_takeRead_18 (MA0 := MA) 7 0 _ _ (by omega) (by omega) (fun j hj => by rw [if_neg (by omega)]) hm
def kS (KP : Nat → Int) (j : Nat) : Int := if j < 210 then KP (42 + j) else KP j
def kP (KP NW : Nat → Int) (k j : Nat) : Int := if 42 * k ≤ j ∧ j < 42 * k + 42 then NW (j - 42 * k) else KP j
/-- the states kept, after one more -/
def kq (km : Int) (KP NW : Nat → Int) (km2 : Int) (KP2 : Nat → Int) : Prop := (km = 6 ∧ km2 = 6 ∧ KP2 = kP (kS KP) NW 5) ∨ (km < 6 ∧ km2 = km + 1 ∧ KP2 = kP KP NW km.toNat)
set_option maxHeartbeats 4000000 in
set_option maxRecDepth 100000 in
theorem l8_keeps_51 {z : ZG} {d sz r n s : Nat} {g : AH} {l sp nu rs rm sc mk : Int} {T RA RD MA NW SD : Nat → Int} {KP0 : Nat → Int} {k : Nat} (hk : k ≤ 5) : ∀ (f : Nat) (i : Nat) (KP : Nat → Int) (h : AH), i ≤ 42 → 42 - i < f → (∀ j : Nat, j < 252 → KP j = if 42 * k ≤ j ∧ j < 42 * k + i then NW (j - 42 * k) else KP0 j) → MS g r n s l sp nu rs rm sc mk k T RA RD MA NW SD KP h → V z YX8_keeps (zroom d 0 0) (fun w h' sz' => w = none ∧ sz' = sz ∧ MS g r n s l sp nu rs rm sc mk (k + 1) T RA RD MA NW SD (kP KP0 NW k) h') 51 [some (.ref r), some (.int (I (i : Int)))] [] h sz 0 0 := by
  intro f
  induction f with
  | zero => intro i KP h h1 h2; omega
  | succ f ih =>
    intro i KP h h1 h2 hz hm
    refine V_iload_n dX8_keeps_51 rfl ?_
    refine J_bipush dX8_keeps_52 (by decide) ?_
    refine J_icmp_ge (tgt := 83) dX8_keeps_54 (by decide) (by omega) (by omega) (fun c54 => ?_) (fun c54 => ?_)
    · refine V_aload_n dX8_keeps_83 rfl ?_
      refine V_dup dX8_keeps_84 rfl ?_
      refine V_get dX8_keeps_85 fX8_50 hm.1 rfl ?_
      refine J_iconst dX8_keeps_88 ?_
      refine J_iadd dX8_keeps_89 ?_
      refine R_put_14 dX8_keeps_90 fX8_50 hm (fun h hm => ?_)
      exact V_ret dX8_keeps_93 rfl ⟨Nat.zero_le _, Nat.zero_le _⟩ ⟨rfl, rfl, hm.eKP (fun j hj => by rw [hz j hj, show i = 42 by omega]; rfl)⟩
    · refine V_aload_n dX8_keeps_57 rfl ?_
      refine V_get dX8_keeps_58 fX8_28 hm.1 rfl ?_
      refine J_bipush dX8_keeps_61 (by decide) ?_
      refine V_aload_n dX8_keeps_63 rfl ?_
      refine V_get dX8_keeps_64 fX8_50 hm.1 rfl ?_
      refine J_imul dX8_keeps_67 ?_
      refine V_iload_n dX8_keeps_68 rfl ?_
      refine J_iadd dX8_keeps_69 ?_
      refine V_aload_n dX8_keeps_70 rfl ?_
      refine V_get dX8_keeps_71 fX8_22 hm.1 rfl ?_
      refine V_iload_n dX8_keeps_74 rfl ?_
      refine R_aldk_NW i dX8_keeps_75 hm (by omega) (by omega) ?_
      refine R_astk_KP (42 * k + i) dX8_keeps_76 hm (by omega) (by omega) (fun h hm => ?_)
      refine J_iinc dX8_keeps_77 rfl ?_
      refine V_goto (tgt := 51) dX8_keeps_80 (by decide) ?_
      refine ih (i + 1) _ h (by omega) (by omega) ?_ hm
      intro j hj
      have e := hz j hj
      simp only [va_up]
      by_cases q1 : j = 42 * k + i
      · subst q1; rw [if_pos rfl, if_pos (by omega)]; congr 1; omega
      · rw [if_neg q1, e]; split <;> split <;> first | rfl | omega
set_option maxHeartbeats 4000000 in
set_option maxRecDepth 100000 in
theorem l8_keeps_11 {z : ZG} {d sz r n s : Nat} {g : AH} {l sp nu rs rm sc mk : Int} {T RA RD MA NW SD : Nat → Int} {KP0 : Nat → Int} : ∀ (f : Nat) (i : Nat) (KP : Nat → Int) (h : AH), i ≤ 210 → 210 - i < f → (∀ j : Nat, j < 252 → KP j = if j < i then KP0 (42 + j) else KP0 j) → MS g r n s l sp nu rs rm sc mk 6 T RA RD MA NW SD KP h → V z YX8_keeps (zroom d 0 0) (fun w h' sz' => w = none ∧ sz' = sz ∧ MS g r n s l sp nu rs rm sc mk 6 T RA RD MA NW SD (kP (kS KP0) NW 5) h') 11 [some (.ref r), some (.int (I (i : Int)))] [] h sz 0 0 := by
  intro f
  induction f with
  | zero => intro i KP h h1 h2; omega
  | succ f ih =>
    intro i KP h h1 h2 hz hm
    refine V_iload_n dX8_keeps_11 rfl ?_
    refine J_sipush dX8_keeps_12 (by decide) ?_
    refine J_icmp_ge (tgt := 39) dX8_keeps_15 (by decide) (by omega) (by omega) (fun c15 => ?_) (fun c15 => ?_)
    · refine V_aload_n dX8_keeps_39 rfl ?_
      refine V_dup dX8_keeps_40 rfl ?_
      refine V_get dX8_keeps_41 fX8_50 hm.1 rfl ?_
      refine J_iconst dX8_keeps_44 ?_
      refine J_isub dX8_keeps_45 ?_
      refine R_put_14 dX8_keeps_46 fX8_50 hm (fun h hm => ?_)
      refine J_iconst dX8_keeps_49 ?_
      refine V_istore_n dX8_keeps_50 (Nat.le_of_ble_eq_true rfl) ?_
      exact l8_keeps_51 (KP0 := kS KP0) (k := 5) (by omega) 43 0 _ _ (by omega) (by omega) (fun j hj => by rw [if_neg (by omega), hz j hj]; unfold kS; congr 1; apply propext; omega) hm
    · refine V_aload_n dX8_keeps_18 rfl ?_
      refine V_get dX8_keeps_19 fX8_28 hm.1 rfl ?_
      refine V_iload_n dX8_keeps_22 rfl ?_
      refine V_aload_n dX8_keeps_23 rfl ?_
      refine V_get dX8_keeps_24 fX8_28 hm.1 rfl ?_
      refine J_bipush dX8_keeps_27 (by decide) ?_
      refine V_iload_n dX8_keeps_29 rfl ?_
      refine J_iadd dX8_keeps_30 ?_
      refine R_aldk_KP (42 + i) dX8_keeps_31 hm (by omega) (by omega) ?_
      refine R_astk_KP i dX8_keeps_32 hm (by omega) (by omega) (fun h hm => ?_)
      refine J_iinc dX8_keeps_33 rfl ?_
      refine V_goto (tgt := 11) dX8_keeps_36 (by decide) ?_
      refine ih (i + 1) _ h (by omega) (by omega) ?_ hm
      intro j hj
      have e := hz j hj
      simp only [va_up]
      by_cases q1 : j = i
      · subst q1; rw [if_pos rfl, if_pos (by omega)]; rw [hz (42 + j) (by omega), if_neg (by omega)]
      · rw [if_neg q1, e]; split <;> split <;> first | rfl | omega
set_option maxHeartbeats 4000000 in
set_option maxRecDepth 100000 in
theorem m8_keeps {z : ZG} {d sz r n s : Nat} {g h : AH} {l sp nu rs rm sc mk km : Int} {T RA RD MA NW SD KP : Nat → Int} (hm : MS g r n s l sp nu rs rm sc mk km T RA RD MA NW SD KP h) (hk : 0 ≤ km ∧ km ≤ 6) : M z YX8_keeps d 0 0 [.ref r] h sz (fun w h' sz' => w = none ∧ sz' = sz ∧ ∃ (km2 : Int) (KP2 : Nat → Int), kq km KP NW km2 KP2 ∧ MS g r n s l sp nu rs rm sc mk km2 T RA RD MA NW SD KP2 h') := by
  refine M.of (by decide +kernel) (Nat.le_of_ble_eq_true rfl) ?_
  refine V_aload_n dX8_keeps_0 rfl ?_
  refine V_get dX8_keeps_1 fX8_50 hm.1 rfl ?_
  refine J_bipush dX8_keeps_4 (by decide) ?_
  refine J_icmp_ne (tgt := 49) dX8_keeps_6 (by decide) (by omega) (by omega) (fun c6 => ?_) (fun c6 => ?_)
  · refine J_iconst dX8_keeps_49 ?_
    refine V_istore_n dX8_keeps_50 (Nat.le_of_ble_eq_true rfl) ?_
    obtain ⟨k, rfl⟩ : ∃ k : Nat, km = k := ⟨km.toNat, by omega⟩
    refine V_mono ?_ (l8_keeps_51 (KP0 := KP) (k := k) (by omega) 43 0 _ _ (by omega) (by omega) (fun j hj => by rw [if_neg (by omega)]) hm)
    rintro w h2 sz2 ⟨rfl, rfl, hm⟩
    exact ⟨rfl, rfl, _, _, Or.inr ⟨by omega, rfl, by rw [Int.toNat_natCast]⟩, hm⟩
  · refine J_iconst dX8_keeps_9 ?_
    refine V_istore_n dX8_keeps_10 (Nat.le_of_ble_eq_true rfl) ?_
    obtain rfl : km = 6 := by omega
    refine V_mono ?_ (l8_keeps_11 (KP0 := KP) 211 0 _ _ (by omega) (by omega) (fun j hj => by rw [if_neg (by omega)]) hm)
    rintro w h2 sz2 ⟨rfl, rfl, hm⟩
    exact ⟨rfl, rfl, _, _, Or.inl ⟨rfl, rfl, rfl⟩, hm⟩
set_option maxHeartbeats 4000000 in
set_option maxRecDepth 100000 in
theorem l8_undo_22 {z : ZG} {d sz r n s : Nat} {g : AH} {l sp nu rs rm sc mk : Int} {T RA RD MA SD KP : Nat → Int} {NW0 : Nat → Int} {k : Nat} (hk : k ≤ 5) : ∀ (f : Nat) (i : Nat) (NW : Nat → Int) (h : AH), i ≤ 42 → 42 - i < f → (∀ j : Nat, j < 42 → NW j = if j < i then KP (42 * k + j) else NW0 j) → MS g r n s l sp nu rs rm sc mk k T RA RD MA NW SD KP h → V z YX8_undo (zroom d 0 0) (fun w h' sz' => w = some (.int (I k)) ∧ sz' = sz ∧ MS g r n s l sp nu rs rm sc mk k T RA RD MA (fun j => KP (42 * k + j)) SD KP h') 22 [some (.ref r), some (.int (I (i : Int)))] [] h sz 0 0 := by
  intro f
  induction f with
  | zero => intro i NW h h1 h2; omega
  | succ f ih =>
    intro i NW h h1 h2 hz hm
    refine V_iload_n dX8_undo_22 rfl ?_
    refine J_bipush dX8_undo_23 (by decide) ?_
    refine J_icmp_ge (tgt := 54) dX8_undo_25 (by decide) (by omega) (by omega) (fun c25 => ?_) (fun c25 => ?_)
    · refine V_aload_n dX8_undo_54 rfl ?_
      refine V_get dX8_undo_55 fX8_50 hm.1 rfl ?_
      exact V_iret dX8_undo_58 rfl rfl ⟨Nat.zero_le _, Nat.zero_le _⟩ ⟨rfl, rfl, hm.eNW (fun j hj => by rw [hz j hj, if_pos (by omega)])⟩
    · refine V_aload_n dX8_undo_28 rfl ?_
      refine V_get dX8_undo_29 fX8_22 hm.1 rfl ?_
      refine V_iload_n dX8_undo_32 rfl ?_
      refine V_aload_n dX8_undo_33 rfl ?_
      refine V_get dX8_undo_34 fX8_28 hm.1 rfl ?_
      refine J_bipush dX8_undo_37 (by decide) ?_
      refine V_aload_n dX8_undo_39 rfl ?_
      refine V_get dX8_undo_40 fX8_50 hm.1 rfl ?_
      refine J_imul dX8_undo_43 ?_
      refine V_iload_n dX8_undo_44 rfl ?_
      refine J_iadd dX8_undo_45 ?_
      refine R_aldk_KP (42 * k + i) dX8_undo_46 hm (by omega) (by omega) ?_
      refine R_astk_NW i dX8_undo_47 hm (by omega) (by omega) (fun h hm => ?_)
      refine J_iinc dX8_undo_48 rfl ?_
      refine V_goto (tgt := 22) dX8_undo_51 (by decide) ?_
      refine ih (i + 1) _ h (by omega) (by omega) ?_ hm
      intro j hj
      have e := hz j hj
      simp only [va_up]
      by_cases q1 : j = i
      · subst q1; rw [if_pos rfl, if_pos (by omega)]
      · rw [if_neg q1, e]; split <;> split <;> first | rfl | omega
set_option maxHeartbeats 4000000 in
set_option maxRecDepth 100000 in
theorem m8_undo {z : ZG} {d sz r n s : Nat} {g h : AH} {l sp nu rs rm sc mk km : Int} {T RA RD MA NW SD KP : Nat → Int} (hm : MS g r n s l sp nu rs rm sc mk km T RA RD MA NW SD KP h) (hk : 0 ≤ km ∧ km ≤ 6) : M z YX8_undo d 0 0 [.ref r] h sz (fun w h' sz' => sz' = sz ∧ ((km = 0 ∧ w = some (.int (I (-2))) ∧ MS g r n s l sp nu rs rm sc mk km T RA RD MA NW SD KP h') ∨ (∃ k : Nat, km = k + 1 ∧ w = some (.int (I k)) ∧ MS g r n s l sp nu rs rm sc mk k T RA RD MA (fun j => KP (42 * k + j)) SD KP h'))) := by
  refine M.of (by decide +kernel) (Nat.le_of_ble_eq_true rfl) ?_
  refine V_aload_n dX8_undo_0 rfl ?_
  refine V_get dX8_undo_1 fX8_50 hm.1 rfl ?_
  refine J_if_ne (tgt := 10) dX8_undo_4 (by decide) (by omega) (fun c4 => ?_) (fun c4 => ?_)
  · refine V_aload_n dX8_undo_10 rfl ?_
    refine V_dup dX8_undo_11 rfl ?_
    refine V_get dX8_undo_12 fX8_50 hm.1 rfl ?_
    refine J_iconst dX8_undo_15 ?_
    refine J_isub dX8_undo_16 ?_
    refine R_put_14 dX8_undo_17 fX8_50 hm (fun h hm => ?_)
    refine J_iconst dX8_undo_20 ?_
    refine V_istore_n dX8_undo_21 (Nat.le_of_ble_eq_true rfl) ?_
    obtain ⟨k, rfl⟩ : ∃ k : Nat, km = k + 1 := ⟨(km - 1).toNat, by omega⟩
    rw [show ((k : Int) + 1 - 1) = k by omega] at hm
    refine V_mono ?_ (l8_undo_22 (NW0 := NW) (k := k) (by omega) 43 0 _ _ (by omega) (by omega) (fun j hj => by rw [if_neg (by omega)]) hm)
    rintro w h2 sz2 ⟨rfl, rfl, hm⟩
    exact ⟨rfl, Or.inr ⟨k, rfl, rfl, hm⟩⟩
  · refine J_bipush dX8_undo_7 (by decide) ?_
    exact V_iret dX8_undo_9 rfl rfl ⟨Nat.zero_le _, Nat.zero_le _⟩ ⟨rfl, Or.inl ⟨by omega, rfl, hm⟩⟩
end
section
/-! THE REFERENCE'S ROWS OF NUMBERS: what logging, decoding, sampling and moving make of a row; a row that is in order -/
def lgA (S : Nat → Int) (e : Nat) (kind x : Int) : Nat → Int := va_up (va_up (va_up (va_up S (18 + 3 * e) kind) (19 + 3 * e) x) (20 + 3 * e) (S 1)) 17 (e + 1)
def lgT (S : Nat → Int) : Nat → Int := va_up (fun j => if 18 ≤ j ∧ j < 39 then S (j + 3) else S j) 17 7
def lgE (S : Nat → Int) (kind x : Int) : Nat → Int := if S 17 = 8 then lgA (lgT S) 7 kind x else lgA S (S 17).toNat kind x
theorem lgA_lo {S : Nat → Int} {e : Nat} {kind x : Int} {j : Nat} (h : j < 17) : lgA S e kind x j = S j := by
  unfold lgA va_up
  rw [if_neg (by omega), if_neg (by omega), if_neg (by omega), if_neg (by omega)]
theorem lgT_lo {S : Nat → Int} {j : Nat} (h : j < 17) : lgT S j = S j := by
  unfold lgT va_up
  rw [if_neg (by omega)]
  dsimp only
  rw [if_neg (by omega)]
theorem lgE_lo {S : Nat → Int} {kind x : Int} {j : Nat} (h : j < 17) : lgE S kind x j = S j := by
  unfold lgE
  split
  · rw [lgA_lo h, lgT_lo h]
  · rw [lgA_lo h]
theorem lgE_17 {S : Nat → Int} {kind x : Int} (h : 0 ≤ S 17 ∧ S 17 ≤ 8) : 0 ≤ lgE S kind x 17 ∧ lgE S kind x 17 ≤ 8 := by
  unfold lgE
  split
  · show 0 ≤ ((7 : Nat) : Int) + 1 ∧ ((7 : Nat) : Int) + 1 ≤ 8
    omega
  · show 0 ≤ ((S 17).toNat : Int) + 1 ∧ ((S 17).toNat : Int) + 1 ≤ 8
    omega
theorem lgA_kind {S : Nat → Int} {e : Nat} {kind x : Int} (hk : 0 ≤ kind ∧ kind ≤ 1) {k : Nat} (h : 0 ≤ S (18 + 3 * k) ∧ S (18 + 3 * k) ≤ 1) : 0 ≤ lgA S e kind x (18 + 3 * k) ∧ lgA S e kind x (18 + 3 * k) ≤ 1 := by
  unfold lgA va_up
  rw [if_neg (by omega), if_neg (by omega), if_neg (by omega)]
  split
  · exact hk
  · exact h
theorem lgE_kind {S : Nat → Int} {kind x : Int} (hk : 0 ≤ kind ∧ kind ≤ 1) (h : ∀ k : Nat, k < 8 → 0 ≤ S (18 + 3 * k) ∧ S (18 + 3 * k) ≤ 1) : ∀ k : Nat, k < 8 → 0 ≤ lgE S kind x (18 + 3 * k) ∧ lgE S kind x (18 + 3 * k) ≤ 1 := by
  intro k hk8
  unfold lgE
  split
  · refine lgA_kind hk ?_
    unfold lgT va_up
    rw [if_neg (by omega)]
    dsimp only
    split
    · have := h (k + 1) (by omega)
      rw [show 18 + 3 * (k + 1) = 18 + 3 * k + 3 by omega] at this
      exact this
    · exact h k hk8
  · exact lgA_kind hk (h k hk8)
/-- a row in order -/
def rok (N : Nat → Int) : Prop := (0 ≤ N 0 ∧ N 0 ≤ 9999) ∧ (0 ≤ N 2 ∧ N 2 ≤ 3) ∧ (N 5 = 1 ∨ N 5 = 2 ∨ N 5 = 4) ∧ (8 ≤ N 6 ∧ N 6 ≤ 80) ∧ (0 ≤ N 7 ∧ N 7 ≤ 79) ∧ (0 ≤ N 8 ∧ N 8 ≤ 4) ∧ (0 ≤ N 17 ∧ N 17 ≤ 8) ∧ (∀ k : Nat, k < 4 → (0 ≤ N (9 + 2 * k) ∧ N (9 + 2 * k) ≤ 9999) ∧ (0 ≤ N (10 + 2 * k) ∧ N (10 + 2 * k) ≤ 99)) ∧ ∀ k : Nat, k < 8 → 0 ≤ N (18 + 3 * k) ∧ N (18 + 3 * k) ≤ 1
theorem rok_lgE {S : Nat → Int} {kind x : Int} (hk : 0 ≤ kind ∧ kind ≤ 1) (h : rok S) : rok (lgE S kind x) := by
  obtain ⟨h0, h2, h5, h6, h7, h8, h17, hd, he⟩ := h
  refine ⟨by rw [lgE_lo (by omega)]; exact h0, by rw [lgE_lo (by omega)]; exact h2, by rw [lgE_lo (by omega)]; exact h5, by rw [lgE_lo (by omega)]; exact h6, by rw [lgE_lo (by omega)]; exact h7, by rw [lgE_lo (by omega)]; exact h8, lgE_17 h17, fun k hk => ?_, lgE_kind hk he⟩
  rw [lgE_lo (by omega), lgE_lo (by omega)]
  exact hd k hk
def quad (sc x : Int) : Int := 4 * (x % sc) / sc
theorem quad_rg {sc x : Int} (h : 0 < sc) : 0 ≤ quad sc x ∧ quad sc x ≤ 3 := by
  unfold quad
  have h1 := Int.emod_nonneg x (show sc ≠ 0 by omega)
  have h2 := Int.emod_lt_of_pos x h
  refine ⟨Int.ediv_nonneg (by omega) (by omega), ?_⟩
  have : 4 * (x % sc) / sc < 4 := Int.ediv_lt_of_lt_mul h (by omega)
  omega
/-- a boundary that counts -/
def cnb (m b : Int) : Int := if m = 4 ∨ b = 3 ∨ (m = 2 ∧ b = 1) then 1 else 0
def dcM (S : Nat → Int) (x : Int) : Nat → Int := if S 17 = 0 ∨ S (18 + 3 * S 17 - 3).toNat = 0 then lgE (va_up S 3 (S 3 + 1)) 1 x else va_up S 3 (S 3 + 1)
def dcd (sc : Int) (S : Nat → Int) (x : Int) : Nat → Int := va_up (if (quad sc x - S 2 + 4) % 4 = 2 then dcM S x else if (quad sc x - S 2 + 4) % 4 = 1 then va_up S 1 (S 1 + cnb (S 5) (S 2)) else if (quad sc x - S 2 + 4) % 4 = 3 then va_up S 1 (S 1 - cnb (S 5) (quad sc x)) else S) 2 (quad sc x)
theorem rok_up {S : Nat → Int} {k : Nat} {x : Int} (h : rok S) (hk : k = 1 ∨ k = 3 ∨ k = 4) : rok (va_up S k x) := by
  obtain ⟨h0, h2, h5, h6, h7, h8, h17, hd, he⟩ := h
  have e : ∀ j, j ≠ k → va_up S k x j = S j := fun j hj => if_neg hj
  refine ⟨by rw [e 0 (by omega)]; exact h0, by rw [e 2 (by omega)]; exact h2, by rw [e 5 (by omega)]; exact h5, by rw [e 6 (by omega)]; exact h6, by rw [e 7 (by omega)]; exact h7, by rw [e 8 (by omega)]; exact h8, by rw [e 17 (by omega)]; exact h17, fun q hq => ?_, fun q hq => ?_⟩
  · rw [e _ (by omega), e _ (by omega)]; exact hd q hq
  · rw [e _ (by omega)]; exact he q hq
theorem rok_up2 {S : Nat → Int} {x : Int} (h : rok S) (hx : 0 ≤ x ∧ x ≤ 3) : rok (va_up S 2 x) := by
  obtain ⟨h0, h2, h5, h6, h7, h8, h17, hd, he⟩ := h
  have e : ∀ j, j ≠ 2 → va_up S 2 x j = S j := fun j hj => if_neg hj
  refine ⟨by rw [e 0 (by omega)]; exact h0, hx, by rw [e 5 (by omega)]; exact h5, by rw [e 6 (by omega)]; exact h6, by rw [e 7 (by omega)]; exact h7, by rw [e 8 (by omega)]; exact h8, by rw [e 17 (by omega)]; exact h17, fun q hq => ?_, fun q hq => ?_⟩
  · rw [e _ (by omega), e _ (by omega)]; exact hd q hq
  · rw [e _ (by omega)]; exact he q hq
theorem rok_up0 {S : Nat → Int} {x : Int} (h : rok S) (hx : 0 ≤ x ∧ x ≤ 9999) : rok (va_up S 0 x) := by
  obtain ⟨h0, h2, h5, h6, h7, h8, h17, hd, he⟩ := h
  have e : ∀ j, j ≠ 0 → va_up S 0 x j = S j := fun j hj => if_neg hj
  refine ⟨hx, by rw [e 2 (by omega)]; exact h2, by rw [e 5 (by omega)]; exact h5, by rw [e 6 (by omega)]; exact h6, by rw [e 7 (by omega)]; exact h7, by rw [e 8 (by omega)]; exact h8, by rw [e 17 (by omega)]; exact h17, fun q hq => ?_, fun q hq => ?_⟩
  · rw [e _ (by omega), e _ (by omega)]; exact hd q hq
  · rw [e _ (by omega)]; exact he q hq
theorem rok_dcM {S : Nat → Int} {x : Int} (h : rok S) : rok (dcM S x) := by
  unfold dcM
  split
  · exact rok_lgE (by omega) (rok_up h (by omega))
  · exact rok_up h (by omega)
theorem rok_dcd {sc : Int} {S : Nat → Int} {x : Int} (hs : 0 < sc) (h : rok S) : rok (dcd sc S x) := by
  unfold dcd
  refine rok_up2 ?_ (quad_rg hs)
  split
  · exact rok_dcM h
  · split
    · exact rok_up h (by omega)
    · split
      · exact rok_up h (by omega)
      · exact h
theorem dcd_0 {sc : Int} {S : Nat → Int} {x : Int} : dcd sc S x 0 = S 0 := by
  unfold dcd
  show (if _ then _ else _ : Nat → Int) 0 = S 0
  split
  · unfold dcM; split
    · rw [lgE_lo (by omega)]; rfl
    · rfl
  · split
    · rfl
    · split <;> rfl
/-- dirt at a place -/
def drt (S : Nat → Int) (m : Nat) (x : Int) : Prop := ∃ k : Nat, k < m ∧ S (9 + 2 * k) ≤ x ∧ x ≤ S (9 + 2 * k) + S (10 + 2 * k) - 1
/-- a mark that is passed -/
def pas (a b x : Int) : Prop := (a < b ∧ a < x ∧ x ≤ b) ∨ (¬ a < b ∧ b ≤ x ∧ x < a)
/-- the k-th mark that a sample looks at -/
def mkA (MA : Nat → Int) (mk : Nat) (a b : Int) (k : Nat) : Int := if a < b then MA k else MA (mk - 1 - k)
noncomputable def mkL (MA : Nat → Int) (mk : Nat) (a b : Int) (S : Nat → Int) : Nat → Nat → Int
  | 0 => S
  | k + 1 => @ite _ (pas a b (mkA MA mk a b k)) (Classical.propDecidable _) (lgE (mkL MA mk a b S k) 0 b) (mkL MA mk a b S k)
theorem rok_mkL {MA : Nat → Int} {mk : Nat} {a b : Int} {S : Nat → Int} (h : rok S) : ∀ k, rok (mkL MA mk a b S k) := by
  intro k
  induction k with
  | zero => exact h
  | succ k ih =>
    unfold mkL
    by_cases q : pas a b (mkA MA mk a b k)
    · rw [if_pos q]; exact rok_lgE (by omega) ih
    · rw [if_neg q]; exact ih
theorem mkL_0 {MA : Nat → Int} {mk : Nat} {a b : Int} {S : Nat → Int} : ∀ k, mkL MA mk a b S k 0 = S 0 := by
  intro k
  induction k with
  | zero => rfl
  | succ k ih =>
    unfold mkL
    by_cases q : pas a b (mkA MA mk a b k)
    · rw [if_pos q, lgE_lo (by omega)]; exact ih
    · rw [if_neg q]; exact ih
/-- one sample -/
noncomputable def smp (sc : Int) (mk : Nat) (MA S : Nat → Int) (a b : Int) : Nat → Int :=
  va_up (mkL MA mk a b (@ite _ (drt S (S 8).toNat b) (Classical.propDecidable _) (va_up S 4 (S 4 + 1)) (dcd sc (va_up S 4 (S 4 + 1)) b)) mk) 0 b
theorem rok_smp {sc : Int} {mk : Nat} {MA S : Nat → Int} {a b : Int} (hs : 0 < sc) (hb : 0 ≤ b ∧ b ≤ 9999) (h : rok S) : rok (smp sc mk MA S a b) := by
  unfold smp
  refine rok_up0 (rok_mkL ?_ _) hb
  split
  · exact rok_up h (by omega)
  · exact rok_dcd hs (rok_up h (by omega))
/-- the next sample's place -/
def nxt (a t v : Int) : Int := if a < t then (if t - a < v then t else a + v) else (if a - t < v then t else a - v)
theorem nxt_rg {a t v : Int} (ha : 0 ≤ a ∧ a ≤ 9999) (ht : 0 ≤ t ∧ t ≤ 9999) (hv : 1 ≤ v) (hn : a ≠ t) : (0 ≤ nxt a t v ∧ nxt a t v ≤ 9999) ∧ (nxt a t v - t).natAbs < (a - t).natAbs := by
  unfold nxt
  split <;> split <;> omega
noncomputable def mvF (sc : Int) (mk : Nat) (MA : Nat → Int) (t v : Int) : Nat → (Nat → Int) → Nat → Int
  | 0, S => S
  | f + 1, S => if S 0 = t then S else mvF sc mk MA t v f (smp sc mk MA S (S 0) (nxt (S 0) t v))
theorem rok_mvF {sc : Int} {mk : Nat} {MA : Nat → Int} {t v : Int} (hs : 0 < sc) (ht : 0 ≤ t ∧ t ≤ 9999) (hv : 1 ≤ v) : ∀ (f : Nat) (S : Nat → Int), rok S → rok (mvF sc mk MA t v f S) := by
  intro f
  induction f with
  | zero => intro S h; exact h
  | succ f ih =>
    intro S h
    unfold mvF
    split
    · exact h
    · rename_i hn
      exact ih _ (rok_smp hs (nxt_rg h.1 ht hv hn).1 h)
end
section
/-! THE REFERENCE: counting, the log, dirt, decoding -/
set_option maxHeartbeats 4000000 in
set_option maxRecDepth 100000 in
theorem m8_isCounted {z : ZG} {d sz r n s : Nat} {g h : AH} {l sp nu rs rm sc mk km : Int} {T RA RD MA NW SD KP : Nat → Int} {b : Int} (hm : MS g r n s l sp nu rs rm sc mk km T RA RD MA NW SD KP h) (hb : -2147483648 ≤ b ∧ b < 2147483648) (h5 : -2147483648 ≤ SD 5 ∧ SD 5 < 2147483648) : M z YX8_isCounted d 0 0 [.ref r, .int (I b)] h sz (fun w h' sz' => w = some (.int (I (cnb (SD 5) b))) ∧ h' = h ∧ sz' = sz) := by
  refine M.of (by decide +kernel) (Nat.le_of_ble_eq_true rfl) ?_
  refine V_aload_n dX8_isCounted_0 rfl ?_
  refine V_get dX8_isCounted_1 fX8_25 hm.1 rfl ?_
  refine J_iconst dX8_isCounted_4 ?_
  refine R_aldk_SD 5 dX8_isCounted_5 hm rfl (by decide) ?_
  refine J_iconst dX8_isCounted_6 ?_
  refine J_icmp_eq (tgt := 30) dX8_isCounted_7 (by decide) (by omega) (by omega) (fun c7 => ?_) (fun c7 => ?_)
  · refine J_iconst dX8_isCounted_30 ?_
    refine V_goto (tgt := 35) dX8_isCounted_31 (by decide) ?_
    exact V_iret dX8_isCounted_35 rfl rfl ⟨Nat.zero_le _, Nat.zero_le _⟩ ⟨by unfold cnb; first | rw [if_pos (by omega)] | rw [if_neg (by omega)], rfl, rfl⟩
  · refine V_iload_n dX8_isCounted_10 rfl ?_
    refine J_iconst dX8_isCounted_11 ?_
    refine J_icmp_eq (tgt := 30) dX8_isCounted_12 (by decide) (by omega) (by omega) (fun c12 => ?_) (fun c12 => ?_)
    · refine J_iconst dX8_isCounted_30 ?_
      refine V_goto (tgt := 35) dX8_isCounted_31 (by decide) ?_
      exact V_iret dX8_isCounted_35 rfl rfl ⟨Nat.zero_le _, Nat.zero_le _⟩ ⟨by unfold cnb; first | rw [if_pos (by omega)] | rw [if_neg (by omega)], rfl, rfl⟩
    · refine V_aload_n dX8_isCounted_15 rfl ?_
      refine V_get dX8_isCounted_16 fX8_25 hm.1 rfl ?_
      refine J_iconst dX8_isCounted_19 ?_
      refine R_aldk_SD 5 dX8_isCounted_20 hm rfl (by decide) ?_
      refine J_iconst dX8_isCounted_21 ?_
      refine J_icmp_ne (tgt := 34) dX8_isCounted_22 (by decide) (by omega) (by omega) (fun c22 => ?_) (fun c22 => ?_)
      · refine J_iconst dX8_isCounted_34 ?_
        exact V_iret dX8_isCounted_35 rfl rfl ⟨Nat.zero_le _, Nat.zero_le _⟩ ⟨by unfold cnb; first | rw [if_pos (by omega)] | rw [if_neg (by omega)], rfl, rfl⟩
      · refine V_iload_n dX8_isCounted_25 rfl ?_
        refine J_iconst dX8_isCounted_26 ?_
        refine J_icmp_ne (tgt := 34) dX8_isCounted_27 (by decide) (by omega) (by omega) (fun c27 => ?_) (fun c27 => ?_)
        · refine J_iconst dX8_isCounted_34 ?_
          exact V_iret dX8_isCounted_35 rfl rfl ⟨Nat.zero_le _, Nat.zero_le _⟩ ⟨by unfold cnb; first | rw [if_pos (by omega)] | rw [if_neg (by omega)], rfl, rfl⟩
        · refine J_iconst dX8_isCounted_30 ?_
          refine V_goto (tgt := 35) dX8_isCounted_31 (by decide) ?_
          exact V_iret dX8_isCounted_35 rfl rfl ⟨Nat.zero_le _, Nat.zero_le _⟩ ⟨by unfold cnb; first | rw [if_pos (by omega)] | rw [if_neg (by omega)], rfl, rfl⟩
set_option maxHeartbeats 4000000 in
set_option maxRecDepth 100000 in
theorem l8_logs_55 {z : ZG} {d sz r n s : Nat} {g h : AH} {l sp nu rs rm sc mk km : Int} {T RA RD MA NW SD KP : Nat → Int} {kind x : Int} {e : Nat} {o3 : Option Value} (hm : MS g r n s l sp nu rs rm sc mk km T RA RD MA NW SD KP h) (h17 : SD 17 = e) (he : e ≤ 7) : V z YX8_logs (zroom d 0 0) (fun w h' sz' => w = none ∧ sz' = sz ∧ MS g r n s l sp nu rs rm sc mk km T RA RD MA NW (lgA SD e kind x) KP h') 55 [some (.ref r), some (.int (I kind)), some (.int (I x)), o3] [] h sz 0 0 := by
  refine J_bipush dX8_logs_55 (by decide) ?_
  refine J_iconst dX8_logs_57 ?_
  refine V_aload_n dX8_logs_58 rfl ?_
  refine V_get dX8_logs_59 fX8_25 hm.1 rfl ?_
  refine J_bipush dX8_logs_62 (by decide) ?_
  refine R_aldk_SD 17 dX8_logs_64 hm rfl (by decide) ?_
  refine J_imul dX8_logs_65 ?_
  refine J_iadd dX8_logs_66 ?_
  refine V_istore_n dX8_logs_67 (Nat.le_of_ble_eq_true rfl) ?_
  refine V_aload_n dX8_logs_68 rfl ?_
  refine V_get dX8_logs_69 fX8_25 hm.1 rfl ?_
  refine V_iload_n dX8_logs_72 rfl ?_
  refine V_iload_n dX8_logs_73 rfl ?_
  refine R_astk_SD (18 + 3 * e) dX8_logs_74 hm (by omega) (by omega) (fun h hm => ?_)
  refine V_aload_n dX8_logs_75 rfl ?_
  refine V_get dX8_logs_76 fX8_25 hm.1 rfl ?_
  refine V_iload_n dX8_logs_79 rfl ?_
  refine J_iconst dX8_logs_80 ?_
  refine J_iadd dX8_logs_81 ?_
  refine V_iload_n dX8_logs_82 rfl ?_
  refine R_astk_SD (19 + 3 * e) dX8_logs_83 hm (by omega) (by omega) (fun h hm => ?_)
  refine V_aload_n dX8_logs_84 rfl ?_
  refine V_get dX8_logs_85 fX8_25 hm.1 rfl ?_
  refine V_iload_n dX8_logs_88 rfl ?_
  refine J_iconst dX8_logs_89 ?_
  refine J_iadd dX8_logs_90 ?_
  refine V_aload_n dX8_logs_91 rfl ?_
  refine V_get dX8_logs_92 fX8_25 hm.1 rfl ?_
  refine J_iconst dX8_logs_95 ?_
  refine R_aldk_SD 1 dX8_logs_96 hm rfl (by decide) ?_
  refine R_astk_SD (20 + 3 * e) dX8_logs_97 hm (by omega) (by omega) (fun h hm => ?_)
  refine V_aload_n dX8_logs_98 rfl ?_
  refine V_get dX8_logs_99 fX8_25 hm.1 rfl ?_
  refine J_bipush dX8_logs_102 (by decide) ?_
  refine V_dup2 dX8_logs_104 rfl rfl ?_
  refine R_aldk_SD 17 dX8_logs_105 hm rfl (by decide) ?_
  refine J_iconst dX8_logs_106 ?_
  refine J_iadd dX8_logs_107 ?_
  refine R_astk_SD 17 dX8_logs_108 hm rfl (by decide) (fun h hm => ?_)
  refine V_ret dX8_logs_109 rfl ⟨Nat.zero_le _, Nat.zero_le _⟩ ⟨rfl, rfl, hm.eSD (fun j hj => ?_)⟩
  have e1 : va_up (va_up SD (18 + 3 * e) kind) (19 + 3 * e) x 1 = SD 1 := by unfold va_up; rw [if_neg (by omega), if_neg (by omega)]
  have e2 : va_up (va_up (va_up SD (18 + 3 * e) kind) (19 + 3 * e) x) (20 + 3 * e) (SD 1) 17 = e := by unfold va_up; rw [if_neg (by omega), if_neg (by omega), if_neg (by omega)]; exact h17
  rw [e1, e2]
  rfl
set_option maxHeartbeats 4000000 in
set_option maxRecDepth 100000 in
theorem l8_logs_14 {z : ZG} {d sz r n s : Nat} {g : AH} {l sp nu rs rm sc mk km : Int} {T RA RD MA NW KP : Nat → Int} {kind x : Int} {S0 : Nat → Int} (h17 : S0 17 = 8) : ∀ (f i : Nat) (SD : Nat → Int) (h : AH), i ≤ 21 → 21 - i < f → (∀ j : Nat, j < 42 → SD j = if 18 ≤ j ∧ j < 18 + i then S0 (j + 3) else S0 j) → MS g r n s l sp nu rs rm sc mk km T RA RD MA NW SD KP h → V z YX8_logs (zroom d 0 0) (fun w h' sz' => w = none ∧ sz' = sz ∧ MS g r n s l sp nu rs rm sc mk km T RA RD MA NW (lgA (lgT S0) 7 kind x) KP h') 14 [some (.ref r), some (.int (I kind)), some (.int (I x)), some (.int (I (i : Int)))] [] h sz 0 0 := by
  intro f
  induction f with
  | zero => intro i SD h h1 h2; omega
  | succ f ih =>
    intro i SD h h1 h2 hz hm
    refine V_iload_n dX8_logs_14 rfl ?_
    refine J_bipush dX8_logs_15 (by decide) ?_
    refine J_icmp_ge (tgt := 44) dX8_logs_17 (by decide) (by omega) (by omega) (fun c17 => ?_) (fun c17 => ?_)
    · refine V_aload_n dX8_logs_44 rfl ?_
      refine V_get dX8_logs_45 fX8_25 hm.1 rfl ?_
      refine J_bipush dX8_logs_48 (by decide) ?_
      refine V_dup2 dX8_logs_50 rfl rfl ?_
      refine R_aldk_SD 17 dX8_logs_51 hm rfl (by decide) ?_
      refine J_iconst dX8_logs_52 ?_
      refine J_isub dX8_logs_53 ?_
      refine R_astk_SD 17 dX8_logs_54 hm rfl (by decide) (fun h hm => ?_)
      have e17 : SD 17 = 8 := by rw [hz 17 (by omega), if_neg (by omega)]; exact h17
      have he : ∀ j, j < 42 → va_up SD 17 (SD 17 - 1) j = lgT S0 j := by
        intro j hj
        unfold lgT va_up
        by_cases q1 : j = 17
        · rw [if_pos q1, if_pos q1]; omega
        · rw [if_neg q1, if_neg q1, hz j hj]; congr 1; apply propext; omega
      exact l8_logs_55 (hm.eSD he) rfl (by omega)
    · refine V_aload_n dX8_logs_20 rfl ?_
      refine V_get dX8_logs_21 fX8_25 hm.1 rfl ?_
      refine J_bipush dX8_logs_24 (by decide) ?_
      refine V_iload_n dX8_logs_26 rfl ?_
      refine J_iadd dX8_logs_27 ?_
      refine V_aload_n dX8_logs_28 rfl ?_
      refine V_get dX8_logs_29 fX8_25 hm.1 rfl ?_
      refine J_bipush dX8_logs_32 (by decide) ?_
      refine V_iload_n dX8_logs_34 rfl ?_
      refine J_iadd dX8_logs_35 ?_
      refine R_aldk_SD (21 + i) dX8_logs_36 hm (by omega) (by omega) ?_
      refine R_astk_SD (18 + i) dX8_logs_37 hm (by omega) (by omega) (fun h hm => ?_)
      refine J_iinc dX8_logs_38 rfl ?_
      refine V_goto (tgt := 14) dX8_logs_41 (by decide) ?_
      refine ih (i + 1) _ h (by omega) (by omega) ?_ hm
      intro j hj
      have e := hz j hj
      simp only [va_up]
      by_cases q1 : j = 18 + i
      · subst q1; rw [if_pos rfl, if_pos (by omega), hz (21 + i) (by omega), if_neg (by omega)]; congr 1; omega
      · rw [if_neg q1, e]; split <;> split <;> first | rfl | omega
set_option maxHeartbeats 4000000 in
set_option maxRecDepth 100000 in
theorem m8_logs {z : ZG} {d sz r n s : Nat} {g h : AH} {l sp nu rs rm sc mk km : Int} {T RA RD MA NW SD KP : Nat → Int} {kind x : Int} (hm : MS g r n s l sp nu rs rm sc mk km T RA RD MA NW SD KP h) (h17 : 0 ≤ SD 17 ∧ SD 17 ≤ 8) : M z YX8_logs d 0 0 [.ref r, .int (I kind), .int (I x)] h sz (fun w h' sz' => w = none ∧ sz' = sz ∧ MS g r n s l sp nu rs rm sc mk km T RA RD MA NW (lgE SD kind x) KP h') := by
  refine M.of (by decide +kernel) (Nat.le_of_ble_eq_true rfl) ?_
  refine V_aload_n dX8_logs_0 rfl ?_
  refine V_get dX8_logs_1 fX8_25 hm.1 rfl ?_
  refine J_bipush dX8_logs_4 (by decide) ?_
  refine R_aldk_SD 17 dX8_logs_6 hm rfl (by decide) ?_
  refine J_bipush dX8_logs_7 (by decide) ?_
  refine J_icmp_ne (tgt := 55) dX8_logs_9 (by decide) (by omega) (by omega) (fun c9 => ?_) (fun c9 => ?_)
  · refine V_mono ?_ (l8_logs_55 hm (e := (SD 17).toNat) (by omega) (by omega))
    rintro w h2 sz2 ⟨rfl, rfl, hm⟩
    exact ⟨rfl, rfl, hm.eSD (fun j hj => by unfold lgE; rw [if_neg (by omega)])⟩
  · refine J_iconst dX8_logs_12 ?_
    refine V_istore_n dX8_logs_13 (Nat.le_of_ble_eq_true rfl) ?_
    have q : SD 17 = 8 := by omega
    refine V_mono ?_ (l8_logs_14 (S0 := SD) q 22 0 _ _ (by omega) (by omega) (fun j hj => by rw [if_neg (by omega)]) hm)
    rintro w h2 sz2 ⟨rfl, rfl, hm⟩
    exact ⟨rfl, rfl, hm.eSD (fun j hj => by unfold lgE; rw [if_pos q])⟩
theorem drt_s {S : Nat → Int} {m : Nat} {x : Int} : drt S (m + 1) x ↔ drt S m x ∨ (S (9 + 2 * m) ≤ x ∧ x ≤ S (9 + 2 * m) + S (10 + 2 * m) - 1) := by
  constructor
  · rintro ⟨k, h1, h2⟩
    by_cases q : k = m
    · subst q; exact Or.inr h2
    · exact Or.inl ⟨k, by omega, h2⟩
  · rintro (⟨k, h1, h2⟩ | h)
    · exact ⟨k, by omega, h2⟩
    · exact ⟨m, by omega, h⟩
theorem drt_0 {S : Nat → Int} {x : Int} : ¬ drt S 0 x := fun ⟨k, h, _⟩ => by omega
set_option maxHeartbeats 4000000 in
set_option maxRecDepth 100000 in
theorem l8_isDirty_4 {z : ZG} {d sz r n s : Nat} {g h : AH} {l sp nu rs rm sc mk km : Int} {T RA RD MA NW SD KP : Nat → Int} {x : Int} (hx : -2147483648 ≤ x ∧ x < 2147483648) (hm : MS g r n s l sp nu rs rm sc mk km T RA RD MA NW SD KP h) (h8 : 0 ≤ SD 8 ∧ SD 8 ≤ 4) (hdr : ∀ k : Nat, k < 4 → (0 ≤ SD (9 + 2 * k) ∧ SD (9 + 2 * k) ≤ 9999) ∧ (0 ≤ SD (10 + 2 * k) ∧ SD (10 + 2 * k) ≤ 99)) : ∀ (f k : Nat) (t : Int) (o4 : Option Value), (k : Int) ≤ SD 8 → SD 8 - k < f → ((t = 1 ∧ drt SD k x) ∨ (t = 0 ∧ ¬ drt SD k x)) → V z YX8_isDirty (zroom (d + 1) 0 0) (fun w h' sz' => ∃ t : Int, w = some (.int (I t)) ∧ ((t = 1 ∧ drt SD (SD 8).toNat x) ∨ (t = 0 ∧ ¬ drt SD (SD 8).toNat x)) ∧ h' = h ∧ sz' = sz) 4 [some (.ref r), some (.int (I x)), some (.int (I t)), some (.int (I (k : Int))), o4] [] h sz 0 0 := by
  intro f
  induction f with
  | zero => intro k t o4 h1 h2; omega
  | succ f ih =>
    intro k t o4 h1 h2 ht
    have htr : t = 1 ∨ t = 0 := by rcases ht with q | q <;> omega
    refine V_iload_n dX8_isDirty_4 rfl ?_
    refine V_aload_n dX8_isDirty_5 rfl ?_
    refine V_get dX8_isDirty_6 fX8_25 hm.1 rfl ?_
    refine J_bipush dX8_isDirty_9 (by decide) ?_
    refine R_aldk_SD 8 dX8_isDirty_11 hm rfl (by decide) ?_
    refine J_icmp_ge (tgt := 74) dX8_isDirty_12 (by decide) (by omega) (by omega) (fun c12 => ?_) (fun c12 => ?_)
    · refine V_iload_n dX8_isDirty_74 rfl ?_
      exact V_iret dX8_isDirty_75 rfl (by rcases htr with rfl | rfl <;> rfl) ⟨Nat.zero_le _, Nat.zero_le _⟩ ⟨t, rfl, by rw [show (SD 8).toNat = k by omega]; exact ht, rfl, rfl⟩
    · have hd := hdr k (by omega)
      refine V_aload_n dX8_isDirty_15 rfl ?_
      refine V_get dX8_isDirty_16 fX8_25 hm.1 rfl ?_
      refine J_bipush dX8_isDirty_19 (by decide) ?_
      refine J_iconst dX8_isDirty_21 ?_
      refine V_iload_n dX8_isDirty_22 rfl ?_
      refine J_imul dX8_isDirty_23 ?_
      refine J_iadd dX8_isDirty_24 ?_
      refine R_aldk_SD (9 + 2 * k) dX8_isDirty_25 hm (by omega) (by omega) ?_
      refine V_istore dX8_isDirty_26 (Nat.le_of_ble_eq_true rfl) ?_
      refine V_iload_n dX8_isDirty_28 rfl ?_
      refine J_if_ne (tgt := 62) dX8_isDirty_29 (by decide) (by omega) (fun c29 => ?_) (fun c29 => ?_)
      · refine J_iconst dX8_isDirty_62 ?_
        refine V_goto (tgt := 67) dX8_isDirty_63 (by decide) ?_
        refine V_istore_n dX8_isDirty_67 (Nat.le_of_ble_eq_true rfl) ?_
        refine J_iinc dX8_isDirty_68 rfl ?_
        refine V_goto (tgt := 4) dX8_isDirty_71 (by decide) ?_
        refine ih (k + 1) _ _ (by omega) (by omega) ?_
        rcases ht with ⟨q, hD⟩ | ⟨q, hD⟩ <;> first | (exfalso; omega) | exact Or.inl ⟨rfl, drt_s.mpr (Or.inl hD)⟩ | exact Or.inl ⟨rfl, drt_s.mpr (Or.inr (by omega))⟩ | exact Or.inr ⟨rfl, fun w => (drt_s.mp w).elim hD (fun w => by omega)⟩
      · refine V_iload_n dX8_isDirty_32 rfl ?_
        refine J_i2l dX8_isDirty_33 (by omega) ?_
        refine V_iload dX8_isDirty_34 rfl ?_
        refine J_i2l dX8_isDirty_36 (by omega) ?_
        refine V_iload dX8_isDirty_37 rfl ?_
        refine V_aload_n dX8_isDirty_39 rfl ?_
        refine V_get dX8_isDirty_40 fX8_25 hm.1 rfl ?_
        refine J_bipush dX8_isDirty_43 (by decide) ?_
        refine J_iconst dX8_isDirty_45 ?_
        refine V_iload_n dX8_isDirty_46 rfl ?_
        refine J_imul dX8_isDirty_47 ?_
        refine J_iadd dX8_isDirty_48 ?_
        refine J_iconst dX8_isDirty_49 ?_
        refine J_iadd dX8_isDirty_50 ?_
        refine R_aldk_SD (10 + 2 * k) dX8_isDirty_51 hm (by omega) (by omega) ?_
        refine J_iadd dX8_isDirty_52 ?_
        refine J_iconst dX8_isDirty_53 ?_
        refine J_isub dX8_isDirty_54 ?_
        refine J_i2l dX8_isDirty_55 (by omega) ?_
        refine V_callS (Y' := YX8_in) dX8_isDirty_56 lX8_57 gX8_in (m8_in (by omega) (by omega) (by omega)) rfl rfl (Nat.le_of_ble_eq_true rfl) ⟨Nat.zero_le _, Nat.zero_le _⟩ (fun v h1 sz1 hq => ?_)
        obtain ⟨t56, rfl, ht56, rfl, rfl⟩ := hq
        refine J_if_eq (tgt := 66) dX8_isDirty_59 (by decide) (by omega) (fun c59 => ?_) (fun c59 => ?_)
        · refine J_iconst dX8_isDirty_66 ?_
          refine V_istore_n dX8_isDirty_67 (Nat.le_of_ble_eq_true rfl) ?_
          refine J_iinc dX8_isDirty_68 rfl ?_
          refine V_goto (tgt := 4) dX8_isDirty_71 (by decide) ?_
          refine ih (k + 1) _ _ (by omega) (by omega) ?_
          rcases ht with ⟨q, hD⟩ | ⟨q, hD⟩ <;> first | (exfalso; omega) | exact Or.inl ⟨rfl, drt_s.mpr (Or.inl hD)⟩ | exact Or.inl ⟨rfl, drt_s.mpr (Or.inr (by omega))⟩ | exact Or.inr ⟨rfl, fun w => (drt_s.mp w).elim hD (fun w => by omega)⟩
        · refine J_iconst dX8_isDirty_62 ?_
          refine V_goto (tgt := 67) dX8_isDirty_63 (by decide) ?_
          refine V_istore_n dX8_isDirty_67 (Nat.le_of_ble_eq_true rfl) ?_
          refine J_iinc dX8_isDirty_68 rfl ?_
          refine V_goto (tgt := 4) dX8_isDirty_71 (by decide) ?_
          refine ih (k + 1) _ _ (by omega) (by omega) ?_
          rcases ht with ⟨q, hD⟩ | ⟨q, hD⟩ <;> first | (exfalso; omega) | exact Or.inl ⟨rfl, drt_s.mpr (Or.inl hD)⟩ | exact Or.inl ⟨rfl, drt_s.mpr (Or.inr (by omega))⟩ | exact Or.inr ⟨rfl, fun w => (drt_s.mp w).elim hD (fun w => by omega)⟩
set_option maxHeartbeats 4000000 in
set_option maxRecDepth 100000 in
theorem m8_isDirty {z : ZG} {d sz r n s : Nat} {g h : AH} {l sp nu rs rm sc mk km : Int} {T RA RD MA NW SD KP : Nat → Int} {x : Int} (hx : -2147483648 ≤ x ∧ x < 2147483648) (hm : MS g r n s l sp nu rs rm sc mk km T RA RD MA NW SD KP h) (h8 : 0 ≤ SD 8 ∧ SD 8 ≤ 4) (hdr : ∀ k : Nat, k < 4 → (0 ≤ SD (9 + 2 * k) ∧ SD (9 + 2 * k) ≤ 9999) ∧ (0 ≤ SD (10 + 2 * k) ∧ SD (10 + 2 * k) ≤ 99)) : M z YX8_isDirty (d + 1) 0 0 [.ref r, .int (I x)] h sz (fun w h' sz' => ∃ t : Int, w = some (.int (I t)) ∧ ((t = 1 ∧ drt SD (SD 8).toNat x) ∨ (t = 0 ∧ ¬ drt SD (SD 8).toNat x)) ∧ h' = h ∧ sz' = sz) := by
  refine M.of (by decide +kernel) (Nat.le_of_ble_eq_true rfl) ?_
  refine J_iconst dX8_isDirty_0 ?_
  refine V_istore_n dX8_isDirty_1 (Nat.le_of_ble_eq_true rfl) ?_
  refine J_iconst dX8_isDirty_2 ?_
  refine V_istore_n dX8_isDirty_3 (Nat.le_of_ble_eq_true rfl) ?_
  exact l8_isDirty_4 hx hm h8 hdr 5 0 0 _ (by omega) (by omega) (Or.inr ⟨rfl, drt_0⟩)
theorem cnb_rg {m b : Int} : 0 ≤ cnb m b ∧ cnb m b ≤ 1 := by unfold cnb; split <;> omega
set_option maxHeartbeats 4000000 in
set_option maxRecDepth 100000 in
theorem m8_decodes {z : ZG} {d sz r n s : Nat} {g h : AH} {l sp nu rs rm sc mk km : Int} {T RA RD MA NW SD KP : Nat → Int} {x : Int} (hx : 0 ≤ x ∧ x ≤ 99999) (hs : 8 ≤ sc ∧ sc ≤ 80) (hm : MS g r n s l sp nu rs rm sc mk km T RA RD MA NW SD KP h) (hr : rok SD) : M z YX8_decodes (d + 1) 0 0 [.ref r, .int (I x)] h sz (fun w h' sz' => w = none ∧ sz' = sz ∧ MS g r n s l sp nu rs rm sc mk km T RA RD MA NW (dcd sc SD x) KP h') := by
  refine M.of (by decide +kernel) (Nat.le_of_ble_eq_true rfl) ?_
  have hq0 : 0 ≤ x % sc ∧ x % sc < sc := ⟨Int.emod_nonneg x (by omega), Int.emod_lt_of_pos x (by omega)⟩
  have hq1 := quad_rg (sc := sc) (x := x) (by omega)
  obtain ⟨hr0, hr2, hr5, hr6, hr7, hr8, hr17, hrd, hre⟩ := id hr
  refine J_iconst dX8_decodes_0 ?_
  refine V_iload_n dX8_decodes_1 rfl ?_
  refine V_aload_n dX8_decodes_2 rfl ?_
  refine V_get dX8_decodes_3 fX8_44 hm.1 rfl ?_
  refine J_irem dX8_decodes_6 (by omega) (by omega) ?_
  refine J_imul dX8_decodes_7 ?_
  refine V_aload_n dX8_decodes_8 rfl ?_
  refine V_get dX8_decodes_9 fX8_44 hm.1 rfl ?_
  refine J_idiv dX8_decodes_12 (by omega) (by omega) ?_
  change V z YX8_decodes _ _ _ _ (.int (I (quad sc x)) :: _) _ _ _ _
  refine V_istore_n dX8_decodes_13 (Nat.le_of_ble_eq_true rfl) ?_
  refine V_iload_n dX8_decodes_14 rfl ?_
  refine V_aload_n dX8_decodes_15 rfl ?_
  refine V_get dX8_decodes_16 fX8_25 hm.1 rfl ?_
  refine J_iconst dX8_decodes_19 ?_
  refine R_aldk_SD 2 dX8_decodes_20 hm rfl (by decide) ?_
  refine J_isub dX8_decodes_21 ?_
  refine J_iconst dX8_decodes_22 ?_
  refine J_iadd dX8_decodes_23 ?_
  refine J_iconst dX8_decodes_24 ?_
  refine J_irem dX8_decodes_25 (by omega) (by omega) ?_
  refine V_istore_n dX8_decodes_26 (Nat.le_of_ble_eq_true rfl) ?_
  refine V_iload_n dX8_decodes_27 rfl ?_
  refine J_iconst dX8_decodes_28 ?_
  refine J_icmp_ne (tgt := 83) dX8_decodes_29 (by decide) (by omega) (by omega) (fun c29 => ?_) (fun c29 => ?_)
  · refine V_iload_n dX8_decodes_83 rfl ?_
    refine J_iconst dX8_decodes_84 ?_
    refine J_icmp_ne (tgt := 118) dX8_decodes_85 (by decide) (by omega) (by omega) (fun c85 => ?_) (fun c85 => ?_)
    · refine V_iload_n dX8_decodes_118 rfl ?_
      refine J_iconst dX8_decodes_119 ?_
      refine J_icmp_ne (tgt := 145) dX8_decodes_120 (by decide) (by omega) (by omega) (fun c120 => ?_) (fun c120 => ?_)
      · refine V_aload_n dX8_decodes_145 rfl ?_
        refine V_get dX8_decodes_146 fX8_25 hm.1 rfl ?_
        refine J_iconst dX8_decodes_149 ?_
        refine V_iload_n dX8_decodes_150 rfl ?_
        refine R_astk_SD 2 dX8_decodes_151 hm rfl (by decide) (fun h hm => ?_)
        exact V_ret dX8_decodes_152 rfl ⟨Nat.zero_le _, Nat.zero_le _⟩ ⟨rfl, rfl, hm.eSD (fun j hj => by unfold dcd; (first | rw [if_pos c29] | (rw [if_neg c29]; first | rw [if_pos c85] | (rw [if_neg c85]; first | rw [if_pos c120] | rw [if_neg c120]))) <;> first | done | rfl | (unfold dcM; rw [if_pos (Or.inl c49)]; done) | (unfold dcM; rw [if_pos (Or.inr c71)]; done) | (unfold dcM; rw [if_neg (fun w => w.elim c49 c71)]; done) | (rw [show cnb (SD 5) (SD 2) = 0 by omega, Int.add_zero]; done) | (rw [show cnb (SD 5) (SD 2) = 1 by omega]; done) | (rw [show cnb (SD 5) (quad sc x) = 0 by omega]; done) | (rw [show cnb (SD 5) (quad sc x) = 1 by omega]; done))⟩
      · refine V_aload_n dX8_decodes_123 rfl ?_
        refine V_get dX8_decodes_124 fX8_25 hm.1 rfl ?_
        refine J_iconst dX8_decodes_127 ?_
        refine V_dup2 dX8_decodes_128 rfl rfl ?_
        refine R_aldk_SD 1 dX8_decodes_129 hm rfl (by decide) ?_
        refine V_aload_n dX8_decodes_130 rfl ?_
        refine V_iload_n dX8_decodes_131 rfl ?_
        refine V_callV (Y' := YX8_isCounted) dX8_decodes_132 lX8_96 gX8_isCounted (m8_isCounted hm (by omega) (by omega)) hm.1 rfl rfl rfl (Nat.le_of_ble_eq_true rfl) ⟨Nat.zero_le _, Nat.zero_le _⟩ (fun v h1 sz1 hq => ?_)
        obtain ⟨rfl, rfl, rfl⟩ := hq
        have hcn132 : 0 ≤ cnb _ _ ∧ cnb _ _ ≤ 1 := cnb_rg (m := SD 5) (b := quad sc x)
        refine J_if_eq (tgt := 142) dX8_decodes_135 (by decide) (by omega) (fun c135 => ?_) (fun c135 => ?_)
        · refine J_iconst dX8_decodes_142 ?_
          refine J_isub dX8_decodes_143 ?_
          refine R_astk_SD 1 dX8_decodes_144 hm rfl (by decide) (fun h hm => ?_)
          refine V_aload_n dX8_decodes_145 rfl ?_
          refine V_get dX8_decodes_146 fX8_25 hm.1 rfl ?_
          refine J_iconst dX8_decodes_149 ?_
          refine V_iload_n dX8_decodes_150 rfl ?_
          refine R_astk_SD 2 dX8_decodes_151 hm rfl (by decide) (fun h hm => ?_)
          exact V_ret dX8_decodes_152 rfl ⟨Nat.zero_le _, Nat.zero_le _⟩ ⟨rfl, rfl, hm.eSD (fun j hj => by unfold dcd; (first | rw [if_pos c29] | (rw [if_neg c29]; first | rw [if_pos c85] | (rw [if_neg c85]; first | rw [if_pos c120] | rw [if_neg c120]))) <;> first | done | rfl | (unfold dcM; rw [if_pos (Or.inl c49)]; done) | (unfold dcM; rw [if_pos (Or.inr c71)]; done) | (unfold dcM; rw [if_neg (fun w => w.elim c49 c71)]; done) | (rw [show cnb (SD 5) (SD 2) = 0 by omega, Int.add_zero]; done) | (rw [show cnb (SD 5) (SD 2) = 1 by omega]; done) | (rw [show cnb (SD 5) (quad sc x) = 0 by omega]; done) | (rw [show cnb (SD 5) (quad sc x) = 1 by omega]; done))⟩
        · refine J_iconst dX8_decodes_138 ?_
          refine V_goto (tgt := 143) dX8_decodes_139 (by decide) ?_
          refine J_isub dX8_decodes_143 ?_
          refine R_astk_SD 1 dX8_decodes_144 hm rfl (by decide) (fun h hm => ?_)
          refine V_aload_n dX8_decodes_145 rfl ?_
          refine V_get dX8_decodes_146 fX8_25 hm.1 rfl ?_
          refine J_iconst dX8_decodes_149 ?_
          refine V_iload_n dX8_decodes_150 rfl ?_
          refine R_astk_SD 2 dX8_decodes_151 hm rfl (by decide) (fun h hm => ?_)
          exact V_ret dX8_decodes_152 rfl ⟨Nat.zero_le _, Nat.zero_le _⟩ ⟨rfl, rfl, hm.eSD (fun j hj => by unfold dcd; (first | rw [if_pos c29] | (rw [if_neg c29]; first | rw [if_pos c85] | (rw [if_neg c85]; first | rw [if_pos c120] | rw [if_neg c120]))) <;> first | done | rfl | (unfold dcM; rw [if_pos (Or.inl c49)]; done) | (unfold dcM; rw [if_pos (Or.inr c71)]; done) | (unfold dcM; rw [if_neg (fun w => w.elim c49 c71)]; done) | (rw [show cnb (SD 5) (SD 2) = 0 by omega, Int.add_zero]; done) | (rw [show cnb (SD 5) (SD 2) = 1 by omega]; done) | (rw [show cnb (SD 5) (quad sc x) = 0 by omega]; done) | (rw [show cnb (SD 5) (quad sc x) = 1 by omega]; done))⟩
    · refine V_aload_n dX8_decodes_88 rfl ?_
      refine V_get dX8_decodes_89 fX8_25 hm.1 rfl ?_
      refine J_iconst dX8_decodes_92 ?_
      refine V_dup2 dX8_decodes_93 rfl rfl ?_
      refine R_aldk_SD 1 dX8_decodes_94 hm rfl (by decide) ?_
      refine V_aload_n dX8_decodes_95 rfl ?_
      refine V_aload_n dX8_decodes_96 rfl ?_
      refine V_get dX8_decodes_97 fX8_25 hm.1 rfl ?_
      refine J_iconst dX8_decodes_100 ?_
      refine R_aldk_SD 2 dX8_decodes_101 hm rfl (by decide) ?_
      refine V_callV (Y' := YX8_isCounted) dX8_decodes_102 lX8_96 gX8_isCounted (m8_isCounted hm (by omega) (by omega)) hm.1 rfl rfl rfl (Nat.le_of_ble_eq_true rfl) ⟨Nat.zero_le _, Nat.zero_le _⟩ (fun v h1 sz1 hq => ?_)
      obtain ⟨rfl, rfl, rfl⟩ := hq
      have hcn102 : 0 ≤ cnb _ _ ∧ cnb _ _ ≤ 1 := cnb_rg (m := SD 5) (b := SD 2)
      refine J_if_eq (tgt := 112) dX8_decodes_105 (by decide) (by omega) (fun c105 => ?_) (fun c105 => ?_)
      · refine J_iconst dX8_decodes_112 ?_
        refine J_iadd dX8_decodes_113 ?_
        refine R_astk_SD 1 dX8_decodes_114 hm rfl (by decide) (fun h hm => ?_)
        refine V_goto (tgt := 145) dX8_decodes_115 (by decide) ?_
        refine V_aload_n dX8_decodes_145 rfl ?_
        refine V_get dX8_decodes_146 fX8_25 hm.1 rfl ?_
        refine J_iconst dX8_decodes_149 ?_
        refine V_iload_n dX8_decodes_150 rfl ?_
        refine R_astk_SD 2 dX8_decodes_151 hm rfl (by decide) (fun h hm => ?_)
        exact V_ret dX8_decodes_152 rfl ⟨Nat.zero_le _, Nat.zero_le _⟩ ⟨rfl, rfl, hm.eSD (fun j hj => by unfold dcd; (first | rw [if_pos c29] | (rw [if_neg c29]; first | rw [if_pos c85] | (rw [if_neg c85]; first | rw [if_pos c120] | rw [if_neg c120]))) <;> first | done | rfl | (unfold dcM; rw [if_pos (Or.inl c49)]; done) | (unfold dcM; rw [if_pos (Or.inr c71)]; done) | (unfold dcM; rw [if_neg (fun w => w.elim c49 c71)]; done) | (rw [show cnb (SD 5) (SD 2) = 0 by omega, Int.add_zero]; done) | (rw [show cnb (SD 5) (SD 2) = 1 by omega]; done) | (rw [show cnb (SD 5) (quad sc x) = 0 by omega]; done) | (rw [show cnb (SD 5) (quad sc x) = 1 by omega]; done))⟩
      · refine J_iconst dX8_decodes_108 ?_
        refine V_goto (tgt := 113) dX8_decodes_109 (by decide) ?_
        refine J_iadd dX8_decodes_113 ?_
        refine R_astk_SD 1 dX8_decodes_114 hm rfl (by decide) (fun h hm => ?_)
        refine V_goto (tgt := 145) dX8_decodes_115 (by decide) ?_
        refine V_aload_n dX8_decodes_145 rfl ?_
        refine V_get dX8_decodes_146 fX8_25 hm.1 rfl ?_
        refine J_iconst dX8_decodes_149 ?_
        refine V_iload_n dX8_decodes_150 rfl ?_
        refine R_astk_SD 2 dX8_decodes_151 hm rfl (by decide) (fun h hm => ?_)
        exact V_ret dX8_decodes_152 rfl ⟨Nat.zero_le _, Nat.zero_le _⟩ ⟨rfl, rfl, hm.eSD (fun j hj => by unfold dcd; (first | rw [if_pos c29] | (rw [if_neg c29]; first | rw [if_pos c85] | (rw [if_neg c85]; first | rw [if_pos c120] | rw [if_neg c120]))) <;> first | done | rfl | (unfold dcM; rw [if_pos (Or.inl c49)]; done) | (unfold dcM; rw [if_pos (Or.inr c71)]; done) | (unfold dcM; rw [if_neg (fun w => w.elim c49 c71)]; done) | (rw [show cnb (SD 5) (SD 2) = 0 by omega, Int.add_zero]; done) | (rw [show cnb (SD 5) (SD 2) = 1 by omega]; done) | (rw [show cnb (SD 5) (quad sc x) = 0 by omega]; done) | (rw [show cnb (SD 5) (quad sc x) = 1 by omega]; done))⟩
  · refine V_aload_n dX8_decodes_32 rfl ?_
    refine V_get dX8_decodes_33 fX8_25 hm.1 rfl ?_
    refine J_iconst dX8_decodes_36 ?_
    refine V_dup2 dX8_decodes_37 rfl rfl ?_
    refine R_aldk_SD 3 dX8_decodes_38 hm rfl (by decide) ?_
    refine J_iconst dX8_decodes_39 ?_
    refine J_iadd dX8_decodes_40 ?_
    refine R_astk_SD 3 dX8_decodes_41 hm rfl (by decide) (fun h hm => ?_)
    refine V_aload_n dX8_decodes_42 rfl ?_
    refine V_get dX8_decodes_43 fX8_25 hm.1 rfl ?_
    refine J_bipush dX8_decodes_46 (by decide) ?_
    refine R_aldk_SD 17 dX8_decodes_48 hm rfl (by decide) ?_
    change V z YX8_decodes _ _ _ _ (.int (I (SD 17)) :: _) _ _ _ _
    refine J_if_eq (tgt := 74) dX8_decodes_49 (by decide) (by omega) (fun c49 => ?_) (fun c49 => ?_)
    · refine V_aload_n dX8_decodes_74 rfl ?_
      refine J_iconst dX8_decodes_75 ?_
      refine V_iload_n dX8_decodes_76 rfl ?_
      refine V_callV (Y' := YX8_logs) dX8_decodes_77 lX8_92 gX8_logs (m8_logs hm (by first | omega | exact hr17)) hm.1 rfl rfl rfl (Nat.le_of_ble_eq_true rfl) ⟨Nat.zero_le _, Nat.zero_le _⟩ (fun v h1 sz1 hq => ?_)
      obtain ⟨rfl, rfl, hm⟩ := hq
      refine V_goto (tgt := 145) dX8_decodes_80 (by decide) ?_
      refine V_aload_n dX8_decodes_145 rfl ?_
      refine V_get dX8_decodes_146 fX8_25 hm.1 rfl ?_
      refine J_iconst dX8_decodes_149 ?_
      refine V_iload_n dX8_decodes_150 rfl ?_
      refine R_astk_SD 2 dX8_decodes_151 hm rfl (by decide) (fun h hm => ?_)
      exact V_ret dX8_decodes_152 rfl ⟨Nat.zero_le _, Nat.zero_le _⟩ ⟨rfl, rfl, hm.eSD (fun j hj => by unfold dcd; (first | rw [if_pos c29] | (rw [if_neg c29]; first | rw [if_pos c85] | (rw [if_neg c85]; first | rw [if_pos c120] | rw [if_neg c120]))) <;> first | done | rfl | (unfold dcM; rw [if_pos (Or.inl c49)]; done) | (unfold dcM; rw [if_pos (Or.inr c71)]; done) | (unfold dcM; rw [if_neg (fun w => w.elim c49 c71)]; done) | (rw [show cnb (SD 5) (SD 2) = 0 by omega, Int.add_zero]; done) | (rw [show cnb (SD 5) (SD 2) = 1 by omega]; done) | (rw [show cnb (SD 5) (quad sc x) = 0 by omega]; done) | (rw [show cnb (SD 5) (quad sc x) = 1 by omega]; done))⟩
    · refine V_aload_n dX8_decodes_52 rfl ?_
      refine V_get dX8_decodes_53 fX8_25 hm.1 rfl ?_
      refine J_bipush dX8_decodes_56 (by decide) ?_
      refine J_iconst dX8_decodes_58 ?_
      refine V_aload_n dX8_decodes_59 rfl ?_
      refine V_get dX8_decodes_60 fX8_25 hm.1 rfl ?_
      refine J_bipush dX8_decodes_63 (by decide) ?_
      refine R_aldk_SD 17 dX8_decodes_65 hm rfl (by decide) ?_
      change V z YX8_decodes _ _ _ _ (.int (I (SD 17)) :: _) _ _ _ _
      refine J_imul dX8_decodes_66 ?_
      refine J_iadd dX8_decodes_67 ?_
      refine J_iconst dX8_decodes_68 ?_
      refine J_isub dX8_decodes_69 ?_
      refine R_ald_SD dX8_decodes_70 hm (by omega) ?_
      have hv : va_up SD 3 (SD 3 + 1) (18 + 3 * SD 17 - 3).toNat = SD (18 + 3 * SD 17 - 3).toNat := if_neg (by omega)
      rw [hv]
      have hke := hre (SD 17 - 1).toNat (by omega)
      rw [show 18 + 3 * (SD 17 - 1).toNat = (18 + 3 * SD 17 - 3).toNat by omega] at hke
      refine J_if_ne (tgt := 145) dX8_decodes_71 (by decide) (by omega) (fun c71 => ?_) (fun c71 => ?_)
      · refine V_aload_n dX8_decodes_145 rfl ?_
        refine V_get dX8_decodes_146 fX8_25 hm.1 rfl ?_
        refine J_iconst dX8_decodes_149 ?_
        refine V_iload_n dX8_decodes_150 rfl ?_
        refine R_astk_SD 2 dX8_decodes_151 hm rfl (by decide) (fun h hm => ?_)
        exact V_ret dX8_decodes_152 rfl ⟨Nat.zero_le _, Nat.zero_le _⟩ ⟨rfl, rfl, hm.eSD (fun j hj => by unfold dcd; (first | rw [if_pos c29] | (rw [if_neg c29]; first | rw [if_pos c85] | (rw [if_neg c85]; first | rw [if_pos c120] | rw [if_neg c120]))) <;> first | done | rfl | (unfold dcM; rw [if_pos (Or.inl c49)]; done) | (unfold dcM; rw [if_pos (Or.inr c71)]; done) | (unfold dcM; rw [if_neg (fun w => w.elim c49 c71)]; done) | (rw [show cnb (SD 5) (SD 2) = 0 by omega, Int.add_zero]; done) | (rw [show cnb (SD 5) (SD 2) = 1 by omega]; done) | (rw [show cnb (SD 5) (quad sc x) = 0 by omega]; done) | (rw [show cnb (SD 5) (quad sc x) = 1 by omega]; done))⟩
      · refine V_aload_n dX8_decodes_74 rfl ?_
        refine J_iconst dX8_decodes_75 ?_
        refine V_iload_n dX8_decodes_76 rfl ?_
        refine V_callV (Y' := YX8_logs) dX8_decodes_77 lX8_92 gX8_logs (m8_logs hm (by first | omega | exact hr17)) hm.1 rfl rfl rfl (Nat.le_of_ble_eq_true rfl) ⟨Nat.zero_le _, Nat.zero_le _⟩ (fun v h1 sz1 hq => ?_)
        obtain ⟨rfl, rfl, hm⟩ := hq
        refine V_goto (tgt := 145) dX8_decodes_80 (by decide) ?_
        refine V_aload_n dX8_decodes_145 rfl ?_
        refine V_get dX8_decodes_146 fX8_25 hm.1 rfl ?_
        refine J_iconst dX8_decodes_149 ?_
        refine V_iload_n dX8_decodes_150 rfl ?_
        refine R_astk_SD 2 dX8_decodes_151 hm rfl (by decide) (fun h hm => ?_)
        exact V_ret dX8_decodes_152 rfl ⟨Nat.zero_le _, Nat.zero_le _⟩ ⟨rfl, rfl, hm.eSD (fun j hj => by unfold dcd; (first | rw [if_pos c29] | (rw [if_neg c29]; first | rw [if_pos c85] | (rw [if_neg c85]; first | rw [if_pos c120] | rw [if_neg c120]))) <;> first | done | rfl | (unfold dcM; rw [if_pos (Or.inl c49)]; done) | (unfold dcM; rw [if_pos (Or.inr c71)]; done) | (unfold dcM; rw [if_neg (fun w => w.elim c49 c71)]; done) | (rw [show cnb (SD 5) (SD 2) = 0 by omega, Int.add_zero]; done) | (rw [show cnb (SD 5) (SD 2) = 1 by omega]; done) | (rw [show cnb (SD 5) (quad sc x) = 0 by omega]; done) | (rw [show cnb (SD 5) (quad sc x) = 1 by omega]; done))⟩
end
section
/-! THE REFERENCE: samples and moves -/
theorem V_top {z : ZG} {Y : ZM} {R : Room} {Q : ZQ} {pc : Nat} {L : AL} {st : List Value} {h : AH} {sz kc nc : Nat} {a b : Int} (e : a = b) (k : V z Y R Q pc L (.int (I b) :: st) h sz kc nc) : V z Y R Q pc L (.int (I a) :: st) h sz kc nc := by rw [e]; exact k
theorem mkL_s {MA : Nat → Int} {mk : Nat} {a b : Int} {S : Nat → Int} {k : Nat} : mkL MA mk a b S (k + 1) = @ite _ (pas a b (mkA MA mk a b k)) (Classical.propDecidable _) (lgE (mkL MA mk a b S k) 0 b) (mkL MA mk a b S k) := rfl
theorem mvF_s {sc : Int} {mk : Nat} {MA : Nat → Int} {t v : Int} {f : Nat} {S : Nat → Int} : mvF sc mk MA t v (f + 1) S = if S 0 = t then S else mvF sc mk MA t v f (smp sc mk MA S (S 0) (nxt (S 0) t v)) := rfl
theorem drt_up {S : Nat → Int} {k m : Nat} {v x : Int} (h : k < 9) : drt (va_up S k v) m x ↔ drt S m x := by
  unfold drt va_up
  constructor
  · rintro ⟨q, h1, h2⟩; rw [if_neg (by omega), if_neg (by omega)] at h2; exact ⟨q, h1, h2⟩
  · rintro ⟨q, h1, h2⟩; refine ⟨q, h1, ?_⟩; rw [if_neg (by omega), if_neg (by omega)]; exact h2
set_option maxHeartbeats 4000000 in
set_option maxRecDepth 100000 in
theorem l8_sampleAt_25 {z : ZG} {d sz r n s : Nat} {g : AH} {l sp nu rs rm sc km : Int} {T RA RD MA NW KP : Nat → Int} {m : Nat} {a b : Int} {S2 : Nat → Int} (ha : 0 ≤ a ∧ a ≤ 9999) (hb : 0 ≤ b ∧ b ≤ 9999) (hmk : m ≤ 6) (hma : ∀ j : Nat, j < 6 → 0 ≤ MA j ∧ MA j ≤ 9999) (hr2 : rok S2) : ∀ (f k : Nat) (h : AH) (o4 : Option Value), k ≤ m → m - k < f → MS g r n s l sp nu rs rm sc m km T RA RD MA NW (mkL MA m a b S2 k) KP h → V z YX8_sampleAt (zroom (d + 1) 0 0) (fun w h' sz' => w = none ∧ sz' = sz ∧ MS g r n s l sp nu rs rm sc m km T RA RD MA NW (va_up (mkL MA m a b S2 m) 0 b) KP h') 25 [some (.ref r), some (.int (I a)), some (.int (I b)), some (.int (I (k : Int))), o4] [] h sz 0 0 := by
  intro f
  induction f with
  | zero => intro k h o4 h1 h2; omega
  | succ f ih =>
    intro k h o4 h1 h2 hm
    refine V_iload_n dX8_sampleAt_25 rfl ?_
    refine V_aload_n dX8_sampleAt_26 rfl ?_
    refine V_get dX8_sampleAt_27 fX8_47 hm.1 rfl ?_
    refine J_icmp_ge (tgt := 106) dX8_sampleAt_30 (by decide) (by omega) (by omega) (fun c30 => ?_) (fun c30 => ?_)
    · refine V_aload_n dX8_sampleAt_106 rfl ?_
      refine V_get dX8_sampleAt_107 fX8_25 hm.1 rfl ?_
      refine J_iconst dX8_sampleAt_110 ?_
      refine V_iload_n dX8_sampleAt_111 rfl ?_
      refine R_astk_SD 0 dX8_sampleAt_112 hm rfl (by decide) (fun h hm => ?_)
      exact V_ret dX8_sampleAt_113 rfl ⟨Nat.zero_le _, Nat.zero_le _⟩ ⟨rfl, rfl, hm.eSD (fun j hj => by rw [show k = m by omega])⟩
    · have q1 := hma k (by omega)
      have q2 := hma (m - 1 - k) (by omega)
      refine V_iload_n dX8_sampleAt_33 rfl ?_
      refine V_iload_n dX8_sampleAt_34 rfl ?_
      refine J_icmp_ge (tgt := 47) dX8_sampleAt_35 (by decide) (by omega) (by omega) (fun c35 => ?_) (fun c35 => ?_)
      · refine V_aload_n dX8_sampleAt_47 rfl ?_
        refine V_get dX8_sampleAt_48 fX8_19 hm.1 rfl ?_
        refine V_aload_n dX8_sampleAt_51 rfl ?_
        refine V_get dX8_sampleAt_52 fX8_47 hm.1 rfl ?_
        refine J_iconst dX8_sampleAt_55 ?_
        refine J_isub dX8_sampleAt_56 ?_
        refine V_iload_n dX8_sampleAt_57 rfl ?_
        refine J_isub dX8_sampleAt_58 ?_
        refine R_aldk_MA (m - 1 - k) dX8_sampleAt_59 hm (by omega) (by omega) ?_
        refine V_istore dX8_sampleAt_60 (Nat.le_of_ble_eq_true rfl) ?_
        refine V_iload_n dX8_sampleAt_62 rfl ?_
        refine V_iload_n dX8_sampleAt_63 rfl ?_
        refine J_icmp_ge (tgt := 82) dX8_sampleAt_64 (by decide) (by omega) (by omega) (fun c64 => ?_) (fun c64 => ?_)
        · refine V_iload_n dX8_sampleAt_82 rfl ?_
          refine V_iload dX8_sampleAt_83 rfl ?_
          refine J_icmp_gt (tgt := 100) dX8_sampleAt_85 (by decide) (by omega) (by omega) (fun c85 => ?_) (fun c85 => ?_)
          · refine J_iinc dX8_sampleAt_100 rfl ?_
            refine V_goto (tgt := 25) dX8_sampleAt_103 (by decide) ?_
            refine ih (k + 1) _ _ (by omega) (by omega) (hm.eSD (fun j hj => ?_))
            rw [mkL_s]
            have hpA : mkA MA m a b k = if a < b then MA k else MA (m - 1 - k) := rfl
            by_cases hp : pas a b (mkA MA m a b k)
            · rw [if_pos hp]; first | done | (exfalso; revert hp; rw [hpA]; unfold pas; split <;> omega)
            · rw [if_neg hp]; first | done | (exfalso; apply hp; rw [hpA]; unfold pas; split <;> omega)
          · refine V_iload dX8_sampleAt_88 rfl ?_
            refine V_iload_n dX8_sampleAt_90 rfl ?_
            refine J_icmp_ge (tgt := 100) dX8_sampleAt_91 (by decide) (by omega) (by omega) (fun c91 => ?_) (fun c91 => ?_)
            · refine J_iinc dX8_sampleAt_100 rfl ?_
              refine V_goto (tgt := 25) dX8_sampleAt_103 (by decide) ?_
              refine ih (k + 1) _ _ (by omega) (by omega) (hm.eSD (fun j hj => ?_))
              rw [mkL_s]
              have hpA : mkA MA m a b k = if a < b then MA k else MA (m - 1 - k) := rfl
              by_cases hp : pas a b (mkA MA m a b k)
              · rw [if_pos hp]; first | done | (exfalso; revert hp; rw [hpA]; unfold pas; split <;> omega)
              · rw [if_neg hp]; first | done | (exfalso; apply hp; rw [hpA]; unfold pas; split <;> omega)
            · refine V_aload_n dX8_sampleAt_94 rfl ?_
              refine J_iconst dX8_sampleAt_95 ?_
              refine V_iload_n dX8_sampleAt_96 rfl ?_
              refine V_callV (Y' := YX8_logs) dX8_sampleAt_97 lX8_92 gX8_logs (m8_logs hm (rok_mkL hr2 k).2.2.2.2.2.2.1) hm.1 rfl rfl rfl (Nat.le_of_ble_eq_true rfl) ⟨Nat.zero_le _, Nat.zero_le _⟩ (fun v h1 sz1 hq => ?_)
              obtain ⟨rfl, rfl, hm⟩ := hq
              refine J_iinc dX8_sampleAt_100 rfl ?_
              refine V_goto (tgt := 25) dX8_sampleAt_103 (by decide) ?_
              refine ih (k + 1) _ _ (by omega) (by omega) (hm.eSD (fun j hj => ?_))
              rw [mkL_s]
              have hpA : mkA MA m a b k = if a < b then MA k else MA (m - 1 - k) := rfl
              by_cases hp : pas a b (mkA MA m a b k)
              · rw [if_pos hp]; first | done | (exfalso; revert hp; rw [hpA]; unfold pas; split <;> omega)
              · rw [if_neg hp]; first | done | (exfalso; apply hp; rw [hpA]; unfold pas; split <;> omega)
        · refine V_iload_n dX8_sampleAt_67 rfl ?_
          refine V_iload dX8_sampleAt_68 rfl ?_
          refine J_icmp_ge (tgt := 100) dX8_sampleAt_70 (by decide) (by omega) (by omega) (fun c70 => ?_) (fun c70 => ?_)
          · refine J_iinc dX8_sampleAt_100 rfl ?_
            refine V_goto (tgt := 25) dX8_sampleAt_103 (by decide) ?_
            refine ih (k + 1) _ _ (by omega) (by omega) (hm.eSD (fun j hj => ?_))
            rw [mkL_s]
            have hpA : mkA MA m a b k = if a < b then MA k else MA (m - 1 - k) := rfl
            by_cases hp : pas a b (mkA MA m a b k)
            · rw [if_pos hp]; first | done | (exfalso; revert hp; rw [hpA]; unfold pas; split <;> omega)
            · rw [if_neg hp]; first | done | (exfalso; apply hp; rw [hpA]; unfold pas; split <;> omega)
          · refine V_iload dX8_sampleAt_73 rfl ?_
            refine V_iload_n dX8_sampleAt_75 rfl ?_
            refine J_icmp_gt (tgt := 100) dX8_sampleAt_76 (by decide) (by omega) (by omega) (fun c76 => ?_) (fun c76 => ?_)
            · refine J_iinc dX8_sampleAt_100 rfl ?_
              refine V_goto (tgt := 25) dX8_sampleAt_103 (by decide) ?_
              refine ih (k + 1) _ _ (by omega) (by omega) (hm.eSD (fun j hj => ?_))
              rw [mkL_s]
              have hpA : mkA MA m a b k = if a < b then MA k else MA (m - 1 - k) := rfl
              by_cases hp : pas a b (mkA MA m a b k)
              · rw [if_pos hp]; first | done | (exfalso; revert hp; rw [hpA]; unfold pas; split <;> omega)
              · rw [if_neg hp]; first | done | (exfalso; apply hp; rw [hpA]; unfold pas; split <;> omega)
            · refine V_goto (tgt := 94) dX8_sampleAt_79 (by decide) ?_
              refine V_aload_n dX8_sampleAt_94 rfl ?_
              refine J_iconst dX8_sampleAt_95 ?_
              refine V_iload_n dX8_sampleAt_96 rfl ?_
              refine V_callV (Y' := YX8_logs) dX8_sampleAt_97 lX8_92 gX8_logs (m8_logs hm (rok_mkL hr2 k).2.2.2.2.2.2.1) hm.1 rfl rfl rfl (Nat.le_of_ble_eq_true rfl) ⟨Nat.zero_le _, Nat.zero_le _⟩ (fun v h1 sz1 hq => ?_)
              obtain ⟨rfl, rfl, hm⟩ := hq
              refine J_iinc dX8_sampleAt_100 rfl ?_
              refine V_goto (tgt := 25) dX8_sampleAt_103 (by decide) ?_
              refine ih (k + 1) _ _ (by omega) (by omega) (hm.eSD (fun j hj => ?_))
              rw [mkL_s]
              have hpA : mkA MA m a b k = if a < b then MA k else MA (m - 1 - k) := rfl
              by_cases hp : pas a b (mkA MA m a b k)
              · rw [if_pos hp]; first | done | (exfalso; revert hp; rw [hpA]; unfold pas; split <;> omega)
              · rw [if_neg hp]; first | done | (exfalso; apply hp; rw [hpA]; unfold pas; split <;> omega)
      · refine V_aload_n dX8_sampleAt_38 rfl ?_
        refine V_get dX8_sampleAt_39 fX8_19 hm.1 rfl ?_
        refine V_iload_n dX8_sampleAt_42 rfl ?_
        refine R_aldk_MA k dX8_sampleAt_43 hm (by omega) (by omega) ?_
        refine V_goto (tgt := 60) dX8_sampleAt_44 (by decide) ?_
        refine V_istore dX8_sampleAt_60 (Nat.le_of_ble_eq_true rfl) ?_
        refine V_iload_n dX8_sampleAt_62 rfl ?_
        refine V_iload_n dX8_sampleAt_63 rfl ?_
        refine J_icmp_ge (tgt := 82) dX8_sampleAt_64 (by decide) (by omega) (by omega) (fun c64 => ?_) (fun c64 => ?_)
        · refine V_iload_n dX8_sampleAt_82 rfl ?_
          refine V_iload dX8_sampleAt_83 rfl ?_
          refine J_icmp_gt (tgt := 100) dX8_sampleAt_85 (by decide) (by omega) (by omega) (fun c85 => ?_) (fun c85 => ?_)
          · refine J_iinc dX8_sampleAt_100 rfl ?_
            refine V_goto (tgt := 25) dX8_sampleAt_103 (by decide) ?_
            refine ih (k + 1) _ _ (by omega) (by omega) (hm.eSD (fun j hj => ?_))
            rw [mkL_s]
            have hpA : mkA MA m a b k = if a < b then MA k else MA (m - 1 - k) := rfl
            by_cases hp : pas a b (mkA MA m a b k)
            · rw [if_pos hp]; first | done | (exfalso; revert hp; rw [hpA]; unfold pas; split <;> omega)
            · rw [if_neg hp]; first | done | (exfalso; apply hp; rw [hpA]; unfold pas; split <;> omega)
          · refine V_iload dX8_sampleAt_88 rfl ?_
            refine V_iload_n dX8_sampleAt_90 rfl ?_
            refine J_icmp_ge (tgt := 100) dX8_sampleAt_91 (by decide) (by omega) (by omega) (fun c91 => ?_) (fun c91 => ?_)
            · refine J_iinc dX8_sampleAt_100 rfl ?_
              refine V_goto (tgt := 25) dX8_sampleAt_103 (by decide) ?_
              refine ih (k + 1) _ _ (by omega) (by omega) (hm.eSD (fun j hj => ?_))
              rw [mkL_s]
              have hpA : mkA MA m a b k = if a < b then MA k else MA (m - 1 - k) := rfl
              by_cases hp : pas a b (mkA MA m a b k)
              · rw [if_pos hp]; first | done | (exfalso; revert hp; rw [hpA]; unfold pas; split <;> omega)
              · rw [if_neg hp]; first | done | (exfalso; apply hp; rw [hpA]; unfold pas; split <;> omega)
            · refine V_aload_n dX8_sampleAt_94 rfl ?_
              refine J_iconst dX8_sampleAt_95 ?_
              refine V_iload_n dX8_sampleAt_96 rfl ?_
              refine V_callV (Y' := YX8_logs) dX8_sampleAt_97 lX8_92 gX8_logs (m8_logs hm (rok_mkL hr2 k).2.2.2.2.2.2.1) hm.1 rfl rfl rfl (Nat.le_of_ble_eq_true rfl) ⟨Nat.zero_le _, Nat.zero_le _⟩ (fun v h1 sz1 hq => ?_)
              obtain ⟨rfl, rfl, hm⟩ := hq
              refine J_iinc dX8_sampleAt_100 rfl ?_
              refine V_goto (tgt := 25) dX8_sampleAt_103 (by decide) ?_
              refine ih (k + 1) _ _ (by omega) (by omega) (hm.eSD (fun j hj => ?_))
              rw [mkL_s]
              have hpA : mkA MA m a b k = if a < b then MA k else MA (m - 1 - k) := rfl
              by_cases hp : pas a b (mkA MA m a b k)
              · rw [if_pos hp]; first | done | (exfalso; revert hp; rw [hpA]; unfold pas; split <;> omega)
              · rw [if_neg hp]; first | done | (exfalso; apply hp; rw [hpA]; unfold pas; split <;> omega)
        · refine V_iload_n dX8_sampleAt_67 rfl ?_
          refine V_iload dX8_sampleAt_68 rfl ?_
          refine J_icmp_ge (tgt := 100) dX8_sampleAt_70 (by decide) (by omega) (by omega) (fun c70 => ?_) (fun c70 => ?_)
          · refine J_iinc dX8_sampleAt_100 rfl ?_
            refine V_goto (tgt := 25) dX8_sampleAt_103 (by decide) ?_
            refine ih (k + 1) _ _ (by omega) (by omega) (hm.eSD (fun j hj => ?_))
            rw [mkL_s]
            have hpA : mkA MA m a b k = if a < b then MA k else MA (m - 1 - k) := rfl
            by_cases hp : pas a b (mkA MA m a b k)
            · rw [if_pos hp]; first | done | (exfalso; revert hp; rw [hpA]; unfold pas; split <;> omega)
            · rw [if_neg hp]; first | done | (exfalso; apply hp; rw [hpA]; unfold pas; split <;> omega)
          · refine V_iload dX8_sampleAt_73 rfl ?_
            refine V_iload_n dX8_sampleAt_75 rfl ?_
            refine J_icmp_gt (tgt := 100) dX8_sampleAt_76 (by decide) (by omega) (by omega) (fun c76 => ?_) (fun c76 => ?_)
            · refine J_iinc dX8_sampleAt_100 rfl ?_
              refine V_goto (tgt := 25) dX8_sampleAt_103 (by decide) ?_
              refine ih (k + 1) _ _ (by omega) (by omega) (hm.eSD (fun j hj => ?_))
              rw [mkL_s]
              have hpA : mkA MA m a b k = if a < b then MA k else MA (m - 1 - k) := rfl
              by_cases hp : pas a b (mkA MA m a b k)
              · rw [if_pos hp]; first | done | (exfalso; revert hp; rw [hpA]; unfold pas; split <;> omega)
              · rw [if_neg hp]; first | done | (exfalso; apply hp; rw [hpA]; unfold pas; split <;> omega)
            · refine V_goto (tgt := 94) dX8_sampleAt_79 (by decide) ?_
              refine V_aload_n dX8_sampleAt_94 rfl ?_
              refine J_iconst dX8_sampleAt_95 ?_
              refine V_iload_n dX8_sampleAt_96 rfl ?_
              refine V_callV (Y' := YX8_logs) dX8_sampleAt_97 lX8_92 gX8_logs (m8_logs hm (rok_mkL hr2 k).2.2.2.2.2.2.1) hm.1 rfl rfl rfl (Nat.le_of_ble_eq_true rfl) ⟨Nat.zero_le _, Nat.zero_le _⟩ (fun v h1 sz1 hq => ?_)
              obtain ⟨rfl, rfl, hm⟩ := hq
              refine J_iinc dX8_sampleAt_100 rfl ?_
              refine V_goto (tgt := 25) dX8_sampleAt_103 (by decide) ?_
              refine ih (k + 1) _ _ (by omega) (by omega) (hm.eSD (fun j hj => ?_))
              rw [mkL_s]
              have hpA : mkA MA m a b k = if a < b then MA k else MA (m - 1 - k) := rfl
              by_cases hp : pas a b (mkA MA m a b k)
              · rw [if_pos hp]; first | done | (exfalso; revert hp; rw [hpA]; unfold pas; split <;> omega)
              · rw [if_neg hp]; first | done | (exfalso; apply hp; rw [hpA]; unfold pas; split <;> omega)
set_option maxHeartbeats 4000000 in
set_option maxRecDepth 100000 in
theorem l8_sampleAt_A {z : ZG} {d sz r n s : Nat} {g h : AH} {l sp nu rs rm sc km : Int} {T RA RD MA NW SD KP : Nat → Int} {m : Nat} {a b : Int} (ha : 0 ≤ a ∧ a ≤ 9999) (hb : 0 ≤ b ∧ b ≤ 9999) (hmk : m ≤ 6) (hma : ∀ j : Nat, j < 6 → 0 ≤ MA j ∧ MA j ≤ 9999) (hs : 8 ≤ sc ∧ sc ≤ 80) (hr1 : rok (va_up SD 4 (SD 4 + 1))) (hD : drt SD (SD 8).toNat b) (hm : MS g r n s l sp nu rs rm sc m km T RA RD MA NW (va_up SD 4 (SD 4 + 1)) KP h) {o4 : Option Value} : V z YX8_sampleAt (zroom (d + 1) 0 0) (fun w h' sz' => w = none ∧ sz' = sz ∧ MS g r n s l sp nu rs rm sc m km T RA RD MA NW (smp sc m MA SD a b) KP h') 25 [some (.ref r), some (.int (I a)), some (.int (I b)), some (.int (I ((0 : Nat) : Int))), o4] [] h sz 0 0 := by
  refine V_mono ?_ (l8_sampleAt_25 (S2 := (va_up SD 4 (SD 4 + 1))) ha hb hmk hma hr1 7 0 _ _ (by omega) (by omega) hm)
  rintro w h2 sz2 ⟨rfl, rfl, hm⟩
  exact ⟨rfl, rfl, hm.eSD (fun j hj => by unfold smp; rw [if_pos hD])⟩
set_option maxHeartbeats 4000000 in
set_option maxRecDepth 100000 in
theorem l8_sampleAt_B {z : ZG} {d sz r n s : Nat} {g h : AH} {l sp nu rs rm sc km : Int} {T RA RD MA NW SD KP : Nat → Int} {m : Nat} {a b : Int} (ha : 0 ≤ a ∧ a ≤ 9999) (hb : 0 ≤ b ∧ b ≤ 9999) (hmk : m ≤ 6) (hma : ∀ j : Nat, j < 6 → 0 ≤ MA j ∧ MA j ≤ 9999) (hs : 8 ≤ sc ∧ sc ≤ 80) (hr1 : rok (va_up SD 4 (SD 4 + 1))) (hD : ¬ drt SD (SD 8).toNat b) (hm : MS g r n s l sp nu rs rm sc m km T RA RD MA NW (dcd sc (va_up SD 4 (SD 4 + 1)) b) KP h) {o4 : Option Value} : V z YX8_sampleAt (zroom (d + 1) 0 0) (fun w h' sz' => w = none ∧ sz' = sz ∧ MS g r n s l sp nu rs rm sc m km T RA RD MA NW (smp sc m MA SD a b) KP h') 25 [some (.ref r), some (.int (I a)), some (.int (I b)), some (.int (I ((0 : Nat) : Int))), o4] [] h sz 0 0 := by
  refine V_mono ?_ (l8_sampleAt_25 (S2 := (dcd sc (va_up SD 4 (SD 4 + 1)) b)) ha hb hmk hma (rok_dcd (by omega) hr1) 7 0 _ _ (by omega) (by omega) hm)
  rintro w h2 sz2 ⟨rfl, rfl, hm⟩
  exact ⟨rfl, rfl, hm.eSD (fun j hj => by unfold smp; rw [if_neg hD])⟩
set_option maxHeartbeats 4000000 in
set_option maxRecDepth 100000 in
theorem m8_sampleAt {z : ZG} {d sz r n s : Nat} {g h : AH} {l sp nu rs rm sc km : Int} {T RA RD MA NW SD KP : Nat → Int} {m : Nat} {a b : Int} (ha : 0 ≤ a ∧ a ≤ 9999) (hb : 0 ≤ b ∧ b ≤ 9999) (hmk : m ≤ 6) (hma : ∀ j : Nat, j < 6 → 0 ≤ MA j ∧ MA j ≤ 9999) (hs : 8 ≤ sc ∧ sc ≤ 80) (hm : MS g r n s l sp nu rs rm sc m km T RA RD MA NW SD KP h) (hr : rok SD) : M z YX8_sampleAt (d + 2) 0 0 [.ref r, .int (I a), .int (I b)] h sz (fun w h' sz' => w = none ∧ sz' = sz ∧ MS g r n s l sp nu rs rm sc m km T RA RD MA NW (smp sc m MA SD a b) KP h') := by
  refine M.of (by decide +kernel) (Nat.le_of_ble_eq_true rfl) ?_
  have hr1 : rok (va_up SD 4 (SD 4 + 1)) := rok_up hr (by omega)
  refine V_aload_n dX8_sampleAt_0 rfl ?_
  refine V_get dX8_sampleAt_1 fX8_25 hm.1 rfl ?_
  refine J_iconst dX8_sampleAt_4 ?_
  refine V_dup2 dX8_sampleAt_5 rfl rfl ?_
  refine R_aldk_SD 4 dX8_sampleAt_6 hm rfl (by decide) ?_
  refine J_iconst dX8_sampleAt_7 ?_
  refine J_iadd dX8_sampleAt_8 ?_
  refine R_astk_SD 4 dX8_sampleAt_9 hm rfl (by decide) (fun h hm => ?_)
  refine V_aload_n dX8_sampleAt_10 rfl ?_
  refine V_iload_n dX8_sampleAt_11 rfl ?_
  refine V_callV (Y' := YX8_isDirty) dX8_sampleAt_12 lX8_100 gX8_isDirty (m8_isDirty (by omega) hm hr1.2.2.2.2.2.1 hr1.2.2.2.2.2.2.2.1) hm.1 rfl rfl rfl (Nat.le_of_ble_eq_true rfl) ⟨Nat.zero_le _, Nat.zero_le _⟩ (fun v h1 sz1 hq => ?_)
  obtain ⟨t12, rfl, ht12, rfl, rfl⟩ := hq
  have ht15 : (t12 = 1 ∧ drt SD (SD 8).toNat b) ∨ (t12 = 0 ∧ ¬ drt SD (SD 8).toNat b) := ht12.imp (fun q => ⟨q.1, (drt_up (by omega)).mp q.2⟩) (fun q => ⟨q.1, fun w => q.2 ((drt_up (by omega)).mpr w)⟩)
  have htr : t12 = 1 ∨ t12 = 0 := ht15.imp (fun q => q.1) (fun q => q.1)
  refine J_if_ne (tgt := 23) dX8_sampleAt_15 (by decide) (by omega) (fun c15 => ?_) (fun c15 => ?_)
  · refine J_iconst dX8_sampleAt_23 ?_
    refine V_istore_n dX8_sampleAt_24 (Nat.le_of_ble_eq_true rfl) ?_
    first | exact l8_sampleAt_A ha hb hmk hma hs hr1 (ht15.elim (fun q => q.2) (fun q => absurd q.1 (by omega))) hm | exact l8_sampleAt_B ha hb hmk hma hs hr1 (ht15.elim (fun q => absurd q.1 (by omega)) (fun q => q.2)) hm
  · refine V_aload_n dX8_sampleAt_18 rfl ?_
    refine V_iload_n dX8_sampleAt_19 rfl ?_
    refine V_callV (Y' := YX8_decodes) dX8_sampleAt_20 lX8_103 gX8_decodes (m8_decodes (by omega) hs hm hr1) hm.1 rfl rfl rfl (Nat.le_of_ble_eq_true rfl) ⟨Nat.zero_le _, Nat.zero_le _⟩ (fun v h1 sz1 hq => ?_)
    obtain ⟨rfl, rfl, hm⟩ := hq
    refine J_iconst dX8_sampleAt_23 ?_
    refine V_istore_n dX8_sampleAt_24 (Nat.le_of_ble_eq_true rfl) ?_
    first | exact l8_sampleAt_A ha hb hmk hma hs hr1 (ht15.elim (fun q => q.2) (fun q => absurd q.1 (by omega))) hm | exact l8_sampleAt_B ha hb hmk hma hs hr1 (ht15.elim (fun q => absurd q.1 (by omega)) (fun q => q.2)) hm
set_option maxHeartbeats 4000000 in
set_option maxRecDepth 100000 in
theorem l8_moves {z : ZG} {d sz r n s : Nat} {g : AH} {l sp nu rs rm sc km : Int} {T RA RD MA NW KP : Nat → Int} {m : Nat} {t v : Int} (ht : 0 ≤ t ∧ t ≤ 9999) (hv : 1 ≤ v ∧ v ≤ 99) (hmk : m ≤ 6) (hma : ∀ j : Nat, j < 6 → 0 ≤ MA j ∧ MA j ≤ 9999) (hs : 8 ≤ sc ∧ sc ≤ 80) : ∀ (f : Nat) (SD : Nat → Int) (h : AH) (o3 o4 o5 : Option Value), (SD 0 - t).natAbs ≤ f → rok SD → MS g r n s l sp nu rs rm sc m km T RA RD MA NW SD KP h → V z YX8_moves (zroom (d + 3) 0 0) (fun w h' sz' => w = none ∧ sz' = sz ∧ MS g r n s l sp nu rs rm sc m km T RA RD MA NW (mvF sc m MA t v f SD) KP h') 0 [some (.ref r), some (.int (I t)), some (.int (I v)), o3, o4, o5] [] h sz 0 0 := by
  intro f
  induction f with
  | zero =>
    intro SD h o3 o4 o5 hf hr hm
    have hr0 := hr.1
    refine V_aload_n dX8_moves_0 rfl ?_
    refine V_get dX8_moves_1 fX8_25 hm.1 rfl ?_
    refine J_iconst dX8_moves_4 ?_
    refine R_aldk_SD 0 dX8_moves_5 hm rfl (by decide) ?_
    refine V_iload_n dX8_moves_6 rfl ?_
    refine J_icmp_eq (tgt := 71) dX8_moves_7 (by decide) (by omega) (by omega) (fun c7 => ?_) (fun c7 => ?_)
    · exact V_ret dX8_moves_71 rfl ⟨Nat.zero_le _, Nat.zero_le _⟩ ⟨rfl, rfl, hm⟩
    · exfalso
      omega
  | succ f ih =>
    intro SD h o3 o4 o5 hf hr hm
    have hr0 := hr.1
    refine V_aload_n dX8_moves_0 rfl ?_
    refine V_get dX8_moves_1 fX8_25 hm.1 rfl ?_
    refine J_iconst dX8_moves_4 ?_
    refine R_aldk_SD 0 dX8_moves_5 hm rfl (by decide) ?_
    refine V_iload_n dX8_moves_6 rfl ?_
    refine J_icmp_eq (tgt := 71) dX8_moves_7 (by decide) (by omega) (by omega) (fun c7 => ?_) (fun c7 => ?_)
    · exact V_ret dX8_moves_71 rfl ⟨Nat.zero_le _, Nat.zero_le _⟩ ⟨rfl, rfl, hm.eSD (fun j hj => by rw [mvF_s, if_pos c7])⟩
    · have hn1 := nxt_rg hr0 ht hv.1 c7
      refine V_aload_n dX8_moves_10 rfl ?_
      refine V_get dX8_moves_11 fX8_25 hm.1 rfl ?_
      refine J_iconst dX8_moves_14 ?_
      refine R_aldk_SD 0 dX8_moves_15 hm rfl (by decide) ?_
      refine V_istore_n dX8_moves_16 (Nat.le_of_ble_eq_true rfl) ?_
      refine V_iload_n dX8_moves_17 rfl ?_
      refine V_iload_n dX8_moves_18 rfl ?_
      refine J_icmp_le (tgt := 28) dX8_moves_19 (by decide) (by omega) (by omega) (fun c19 => ?_) (fun c19 => ?_)
      · refine V_iload_n dX8_moves_28 rfl ?_
        refine V_iload_n dX8_moves_29 rfl ?_
        refine J_isub dX8_moves_30 ?_
        refine V_istore dX8_moves_31 (Nat.le_of_ble_eq_true rfl) ?_
        refine V_iload dX8_moves_33 rfl ?_
        refine V_iload_n dX8_moves_35 rfl ?_
        refine J_icmp_ge (tgt := 44) dX8_moves_36 (by decide) (by omega) (by omega) (fun c36 => ?_) (fun c36 => ?_)
        · refine V_iload_n dX8_moves_44 rfl ?_
          refine V_istore dX8_moves_45 (Nat.le_of_ble_eq_true rfl) ?_
          refine V_aload_n dX8_moves_47 rfl ?_
          refine V_iload_n dX8_moves_48 rfl ?_
          refine V_iload_n dX8_moves_49 rfl ?_
          refine V_iload_n dX8_moves_50 rfl ?_
          refine J_icmp_le (tgt := 61) dX8_moves_51 (by decide) (by omega) (by omega) (fun c51 => ?_) (fun c51 => ?_)
          · refine V_iload_n dX8_moves_61 rfl ?_
            refine V_iload dX8_moves_62 rfl ?_
            refine J_isub dX8_moves_64 ?_
            refine V_top (b := nxt (SD 0) t v) (by unfold nxt; split <;> split <;> omega) ?_
            refine V_callV (Y' := YX8_sampleAt) dX8_moves_65 lX8_107 gX8_sampleAt (m8_sampleAt (by omega) hn1.1 hmk hma hs hm hr) hm.1 rfl rfl rfl (Nat.le_of_ble_eq_true rfl) ⟨Nat.zero_le _, Nat.zero_le _⟩ (fun v h1 sz1 hq => ?_)
            obtain ⟨rfl, rfl, hm⟩ := hq
            refine V_goto (tgt := 0) dX8_moves_68 (by decide) ?_
            refine V_mono ?_ (ih (smp sc m MA SD (SD 0) (nxt (SD 0) t v)) _ _ _ _ (by show (nxt (SD 0) t v - t).natAbs ≤ f; omega) (rok_smp (by omega) hn1.1 hr) hm)
            rintro w h2 sz2 ⟨rfl, rfl, hm⟩
            exact ⟨rfl, rfl, hm.eSD (fun j hj => by rw [mvF_s, if_neg c7])⟩
          · refine V_iload_n dX8_moves_54 rfl ?_
            refine V_iload dX8_moves_55 rfl ?_
            refine J_iadd dX8_moves_57 ?_
            refine V_goto (tgt := 65) dX8_moves_58 (by decide) ?_
            refine V_top (b := nxt (SD 0) t v) (by unfold nxt; split <;> split <;> omega) ?_
            refine V_callV (Y' := YX8_sampleAt) dX8_moves_65 lX8_107 gX8_sampleAt (m8_sampleAt (by omega) hn1.1 hmk hma hs hm hr) hm.1 rfl rfl rfl (Nat.le_of_ble_eq_true rfl) ⟨Nat.zero_le _, Nat.zero_le _⟩ (fun v h1 sz1 hq => ?_)
            obtain ⟨rfl, rfl, hm⟩ := hq
            refine V_goto (tgt := 0) dX8_moves_68 (by decide) ?_
            refine V_mono ?_ (ih (smp sc m MA SD (SD 0) (nxt (SD 0) t v)) _ _ _ _ (by show (nxt (SD 0) t v - t).natAbs ≤ f; omega) (rok_smp (by omega) hn1.1 hr) hm)
            rintro w h2 sz2 ⟨rfl, rfl, hm⟩
            exact ⟨rfl, rfl, hm.eSD (fun j hj => by rw [mvF_s, if_neg c7])⟩
        · refine V_iload dX8_moves_39 rfl ?_
          refine V_goto (tgt := 45) dX8_moves_41 (by decide) ?_
          refine V_istore dX8_moves_45 (Nat.le_of_ble_eq_true rfl) ?_
          refine V_aload_n dX8_moves_47 rfl ?_
          refine V_iload_n dX8_moves_48 rfl ?_
          refine V_iload_n dX8_moves_49 rfl ?_
          refine V_iload_n dX8_moves_50 rfl ?_
          refine J_icmp_le (tgt := 61) dX8_moves_51 (by decide) (by omega) (by omega) (fun c51 => ?_) (fun c51 => ?_)
          · refine V_iload_n dX8_moves_61 rfl ?_
            refine V_iload dX8_moves_62 rfl ?_
            refine J_isub dX8_moves_64 ?_
            refine V_top (b := nxt (SD 0) t v) (by unfold nxt; split <;> split <;> omega) ?_
            refine V_callV (Y' := YX8_sampleAt) dX8_moves_65 lX8_107 gX8_sampleAt (m8_sampleAt (by omega) hn1.1 hmk hma hs hm hr) hm.1 rfl rfl rfl (Nat.le_of_ble_eq_true rfl) ⟨Nat.zero_le _, Nat.zero_le _⟩ (fun v h1 sz1 hq => ?_)
            obtain ⟨rfl, rfl, hm⟩ := hq
            refine V_goto (tgt := 0) dX8_moves_68 (by decide) ?_
            refine V_mono ?_ (ih (smp sc m MA SD (SD 0) (nxt (SD 0) t v)) _ _ _ _ (by show (nxt (SD 0) t v - t).natAbs ≤ f; omega) (rok_smp (by omega) hn1.1 hr) hm)
            rintro w h2 sz2 ⟨rfl, rfl, hm⟩
            exact ⟨rfl, rfl, hm.eSD (fun j hj => by rw [mvF_s, if_neg c7])⟩
          · refine V_iload_n dX8_moves_54 rfl ?_
            refine V_iload dX8_moves_55 rfl ?_
            refine J_iadd dX8_moves_57 ?_
            refine V_goto (tgt := 65) dX8_moves_58 (by decide) ?_
            refine V_top (b := nxt (SD 0) t v) (by unfold nxt; split <;> split <;> omega) ?_
            refine V_callV (Y' := YX8_sampleAt) dX8_moves_65 lX8_107 gX8_sampleAt (m8_sampleAt (by omega) hn1.1 hmk hma hs hm hr) hm.1 rfl rfl rfl (Nat.le_of_ble_eq_true rfl) ⟨Nat.zero_le _, Nat.zero_le _⟩ (fun v h1 sz1 hq => ?_)
            obtain ⟨rfl, rfl, hm⟩ := hq
            refine V_goto (tgt := 0) dX8_moves_68 (by decide) ?_
            refine V_mono ?_ (ih (smp sc m MA SD (SD 0) (nxt (SD 0) t v)) _ _ _ _ (by show (nxt (SD 0) t v - t).natAbs ≤ f; omega) (rok_smp (by omega) hn1.1 hr) hm)
            rintro w h2 sz2 ⟨rfl, rfl, hm⟩
            exact ⟨rfl, rfl, hm.eSD (fun j hj => by rw [mvF_s, if_neg c7])⟩
      · refine V_iload_n dX8_moves_22 rfl ?_
        refine V_iload_n dX8_moves_23 rfl ?_
        refine J_isub dX8_moves_24 ?_
        refine V_goto (tgt := 31) dX8_moves_25 (by decide) ?_
        refine V_istore dX8_moves_31 (Nat.le_of_ble_eq_true rfl) ?_
        refine V_iload dX8_moves_33 rfl ?_
        refine V_iload_n dX8_moves_35 rfl ?_
        refine J_icmp_ge (tgt := 44) dX8_moves_36 (by decide) (by omega) (by omega) (fun c36 => ?_) (fun c36 => ?_)
        · refine V_iload_n dX8_moves_44 rfl ?_
          refine V_istore dX8_moves_45 (Nat.le_of_ble_eq_true rfl) ?_
          refine V_aload_n dX8_moves_47 rfl ?_
          refine V_iload_n dX8_moves_48 rfl ?_
          refine V_iload_n dX8_moves_49 rfl ?_
          refine V_iload_n dX8_moves_50 rfl ?_
          refine J_icmp_le (tgt := 61) dX8_moves_51 (by decide) (by omega) (by omega) (fun c51 => ?_) (fun c51 => ?_)
          · refine V_iload_n dX8_moves_61 rfl ?_
            refine V_iload dX8_moves_62 rfl ?_
            refine J_isub dX8_moves_64 ?_
            refine V_top (b := nxt (SD 0) t v) (by unfold nxt; split <;> split <;> omega) ?_
            refine V_callV (Y' := YX8_sampleAt) dX8_moves_65 lX8_107 gX8_sampleAt (m8_sampleAt (by omega) hn1.1 hmk hma hs hm hr) hm.1 rfl rfl rfl (Nat.le_of_ble_eq_true rfl) ⟨Nat.zero_le _, Nat.zero_le _⟩ (fun v h1 sz1 hq => ?_)
            obtain ⟨rfl, rfl, hm⟩ := hq
            refine V_goto (tgt := 0) dX8_moves_68 (by decide) ?_
            refine V_mono ?_ (ih (smp sc m MA SD (SD 0) (nxt (SD 0) t v)) _ _ _ _ (by show (nxt (SD 0) t v - t).natAbs ≤ f; omega) (rok_smp (by omega) hn1.1 hr) hm)
            rintro w h2 sz2 ⟨rfl, rfl, hm⟩
            exact ⟨rfl, rfl, hm.eSD (fun j hj => by rw [mvF_s, if_neg c7])⟩
          · refine V_iload_n dX8_moves_54 rfl ?_
            refine V_iload dX8_moves_55 rfl ?_
            refine J_iadd dX8_moves_57 ?_
            refine V_goto (tgt := 65) dX8_moves_58 (by decide) ?_
            refine V_top (b := nxt (SD 0) t v) (by unfold nxt; split <;> split <;> omega) ?_
            refine V_callV (Y' := YX8_sampleAt) dX8_moves_65 lX8_107 gX8_sampleAt (m8_sampleAt (by omega) hn1.1 hmk hma hs hm hr) hm.1 rfl rfl rfl (Nat.le_of_ble_eq_true rfl) ⟨Nat.zero_le _, Nat.zero_le _⟩ (fun v h1 sz1 hq => ?_)
            obtain ⟨rfl, rfl, hm⟩ := hq
            refine V_goto (tgt := 0) dX8_moves_68 (by decide) ?_
            refine V_mono ?_ (ih (smp sc m MA SD (SD 0) (nxt (SD 0) t v)) _ _ _ _ (by show (nxt (SD 0) t v - t).natAbs ≤ f; omega) (rok_smp (by omega) hn1.1 hr) hm)
            rintro w h2 sz2 ⟨rfl, rfl, hm⟩
            exact ⟨rfl, rfl, hm.eSD (fun j hj => by rw [mvF_s, if_neg c7])⟩
        · refine V_iload dX8_moves_39 rfl ?_
          refine V_goto (tgt := 45) dX8_moves_41 (by decide) ?_
          refine V_istore dX8_moves_45 (Nat.le_of_ble_eq_true rfl) ?_
          refine V_aload_n dX8_moves_47 rfl ?_
          refine V_iload_n dX8_moves_48 rfl ?_
          refine V_iload_n dX8_moves_49 rfl ?_
          refine V_iload_n dX8_moves_50 rfl ?_
          refine J_icmp_le (tgt := 61) dX8_moves_51 (by decide) (by omega) (by omega) (fun c51 => ?_) (fun c51 => ?_)
          · refine V_iload_n dX8_moves_61 rfl ?_
            refine V_iload dX8_moves_62 rfl ?_
            refine J_isub dX8_moves_64 ?_
            refine V_top (b := nxt (SD 0) t v) (by unfold nxt; split <;> split <;> omega) ?_
            refine V_callV (Y' := YX8_sampleAt) dX8_moves_65 lX8_107 gX8_sampleAt (m8_sampleAt (by omega) hn1.1 hmk hma hs hm hr) hm.1 rfl rfl rfl (Nat.le_of_ble_eq_true rfl) ⟨Nat.zero_le _, Nat.zero_le _⟩ (fun v h1 sz1 hq => ?_)
            obtain ⟨rfl, rfl, hm⟩ := hq
            refine V_goto (tgt := 0) dX8_moves_68 (by decide) ?_
            refine V_mono ?_ (ih (smp sc m MA SD (SD 0) (nxt (SD 0) t v)) _ _ _ _ (by show (nxt (SD 0) t v - t).natAbs ≤ f; omega) (rok_smp (by omega) hn1.1 hr) hm)
            rintro w h2 sz2 ⟨rfl, rfl, hm⟩
            exact ⟨rfl, rfl, hm.eSD (fun j hj => by rw [mvF_s, if_neg c7])⟩
          · refine V_iload_n dX8_moves_54 rfl ?_
            refine V_iload dX8_moves_55 rfl ?_
            refine J_iadd dX8_moves_57 ?_
            refine V_goto (tgt := 65) dX8_moves_58 (by decide) ?_
            refine V_top (b := nxt (SD 0) t v) (by unfold nxt; split <;> split <;> omega) ?_
            refine V_callV (Y' := YX8_sampleAt) dX8_moves_65 lX8_107 gX8_sampleAt (m8_sampleAt (by omega) hn1.1 hmk hma hs hm hr) hm.1 rfl rfl rfl (Nat.le_of_ble_eq_true rfl) ⟨Nat.zero_le _, Nat.zero_le _⟩ (fun v h1 sz1 hq => ?_)
            obtain ⟨rfl, rfl, hm⟩ := hq
            refine V_goto (tgt := 0) dX8_moves_68 (by decide) ?_
            refine V_mono ?_ (ih (smp sc m MA SD (SD 0) (nxt (SD 0) t v)) _ _ _ _ (by show (nxt (SD 0) t v - t).natAbs ≤ f; omega) (rok_smp (by omega) hn1.1 hr) hm)
            rintro w h2 sz2 ⟨rfl, rfl, hm⟩
            exact ⟨rfl, rfl, hm.eSD (fun j hj => by rw [mvF_s, if_neg c7])⟩
set_option maxHeartbeats 4000000 in
set_option maxRecDepth 100000 in
theorem m8_moves {z : ZG} {d sz r n s : Nat} {g h : AH} {l sp nu rs rm sc km : Int} {T RA RD MA NW SD KP : Nat → Int} {m : Nat} {t v : Int} (ht : 0 ≤ t ∧ t ≤ 9999) (hv : 1 ≤ v ∧ v ≤ 99) (hmk : m ≤ 6) (hma : ∀ j : Nat, j < 6 → 0 ≤ MA j ∧ MA j ≤ 9999) (hs : 8 ≤ sc ∧ sc ≤ 80) (hm : MS g r n s l sp nu rs rm sc m km T RA RD MA NW SD KP h) (hr : rok SD) : M z YX8_moves (d + 3) 0 0 [.ref r, .int (I t), .int (I v)] h sz (fun w h' sz' => w = none ∧ sz' = sz ∧ MS g r n s l sp nu rs rm sc m km T RA RD MA NW (mvF sc m MA t v 10000 SD) KP h') := by
  refine M.of (by decide +kernel) (Nat.le_of_ble_eq_true rfl) ?_
  exact l8_moves ht hv hmk hma hs 10000 SD h _ _ _ (by have := hr.1; omega) hr hm
end
section
/-! THE REFERENCE: moves asked for, changes -/
theorem V_lcmp_ne {z : ZG} {Y : ZM} {R : Room} {Q : ZQ} {pc : Nat} {L : AL} {st : List Value} {h : AH} {sz kc nc : Nat} {x y : Int64} {off : Int} {tgt : Nat} (hd : decode Y.2.1 pc = .ok (.lcmp, 1)) (hd2 : decode Y.2.1 (pc + 1) = .ok (.ifCond .ne off, 3)) (ht : ((pc + 1 : Nat) : Int) + off = (tgt : Int)) (kt : ¬ x = y → V z Y R Q tgt L st h sz kc nc) (kf : x = y → V z Y R Q (pc + 1 + 3) L st h sz kc nc) : V z Y R Q pc L (.long y :: .long x :: st) h sz kc nc := by
  refine V_lcmp hd (V_if_ne hd2 ht (fun q => kt (fun e => q ?_)) (fun q => kf ?_))
  · subst e; simp [lg_cmp]
  · unfold lg_cmp at q
    split at q
    · exact absurd q (by decide)
    · split at q
      · assumption
      · exact absurd q (by decide)
theorem md_rg {N : Nat → Int} {x : Int} (h : N 5 = 1 ∨ N 5 = 2 ∨ N 5 = 4) (hx : 0 ≤ x ∧ x ≤ 9999) : 0 ≤ N 5 * x ∧ N 5 * x < 2147483648 := by rcases h with q | q | q <;> rw [q] <;> omega
set_option maxHeartbeats 4000000 in
set_option maxRecDepth 100000 in
theorem m8_isMove {z : ZG} {d sz : Nat} {h : AH} {t v : Int} (ht : -2147483648 ≤ t ∧ t < 2147483648) (hv : -2147483648 ≤ v ∧ v < 2147483648) : M z YX8_isMove (d + 1) 0 0 [.int (I t), .int (I v)] h sz (fun w h' sz' => ∃ q : Int, w = some (.int (I q)) ∧ ((q = 1 ∧ (0 ≤ t ∧ t ≤ 9999) ∧ 1 ≤ v ∧ v ≤ 99) ∨ (q = 0 ∧ ¬ ((0 ≤ t ∧ t ≤ 9999) ∧ 1 ≤ v ∧ v ≤ 99))) ∧ h' = h ∧ sz' = sz) := by
  refine M.of (by decide +kernel) (Nat.le_of_ble_eq_true rfl) ?_
  refine V_iload_n dX8_isMove_0 rfl ?_
  refine J_i2l dX8_isMove_1 (by omega) ?_
  refine J_lconst0 dX8_isMove_2 ?_
  refine J_ldc2 9999 dX8_isMove_3 cX8_110 rfl ?_
  refine V_callS (Y' := YX8_in) dX8_isMove_6 lX8_57 gX8_in (m8_in (by omega) (by omega) (by omega)) rfl rfl (Nat.le_of_ble_eq_true rfl) ⟨Nat.zero_le _, Nat.zero_le _⟩ (fun v h1 sz1 hq => ?_)
  obtain ⟨t6, rfl, ht6, rfl, rfl⟩ := hq
  refine J_if_eq (tgt := 28) dX8_isMove_9 (by decide) (by omega) (fun c9 => ?_) (fun c9 => ?_)
  · refine J_iconst dX8_isMove_28 ?_
    exact V_iret dX8_isMove_29 rfl rfl ⟨Nat.zero_le _, Nat.zero_le _⟩ ⟨_, rfl, by omega, rfl, rfl⟩
  · refine V_iload_n dX8_isMove_12 rfl ?_
    refine J_i2l dX8_isMove_13 (by omega) ?_
    refine J_lconst1 dX8_isMove_14 ?_
    refine J_ldc2 99 dX8_isMove_15 cX8_112 rfl ?_
    refine V_callS (Y' := YX8_in) dX8_isMove_18 lX8_57 gX8_in (m8_in (by omega) (by omega) (by omega)) rfl rfl (Nat.le_of_ble_eq_true rfl) ⟨Nat.zero_le _, Nat.zero_le _⟩ (fun v h1 sz1 hq => ?_)
    obtain ⟨t18, rfl, ht18, rfl, rfl⟩ := hq
    refine J_if_eq (tgt := 28) dX8_isMove_21 (by decide) (by omega) (fun c21 => ?_) (fun c21 => ?_)
    · refine J_iconst dX8_isMove_28 ?_
      exact V_iret dX8_isMove_29 rfl rfl ⟨Nat.zero_le _, Nat.zero_le _⟩ ⟨_, rfl, by omega, rfl, rfl⟩
    · refine J_iconst dX8_isMove_24 ?_
      refine V_goto (tgt := 29) dX8_isMove_25 (by decide) ?_
      exact V_iret dX8_isMove_29 rfl rfl ⟨Nat.zero_le _, Nat.zero_le _⟩ ⟨_, rfl, by omega, rfl, rfl⟩
set_option maxHeartbeats 4000000 in
set_option maxRecDepth 100000 in
theorem m8_expects {z : ZG} {d sz r n s : Nat} {g h : AH} {l sp nu rs rm sc mk km : Int} {T RA RD MA NW SD KP : Nat → Int} {x md : Int} (hm : MS g r n s l sp nu rs rm sc mk km T RA RD MA NW SD KP h) (hs : 8 ≤ sc ∧ sc ≤ 80) (hx : 0 ≤ md * x ∧ md * x < 2147483648) : M z YX8_expects d 0 0 [.ref r, .int (I x), .int (I md)] h sz (fun w h' sz' => w = some (.int (I (md * x / sc))) ∧ h' = h ∧ sz' = sz) := by
  refine M.of (by decide +kernel) (Nat.le_of_ble_eq_true rfl) ?_
  refine V_iload_n dX8_expects_0 rfl ?_
  refine V_iload_n dX8_expects_1 rfl ?_
  refine J_imul dX8_expects_2 ?_
  refine V_aload_n dX8_expects_3 rfl ?_
  refine V_get dX8_expects_4 fX8_44 hm.1 rfl ?_
  refine J_idiv dX8_expects_7 (by omega) (by omega) ?_
  exact V_iret dX8_expects_8 rfl rfl ⟨Nat.zero_le _, Nat.zero_le _⟩ ⟨rfl, rfl, rfl⟩
set_option maxHeartbeats 4000000 in
set_option maxRecDepth 100000 in
theorem m8_slipOf_S {z : ZG} {d sz r n s : Nat} {g h : AH} {l sp nu rs rm sc mk km : Int} {T RA RD MA NW SD KP : Nat → Int} (hm : MS g r n s l sp nu rs rm sc mk km T RA RD MA NW SD KP h) (hs : 8 ≤ sc ∧ sc ≤ 80) (hr : rok SD) : M z YX8_slipOf (d + 1) 0 0 [.ref r, .ref s] h sz (fun w h' sz' => w = some (.long (I (SD 1 - SD 5 * SD 0 / sc)).toInt64) ∧ h' = h ∧ sz' = sz) := by
  refine M.of (by decide +kernel) (Nat.le_of_ble_eq_true rfl) ?_
  have hx0 := md_rg hr.2.2.1 hr.1
  refine V_aload_n dX8_slipOf_0 rfl ?_
  refine J_iconst dX8_slipOf_1 ?_
  refine R_aldk_SD 1 dX8_slipOf_2 hm rfl (by decide) ?_
  refine V_aload_n dX8_slipOf_3 rfl ?_
  refine V_aload_n dX8_slipOf_4 rfl ?_
  refine J_iconst dX8_slipOf_5 ?_
  refine R_aldk_SD 0 dX8_slipOf_6 hm rfl (by decide) ?_
  refine V_aload_n dX8_slipOf_7 rfl ?_
  refine J_iconst dX8_slipOf_8 ?_
  refine R_aldk_SD 5 dX8_slipOf_9 hm rfl (by decide) ?_
  refine V_callV (Y' := YX8_expects) dX8_slipOf_10 lX8_114 gX8_expects (m8_expects hm hs (by first | omega | exact hx0)) hm.1 rfl rfl rfl (Nat.le_of_ble_eq_true rfl) ⟨Nat.zero_le _, Nat.zero_le _⟩ (fun v h1 sz1 hq => ?_)
  obtain ⟨rfl, rfl, rfl⟩ := hq
  refine J_isub dX8_slipOf_13 ?_
  refine V_i2l dX8_slipOf_14 ?_
  exact V_lret dX8_slipOf_15 rfl ⟨Nat.zero_le _, Nat.zero_le _⟩ ⟨rfl, rfl, rfl⟩
set_option maxHeartbeats 4000000 in
set_option maxRecDepth 100000 in
theorem m8_slipOf_N {z : ZG} {d sz r n s : Nat} {g h : AH} {l sp nu rs rm sc mk km : Int} {T RA RD MA NW SD KP : Nat → Int} (hm : MS g r n s l sp nu rs rm sc mk km T RA RD MA NW SD KP h) (hs : 8 ≤ sc ∧ sc ≤ 80) (hr : rok NW) : M z YX8_slipOf (d + 1) 0 0 [.ref r, .ref n] h sz (fun w h' sz' => w = some (.long (I (NW 1 - NW 5 * NW 0 / sc)).toInt64) ∧ h' = h ∧ sz' = sz) := by
  refine M.of (by decide +kernel) (Nat.le_of_ble_eq_true rfl) ?_
  have hx0 := md_rg hr.2.2.1 hr.1
  refine V_aload_n dX8_slipOf_0 rfl ?_
  refine J_iconst dX8_slipOf_1 ?_
  refine R_aldk_NW 1 dX8_slipOf_2 hm rfl (by decide) ?_
  refine V_aload_n dX8_slipOf_3 rfl ?_
  refine V_aload_n dX8_slipOf_4 rfl ?_
  refine J_iconst dX8_slipOf_5 ?_
  refine R_aldk_NW 0 dX8_slipOf_6 hm rfl (by decide) ?_
  refine V_aload_n dX8_slipOf_7 rfl ?_
  refine J_iconst dX8_slipOf_8 ?_
  refine R_aldk_NW 5 dX8_slipOf_9 hm rfl (by decide) ?_
  refine V_callV (Y' := YX8_expects) dX8_slipOf_10 lX8_114 gX8_expects (m8_expects hm hs (by first | omega | exact hx0)) hm.1 rfl rfl rfl (Nat.le_of_ble_eq_true rfl) ⟨Nat.zero_le _, Nat.zero_le _⟩ (fun v h1 sz1 hq => ?_)
  obtain ⟨rfl, rfl, rfl⟩ := hq
  refine J_isub dX8_slipOf_13 ?_
  refine V_i2l dX8_slipOf_14 ?_
  exact V_lret dX8_slipOf_15 rfl ⟨Nat.zero_le _, Nat.zero_le _⟩ ⟨rfl, rfl, rfl⟩
theorem MS.swap {r n s : Nat} {g h : AH} {l sp nu rs rm sc mk km : Int} {T RA RD MA NW SD KP : Nat → Int} (hm : MS g r n s l sp nu rs rm sc mk km T RA RD MA NW SD KP h) : MS g r s n l sp nu rs rm sc mk km T RA RD MA SD NW KP (hset (hset h r (.inl (8, [.ref (r + 1), .int (I l), .int (I sp), .int (I nu), .int (I rs), .int (I rm), .ref (r + 2), .ref (r + 3), .int (I sc), .int (I mk), .ref (r + 4), .ref n, .ref s, .ref (r + 7), .int (I km)].set 11 (.ref s)))) r (.inl (8, ([.ref (r + 1), .int (I l), .int (I sp), .int (I nu), .int (I rs), .int (I rm), .ref (r + 2), .ref (r + 3), .int (I sc), .int (I mk), .ref (r + 4), .ref n, .ref s, .ref (r + 7), .int (I km)].set 11 (.ref s)).set 12 (.ref n)))) := by
  obtain ⟨h0, ⟨h1, h2, h3, h4, h5, h6, h7⟩, h8, h9⟩ := hm
  have e : ∀ x, x ≠ r → hset (hset h r (.inl (8, [.ref (r + 1), .int (I l), .int (I sp), .int (I nu), .int (I rs), .int (I rm), .ref (r + 2), .ref (r + 3), .int (I sc), .int (I mk), .ref (r + 4), .ref n, .ref s, .ref (r + 7), .int (I km)].set 11 (.ref s)))) r (.inl (8, ([.ref (r + 1), .int (I l), .int (I sp), .int (I nu), .int (I rs), .int (I rm), .ref (r + 2), .ref (r + 3), .int (I sc), .int (I mk), .ref (r + 4), .ref n, .ref s, .ref (r + 7), .int (I km)].set 11 (.ref s)).set 12 (.ref n))) x = h x := fun x hx => (hset_n hx).trans (hset_n hx)
  exact ⟨hset_s, ⟨h1.kept (e _ (by omega)), h2.kept (e _ (by omega)), h3.kept (e _ (by omega)), h4.kept (e _ (by omega)), h6.kept (e _ (by omega)), h5.kept (e _ (by omega)), h7.kept (e _ (by omega))⟩, by omega, fun x hx => (e x (by omega)).trans (h9 x hx)⟩
set_option maxHeartbeats 4000000 in
set_option maxRecDepth 100000 in
theorem m8_moveTo {z : ZG} {d sz r n s : Nat} {g h : AH} {l sp nu rs rm sc km : Int} {T RA RD MA NW SD KP : Nat → Int} {m : Nat} {t v : Int} (ht : -2147483648 ≤ t ∧ t < 2147483648) (hv : -2147483648 ≤ v ∧ v < 2147483648) (hm : MS g r n s l sp nu rs rm sc m km T RA RD MA NW SD KP h) (hs : 8 ≤ sc ∧ sc ≤ 80) (hmk : m ≤ 6) (hma : ∀ j : Nat, j < 6 → 0 ≤ MA j ∧ MA j ≤ 9999) (hr : rok NW) (hk : 0 ≤ km ∧ km ≤ 6) : M z YX8_moveTo (d + 4) 0 0 [.ref r, .int (I t), .int (I v)] h sz (fun w h' sz' => sz' = sz ∧ ((¬ ((0 ≤ t ∧ t ≤ 9999) ∧ 1 ≤ v ∧ v ≤ 99) ∧ w = some (.int (I (-1))) ∧ MS g r n s l sp nu rs rm sc m km T RA RD MA NW SD KP h') ∨ (((0 ≤ t ∧ t ≤ 9999) ∧ 1 ≤ v ∧ v ≤ 99) ∧ w = some (.int (I (mvF sc m MA t v 10000 NW 3 - NW 3))) ∧ ∃ (km2 : Int) (KP2 : Nat → Int), kq km KP NW km2 KP2 ∧ MS g r s n l sp nu rs rm sc m km2 T RA RD MA (mvF sc m MA t v 10000 NW) NW KP2 h'))) := by
  refine M.of (by decide +kernel) (Nat.le_of_ble_eq_true rfl) ?_
  refine V_iload_n dX8_moveTo_0 rfl ?_
  refine V_iload_n dX8_moveTo_1 rfl ?_
  refine V_callS (Y' := YX8_isMove) dX8_moveTo_2 lX8_118 gX8_isMove (m8_isMove (by omega) (by omega)) rfl rfl (Nat.le_of_ble_eq_true rfl) ⟨Nat.zero_le _, Nat.zero_le _⟩ (fun v h1 sz1 hq => ?_)
  obtain ⟨q2, rfl, hq2, rfl, rfl⟩ := hq
  refine J_if_ne (tgt := 10) dX8_moveTo_5 (by decide) (by omega) (fun c5 => ?_) (fun c5 => ?_)
  · refine V_aload_n dX8_moveTo_10 rfl ?_
    refine V_callV (Y' := YX8_keeps) dX8_moveTo_11 lX8_122 gX8_keeps (m8_keeps hm (by omega)) hm.1 rfl rfl rfl (Nat.le_of_ble_eq_true rfl) ⟨Nat.zero_le _, Nat.zero_le _⟩ (fun v h1 sz1 hq => ?_)
    obtain ⟨rfl, rfl, km2, KP2, hk2, hm⟩ := hq
    refine V_aload_n dX8_moveTo_14 rfl ?_
    refine V_callV (Y' := YX8_aside) dX8_moveTo_15 lX8_125 gX8_aside (m8_aside hm) hm.1 rfl rfl rfl (Nat.le_of_ble_eq_true rfl) ⟨Nat.zero_le _, Nat.zero_le _⟩ (fun v h1 sz1 hq => ?_)
    obtain ⟨rfl, rfl, hm⟩ := hq
    refine V_aload_n dX8_moveTo_18 rfl ?_
    refine V_iload_n dX8_moveTo_19 rfl ?_
    refine V_iload_n dX8_moveTo_20 rfl ?_
    refine V_callV (Y' := YX8_moves) dX8_moveTo_21 lX8_128 gX8_moves (m8_moves (by omega) (by omega) hmk hma hs hm hr) hm.1 rfl rfl rfl (Nat.le_of_ble_eq_true rfl) ⟨Nat.zero_le _, Nat.zero_le _⟩ (fun v h1 sz1 hq => ?_)
    obtain ⟨rfl, rfl, hm⟩ := hq
    refine V_aload_n dX8_moveTo_24 rfl ?_
    refine V_get dX8_moveTo_25 fX8_25 hm.1 rfl ?_
    refine J_iconst dX8_moveTo_28 ?_
    refine R_aldk_SD 3 dX8_moveTo_29 hm rfl (by decide) ?_
    refine V_aload_n dX8_moveTo_30 rfl ?_
    refine V_get dX8_moveTo_31 fX8_22 hm.1 rfl ?_
    refine J_iconst dX8_moveTo_34 ?_
    refine R_aldk_NW 3 dX8_moveTo_35 hm rfl (by decide) ?_
    refine J_isub dX8_moveTo_36 ?_
    refine V_istore_n dX8_moveTo_37 (Nat.le_of_ble_eq_true rfl) ?_
    refine V_aload_n dX8_moveTo_38 rfl ?_
    refine V_get dX8_moveTo_39 fX8_22 hm.1 rfl ?_
    refine V_astore dX8_moveTo_42 (Nat.le_of_ble_eq_true rfl) ?_
    refine V_aload_n dX8_moveTo_44 rfl ?_
    refine V_aload_n dX8_moveTo_45 rfl ?_
    refine V_get dX8_moveTo_46 fX8_25 hm.1 rfl ?_
    refine V_put dX8_moveTo_49 fX8_22 tX8_11 hm.1 (Nat.le_of_ble_eq_true rfl) rfl rfl ?_
    refine V_aload_n dX8_moveTo_52 rfl ?_
    refine V_aload dX8_moveTo_53 rfl ?_
    refine V_put dX8_moveTo_55 fX8_25 tX8_12 hset_s (Nat.le_of_ble_eq_true rfl) rfl rfl ?_
    refine V_iload_n dX8_moveTo_58 rfl ?_
    exact V_iret dX8_moveTo_59 rfl rfl ⟨Nat.zero_le _, Nat.zero_le _⟩ ⟨rfl, Or.inr ⟨by omega, rfl, _, _, hk2, hm.swap⟩⟩
  · refine J_iconst dX8_moveTo_8 ?_
    exact V_iret dX8_moveTo_9 rfl rfl ⟨Nat.zero_le _, Nat.zero_le _⟩ ⟨rfl, Or.inl ⟨by omega, rfl, hm⟩⟩
set_option maxHeartbeats 4000000 in
set_option maxRecDepth 100000 in
theorem m8_predictSlip {z : ZG} {d sz r n s : Nat} {g h : AH} {l sp nu rs rm sc km : Int} {T RA RD MA NW SD KP : Nat → Int} {m : Nat} {t v : Int} (ht : -2147483648 ≤ t ∧ t < 2147483648) (hv : -2147483648 ≤ v ∧ v < 2147483648) (hm : MS g r n s l sp nu rs rm sc m km T RA RD MA NW SD KP h) (hs : 8 ≤ sc ∧ sc ≤ 80) (hmk : m ≤ 6) (hma : ∀ j : Nat, j < 6 → 0 ≤ MA j ∧ MA j ≤ 9999) (hr : rok NW) : M z YX8_predictSlip (d + 4) 0 0 [.ref r, .int (I t), .int (I v)] h sz (fun w h' sz' => sz' = sz ∧ ((¬ ((0 ≤ t ∧ t ≤ 9999) ∧ 1 ≤ v ∧ v ≤ 99) ∧ w = some (.long (J (-9223372036854775808))) ∧ MS g r n s l sp nu rs rm sc m km T RA RD MA NW SD KP h') ∨ (((0 ≤ t ∧ t ≤ 9999) ∧ 1 ≤ v ∧ v ≤ 99) ∧ w = some (.long (I (mvF sc m MA t v 10000 NW 1 - mvF sc m MA t v 10000 NW 5 * mvF sc m MA t v 10000 NW 0 / sc)).toInt64) ∧ MS g r n s l sp nu rs rm sc m km T RA RD MA NW (mvF sc m MA t v 10000 NW) KP h'))) := by
  refine M.of (by decide +kernel) (Nat.le_of_ble_eq_true rfl) ?_
  refine V_iload_n dX8_predictSlip_0 rfl ?_
  refine V_iload_n dX8_predictSlip_1 rfl ?_
  refine V_callS (Y' := YX8_isMove) dX8_predictSlip_2 lX8_118 gX8_isMove (m8_isMove (by omega) (by omega)) rfl rfl (Nat.le_of_ble_eq_true rfl) ⟨Nat.zero_le _, Nat.zero_le _⟩ (fun v h1 sz1 hq => ?_)
  obtain ⟨q2, rfl, hq2, rfl, rfl⟩ := hq
  refine J_if_ne (tgt := 12) dX8_predictSlip_5 (by decide) (by omega) (fun c5 => ?_) (fun c5 => ?_)
  · refine V_aload_n dX8_predictSlip_12 rfl ?_
    refine V_callV (Y' := YX8_aside) dX8_predictSlip_13 lX8_125 gX8_aside (m8_aside hm) hm.1 rfl rfl rfl (Nat.le_of_ble_eq_true rfl) ⟨Nat.zero_le _, Nat.zero_le _⟩ (fun v h1 sz1 hq => ?_)
    obtain ⟨rfl, rfl, hm⟩ := hq
    refine V_aload_n dX8_predictSlip_16 rfl ?_
    refine V_iload_n dX8_predictSlip_17 rfl ?_
    refine V_iload_n dX8_predictSlip_18 rfl ?_
    refine V_callV (Y' := YX8_moves) dX8_predictSlip_19 lX8_128 gX8_moves (m8_moves (by omega) (by omega) hmk hma hs hm hr) hm.1 rfl rfl rfl (Nat.le_of_ble_eq_true rfl) ⟨Nat.zero_le _, Nat.zero_le _⟩ (fun v h1 sz1 hq => ?_)
    obtain ⟨rfl, rfl, hm⟩ := hq
    refine V_aload_n dX8_predictSlip_22 rfl ?_
    refine V_aload_n dX8_predictSlip_23 rfl ?_
    refine V_get dX8_predictSlip_24 fX8_25 hm.1 rfl ?_
    refine V_callV (Y' := YX8_slipOf) dX8_predictSlip_27 lX8_133 gX8_slipOf (m8_slipOf_S hm hs (rok_mvF (by omega) (by omega) (by omega) 10000 NW hr)) hm.1 rfl rfl rfl (Nat.le_of_ble_eq_true rfl) ⟨Nat.zero_le _, Nat.zero_le _⟩ (fun v h1 sz1 hq => ?_)
    obtain ⟨rfl, rfl, rfl⟩ := hq
    exact V_lret dX8_predictSlip_30 rfl ⟨Nat.zero_le _, Nat.zero_le _⟩ ⟨rfl, Or.inr ⟨by omega, rfl, hm⟩⟩
  · refine J_ldc2 (-9223372036854775808) dX8_predictSlip_8 cX8_131 rfl ?_
    exact V_lret dX8_predictSlip_11 rfl ⟨Nat.zero_le _, Nat.zero_le _⟩ ⟨rfl, Or.inl ⟨by omega, rfl, hm⟩⟩
end
section
/-! THE REFERENCE: the fastest safe speed, changes of a row, the log read -/
/-- a move at speed v misses nothing more and leaves the slip, in the reference's own words -/
def sfR (sc : Int) (m : Nat) (MA NW : Nat → Int) (t v : Int) : Prop := I (mvF sc m MA t v 10000 NW 3) = I (NW 3) ∧ (I (mvF sc m MA t v 10000 NW 1 - mvF sc m MA t v 10000 NW 5 * mvF sc m MA t v 10000 NW 0 / sc)).toInt64 = (I (NW 1 - NW 5 * NW 0 / sc)).toInt64
def fsR (sc : Int) (m : Nat) (MA NW : Nat → Int) (t res : Int) : Prop := ((1 ≤ res ∧ res ≤ 99) ∧ sfR sc m MA NW t res ∧ ∀ v : Int, res < v → v ≤ 99 → ¬ sfR sc m MA NW t v) ∨ (res = -4 ∧ ∀ v : Int, 1 ≤ v → v ≤ 99 → ¬ sfR sc m MA NW t v)
set_option maxHeartbeats 4000000 in
set_option maxRecDepth 100000 in
theorem l8_fss_17 {z : ZG} {d sz r n s : Nat} {g : AH} {l sp nu rs rm sc km : Int} {T RA RD MA NW KP : Nat → Int} {m : Nat} {t : Int} (ht : 0 ≤ t ∧ t ≤ 9999) (hs : 8 ≤ sc ∧ sc ≤ 80) (hmk : m ≤ 6) (hma : ∀ j : Nat, j < 6 → 0 ≤ MA j ∧ MA j ≤ 9999) (hr : rok NW) : ∀ (f : Nat) (v : Int) (SD : Nat → Int) (h : AH), 0 ≤ v → v ≤ 99 → v < f → (∀ q : Int, v < q → q ≤ 99 → ¬ sfR sc m MA NW t q) → MS g r n s l sp nu rs rm sc m km T RA RD MA NW SD KP h → V z YX8_fastestSafeSpeed (zroom (d + 4) 0 0) (fun w h' sz' => sz' = sz ∧ ∃ (res : Int) (SD2 : Nat → Int), w = some (.int (I res)) ∧ fsR sc m MA NW t res ∧ MS g r n s l sp nu rs rm sc m km T RA RD MA NW SD2 KP h') 17 [some (.ref r), some (.int (I t)), some (.int (I v))] [] h sz 0 0 := by
  intro f
  induction f with
  | zero => intro v SD h h1 h2 h3; omega
  | succ f ih =>
    intro v SD h h1 h2 h3 hn hm
    refine V_iload_n dX8_fastestSafeSpeed_17 rfl ?_
    refine J_if_le (tgt := 74) dX8_fastestSafeSpeed_18 (by decide) (by omega) (fun c18 => ?_) (fun c18 => ?_)
    · refine J_bipush dX8_fastestSafeSpeed_74 (by decide) ?_
      exact V_iret dX8_fastestSafeSpeed_76 rfl rfl ⟨Nat.zero_le _, Nat.zero_le _⟩ ⟨rfl, -4, _, rfl, Or.inr ⟨rfl, fun q q1 q2 => hn q (by omega) q2⟩, hm⟩
    · refine V_aload_n dX8_fastestSafeSpeed_21 rfl ?_
      refine V_callV (Y' := YX8_aside) dX8_fastestSafeSpeed_22 lX8_125 gX8_aside (m8_aside hm) hm.1 rfl rfl rfl (Nat.le_of_ble_eq_true rfl) ⟨Nat.zero_le _, Nat.zero_le _⟩ (fun v h1 sz1 hq => ?_)
      obtain ⟨rfl, rfl, hm⟩ := hq
      refine V_aload_n dX8_fastestSafeSpeed_25 rfl ?_
      refine V_iload_n dX8_fastestSafeSpeed_26 rfl ?_
      refine V_iload_n dX8_fastestSafeSpeed_27 rfl ?_
      refine V_callV (Y' := YX8_moves) dX8_fastestSafeSpeed_28 lX8_128 gX8_moves (m8_moves (by omega) (by omega) hmk hma hs hm hr) hm.1 rfl rfl rfl (Nat.le_of_ble_eq_true rfl) ⟨Nat.zero_le _, Nat.zero_le _⟩ (fun v h1 sz1 hq => ?_)
      obtain ⟨rfl, rfl, hm⟩ := hq
      refine V_aload_n dX8_fastestSafeSpeed_31 rfl ?_
      refine V_get dX8_fastestSafeSpeed_32 fX8_25 hm.1 rfl ?_
      refine J_iconst dX8_fastestSafeSpeed_35 ?_
      refine R_aldk_SD 3 dX8_fastestSafeSpeed_36 hm rfl (by decide) ?_
      refine V_aload_n dX8_fastestSafeSpeed_37 rfl ?_
      refine V_get dX8_fastestSafeSpeed_38 fX8_22 hm.1 rfl ?_
      refine J_iconst dX8_fastestSafeSpeed_41 ?_
      refine R_aldk_NW 3 dX8_fastestSafeSpeed_42 hm rfl (by decide) ?_
      refine V_icmp_ne (tgt := 68) dX8_fastestSafeSpeed_43 (by decide) (fun c43 => ?_) (fun c43 => ?_)
      · refine J_iinc dX8_fastestSafeSpeed_68 rfl ?_
        refine V_goto (tgt := 17) dX8_fastestSafeSpeed_71 (by decide) ?_
        refine ih (v + -1) _ _ (by omega) (by omega) (by omega) (fun q q1 q2 => ?_) hm
        by_cases q3 : q = v
        · subst q3; first | exact fun w => c43 w.1 | exact fun w => c62 w.2
        · exact hn q (by omega) q2
      · refine V_aload_n dX8_fastestSafeSpeed_46 rfl ?_
        refine V_aload_n dX8_fastestSafeSpeed_47 rfl ?_
        refine V_get dX8_fastestSafeSpeed_48 fX8_25 hm.1 rfl ?_
        refine V_callV (Y' := YX8_slipOf) dX8_fastestSafeSpeed_51 lX8_133 gX8_slipOf (m8_slipOf_S hm hs (rok_mvF (by omega) (by omega) (by omega) 10000 NW hr)) hm.1 rfl rfl rfl (Nat.le_of_ble_eq_true rfl) ⟨Nat.zero_le _, Nat.zero_le _⟩ (fun v h1 sz1 hq => ?_)
        obtain ⟨rfl, rfl, rfl⟩ := hq
        refine V_aload_n dX8_fastestSafeSpeed_54 rfl ?_
        refine V_aload_n dX8_fastestSafeSpeed_55 rfl ?_
        refine V_get dX8_fastestSafeSpeed_56 fX8_22 hm.1 rfl ?_
        refine V_callV (Y' := YX8_slipOf) dX8_fastestSafeSpeed_59 lX8_133 gX8_slipOf (m8_slipOf_N hm hs hr) hm.1 rfl rfl rfl (Nat.le_of_ble_eq_true rfl) ⟨Nat.zero_le _, Nat.zero_le _⟩ (fun v h1 sz1 hq => ?_)
        obtain ⟨rfl, rfl, rfl⟩ := hq
        refine V_lcmp_ne (tgt := 68) dX8_fastestSafeSpeed_62 dX8_fastestSafeSpeed_63 (by decide) (fun c62 => ?_) (fun c62 => ?_)
        · refine J_iinc dX8_fastestSafeSpeed_68 rfl ?_
          refine V_goto (tgt := 17) dX8_fastestSafeSpeed_71 (by decide) ?_
          refine ih (v + -1) _ _ (by omega) (by omega) (by omega) (fun q q1 q2 => ?_) hm
          by_cases q3 : q = v
          · subst q3; first | exact fun w => c43 w.1 | exact fun w => c62 w.2
          · exact hn q (by omega) q2
        · refine V_iload_n dX8_fastestSafeSpeed_66 rfl ?_
          exact V_iret dX8_fastestSafeSpeed_67 rfl rfl ⟨Nat.zero_le _, Nat.zero_le _⟩ ⟨rfl, v, _, rfl, Or.inl ⟨by omega, ⟨c43, c62⟩, hn⟩, hm⟩
set_option maxHeartbeats 4000000 in
set_option maxRecDepth 100000 in
theorem m8_fastestSafeSpeed {z : ZG} {d sz r n s : Nat} {g h : AH} {l sp nu rs rm sc km : Int} {T RA RD MA NW SD KP : Nat → Int} {m : Nat} {t : Int} (ht : -2147483648 ≤ t ∧ t < 2147483648) (hm : MS g r n s l sp nu rs rm sc m km T RA RD MA NW SD KP h) (hs : 8 ≤ sc ∧ sc ≤ 80) (hmk : m ≤ 6) (hma : ∀ j : Nat, j < 6 → 0 ≤ MA j ∧ MA j ≤ 9999) (hr : rok NW) : M z YX8_fastestSafeSpeed (d + 4) 0 0 [.ref r, .int (I t)] h sz (fun w h' sz' => sz' = sz ∧ ((¬ (0 ≤ t ∧ t ≤ 9999) ∧ w = some (.int (I (-1))) ∧ MS g r n s l sp nu rs rm sc m km T RA RD MA NW SD KP h') ∨ ((0 ≤ t ∧ t ≤ 9999) ∧ ∃ (res : Int) (SD2 : Nat → Int), w = some (.int (I res)) ∧ fsR sc m MA NW t res ∧ MS g r n s l sp nu rs rm sc m km T RA RD MA NW SD2 KP h'))) := by
  refine M.of (by decide +kernel) (Nat.le_of_ble_eq_true rfl) ?_
  refine V_iload_n dX8_fastestSafeSpeed_0 rfl ?_
  refine J_i2l dX8_fastestSafeSpeed_1 (by omega) ?_
  refine J_lconst0 dX8_fastestSafeSpeed_2 ?_
  refine J_ldc2 9999 dX8_fastestSafeSpeed_3 cX8_110 rfl ?_
  refine V_callS (Y' := YX8_in) dX8_fastestSafeSpeed_6 lX8_57 gX8_in (m8_in (by omega) (by omega) (by omega)) rfl rfl (Nat.le_of_ble_eq_true rfl) ⟨Nat.zero_le _, Nat.zero_le _⟩ (fun v h1 sz1 hq => ?_)
  obtain ⟨t6, rfl, ht6, rfl, rfl⟩ := hq
  refine J_if_ne (tgt := 14) dX8_fastestSafeSpeed_9 (by decide) (by omega) (fun c9 => ?_) (fun c9 => ?_)
  · refine J_bipush dX8_fastestSafeSpeed_14 (by decide) ?_
    refine V_istore_n dX8_fastestSafeSpeed_16 (Nat.le_of_ble_eq_true rfl) ?_
    refine V_mono ?_ (l8_fss_17 (by omega) hs hmk hma hr 100 99 _ _ (by omega) (by omega) (by omega) (fun q q1 q2 => by omega) hm)
    rintro w h2 sz2 ⟨rfl, q⟩
    exact ⟨rfl, Or.inr ⟨by omega, q⟩⟩
  · refine J_iconst dX8_fastestSafeSpeed_12 ?_
    exact V_iret dX8_fastestSafeSpeed_13 rfl rfl ⟨Nat.zero_le _, Nat.zero_le _⟩ ⟨rfl, Or.inl ⟨by omega, rfl, hm⟩⟩
set_option maxHeartbeats 4000000 in
set_option maxRecDepth 100000 in
theorem m8_setMode {z : ZG} {d sz r n s : Nat} {g h : AH} {l sp nu rs rm sc mk km : Int} {T RA RD MA NW SD KP : Nat → Int} {md : Int} (hd0 : -2147483648 ≤ md ∧ md < 2147483648) (hm : MS g r n s l sp nu rs rm sc mk km T RA RD MA NW SD KP h) (hs : 8 ≤ sc ∧ sc ≤ 80) (hr : rok NW) (hk : 0 ≤ km ∧ km ≤ 6) : M z YX8_setMode (d + 1) 0 0 [.ref r, .int (I md)] h sz (fun w h' sz' => sz' = sz ∧ ((¬ (md = 1 ∨ md = 2 ∨ md = 4) ∧ w = some (.int (I (-1))) ∧ MS g r n s l sp nu rs rm sc mk km T RA RD MA NW SD KP h') ∨ ((md = 1 ∨ md = 2 ∨ md = 4) ∧ w = some (.int (I (NW 5))) ∧ ∃ (km2 : Int) (KP2 : Nat → Int), kq km KP NW km2 KP2 ∧ MS g r n s l sp nu rs rm sc mk km2 T RA RD MA (va_up (va_up (va_up NW 5 md) 1 (md * NW 0 / sc)) 17 0) SD KP2 h'))) := by
  refine M.of (by decide +kernel) (Nat.le_of_ble_eq_true rfl) ?_
  have hr0 := hr.1
  refine V_iload_n dX8_setMode_0 rfl ?_
  refine J_iconst dX8_setMode_1 ?_
  refine J_icmp_eq (tgt := 17) dX8_setMode_2 (by decide) (by omega) (by omega) (fun c2 => ?_) (fun c2 => ?_)
  · have hmd : md = 1 ∨ md = 2 ∨ md = 4 := by omega
    have hx0 : 0 ≤ md * NW 0 ∧ md * NW 0 < 2147483648 := by rcases hmd with q | q | q <;> rw [q] <;> omega
    refine V_aload_n dX8_setMode_17 rfl ?_
    refine V_callV (Y' := YX8_keeps) dX8_setMode_18 lX8_122 gX8_keeps (m8_keeps hm (by omega)) hm.1 rfl rfl rfl (Nat.le_of_ble_eq_true rfl) ⟨Nat.zero_le _, Nat.zero_le _⟩ (fun v h1 sz1 hq => ?_)
    obtain ⟨rfl, rfl, km2, KP2, hk2, hm⟩ := hq
    refine V_aload_n dX8_setMode_21 rfl ?_
    refine V_get dX8_setMode_22 fX8_22 hm.1 rfl ?_
    refine J_iconst dX8_setMode_25 ?_
    refine R_aldk_NW 5 dX8_setMode_26 hm rfl (by decide) ?_
    refine V_istore_n dX8_setMode_27 (Nat.le_of_ble_eq_true rfl) ?_
    refine V_aload_n dX8_setMode_28 rfl ?_
    refine V_get dX8_setMode_29 fX8_22 hm.1 rfl ?_
    refine J_iconst dX8_setMode_32 ?_
    refine V_iload_n dX8_setMode_33 rfl ?_
    refine R_astk_NW 5 dX8_setMode_34 hm rfl (by decide) (fun h hm => ?_)
    refine V_aload_n dX8_setMode_35 rfl ?_
    refine V_get dX8_setMode_36 fX8_22 hm.1 rfl ?_
    refine J_iconst dX8_setMode_39 ?_
    refine V_aload_n dX8_setMode_40 rfl ?_
    refine V_aload_n dX8_setMode_41 rfl ?_
    refine V_get dX8_setMode_42 fX8_22 hm.1 rfl ?_
    refine J_iconst dX8_setMode_45 ?_
    refine R_aldk_NW 0 dX8_setMode_46 hm rfl (by decide) ?_
    refine V_iload_n dX8_setMode_47 rfl ?_
    change V z YX8_setMode _ _ _ _ (_ :: .int (I (NW 0)) :: _) _ _ _ _
    refine V_callV (Y' := YX8_expects) dX8_setMode_48 lX8_114 gX8_expects (m8_expects hm hs (by first | omega | exact hx0)) hm.1 rfl rfl rfl (Nat.le_of_ble_eq_true rfl) ⟨Nat.zero_le _, Nat.zero_le _⟩ (fun v h1 sz1 hq => ?_)
    obtain ⟨rfl, rfl, rfl⟩ := hq
    refine R_astk_NW 1 dX8_setMode_51 hm rfl (by decide) (fun h hm => ?_)
    refine V_aload_n dX8_setMode_52 rfl ?_
    refine V_get dX8_setMode_53 fX8_22 hm.1 rfl ?_
    refine J_bipush dX8_setMode_56 (by decide) ?_
    refine J_iconst dX8_setMode_58 ?_
    refine R_astk_NW 17 dX8_setMode_59 hm rfl (by decide) (fun h hm => ?_)
    refine V_iload_n dX8_setMode_60 rfl ?_
    exact V_iret dX8_setMode_61 rfl rfl ⟨Nat.zero_le _, Nat.zero_le _⟩ ⟨rfl, Or.inr ⟨by omega, rfl, _, _, hk2, hm⟩⟩
  · refine V_iload_n dX8_setMode_5 rfl ?_
    refine J_iconst dX8_setMode_6 ?_
    refine J_icmp_eq (tgt := 17) dX8_setMode_7 (by decide) (by omega) (by omega) (fun c7 => ?_) (fun c7 => ?_)
    · have hmd : md = 1 ∨ md = 2 ∨ md = 4 := by omega
      have hx0 : 0 ≤ md * NW 0 ∧ md * NW 0 < 2147483648 := by rcases hmd with q | q | q <;> rw [q] <;> omega
      refine V_aload_n dX8_setMode_17 rfl ?_
      refine V_callV (Y' := YX8_keeps) dX8_setMode_18 lX8_122 gX8_keeps (m8_keeps hm (by omega)) hm.1 rfl rfl rfl (Nat.le_of_ble_eq_true rfl) ⟨Nat.zero_le _, Nat.zero_le _⟩ (fun v h1 sz1 hq => ?_)
      obtain ⟨rfl, rfl, km2, KP2, hk2, hm⟩ := hq
      refine V_aload_n dX8_setMode_21 rfl ?_
      refine V_get dX8_setMode_22 fX8_22 hm.1 rfl ?_
      refine J_iconst dX8_setMode_25 ?_
      refine R_aldk_NW 5 dX8_setMode_26 hm rfl (by decide) ?_
      refine V_istore_n dX8_setMode_27 (Nat.le_of_ble_eq_true rfl) ?_
      refine V_aload_n dX8_setMode_28 rfl ?_
      refine V_get dX8_setMode_29 fX8_22 hm.1 rfl ?_
      refine J_iconst dX8_setMode_32 ?_
      refine V_iload_n dX8_setMode_33 rfl ?_
      refine R_astk_NW 5 dX8_setMode_34 hm rfl (by decide) (fun h hm => ?_)
      refine V_aload_n dX8_setMode_35 rfl ?_
      refine V_get dX8_setMode_36 fX8_22 hm.1 rfl ?_
      refine J_iconst dX8_setMode_39 ?_
      refine V_aload_n dX8_setMode_40 rfl ?_
      refine V_aload_n dX8_setMode_41 rfl ?_
      refine V_get dX8_setMode_42 fX8_22 hm.1 rfl ?_
      refine J_iconst dX8_setMode_45 ?_
      refine R_aldk_NW 0 dX8_setMode_46 hm rfl (by decide) ?_
      refine V_iload_n dX8_setMode_47 rfl ?_
      change V z YX8_setMode _ _ _ _ (_ :: .int (I (NW 0)) :: _) _ _ _ _
      refine V_callV (Y' := YX8_expects) dX8_setMode_48 lX8_114 gX8_expects (m8_expects hm hs (by first | omega | exact hx0)) hm.1 rfl rfl rfl (Nat.le_of_ble_eq_true rfl) ⟨Nat.zero_le _, Nat.zero_le _⟩ (fun v h1 sz1 hq => ?_)
      obtain ⟨rfl, rfl, rfl⟩ := hq
      refine R_astk_NW 1 dX8_setMode_51 hm rfl (by decide) (fun h hm => ?_)
      refine V_aload_n dX8_setMode_52 rfl ?_
      refine V_get dX8_setMode_53 fX8_22 hm.1 rfl ?_
      refine J_bipush dX8_setMode_56 (by decide) ?_
      refine J_iconst dX8_setMode_58 ?_
      refine R_astk_NW 17 dX8_setMode_59 hm rfl (by decide) (fun h hm => ?_)
      refine V_iload_n dX8_setMode_60 rfl ?_
      exact V_iret dX8_setMode_61 rfl rfl ⟨Nat.zero_le _, Nat.zero_le _⟩ ⟨rfl, Or.inr ⟨by omega, rfl, _, _, hk2, hm⟩⟩
    · refine V_iload_n dX8_setMode_10 rfl ?_
      refine J_iconst dX8_setMode_11 ?_
      refine J_icmp_eq (tgt := 17) dX8_setMode_12 (by decide) (by omega) (by omega) (fun c12 => ?_) (fun c12 => ?_)
      · have hmd : md = 1 ∨ md = 2 ∨ md = 4 := by omega
        have hx0 : 0 ≤ md * NW 0 ∧ md * NW 0 < 2147483648 := by rcases hmd with q | q | q <;> rw [q] <;> omega
        refine V_aload_n dX8_setMode_17 rfl ?_
        refine V_callV (Y' := YX8_keeps) dX8_setMode_18 lX8_122 gX8_keeps (m8_keeps hm (by omega)) hm.1 rfl rfl rfl (Nat.le_of_ble_eq_true rfl) ⟨Nat.zero_le _, Nat.zero_le _⟩ (fun v h1 sz1 hq => ?_)
        obtain ⟨rfl, rfl, km2, KP2, hk2, hm⟩ := hq
        refine V_aload_n dX8_setMode_21 rfl ?_
        refine V_get dX8_setMode_22 fX8_22 hm.1 rfl ?_
        refine J_iconst dX8_setMode_25 ?_
        refine R_aldk_NW 5 dX8_setMode_26 hm rfl (by decide) ?_
        refine V_istore_n dX8_setMode_27 (Nat.le_of_ble_eq_true rfl) ?_
        refine V_aload_n dX8_setMode_28 rfl ?_
        refine V_get dX8_setMode_29 fX8_22 hm.1 rfl ?_
        refine J_iconst dX8_setMode_32 ?_
        refine V_iload_n dX8_setMode_33 rfl ?_
        refine R_astk_NW 5 dX8_setMode_34 hm rfl (by decide) (fun h hm => ?_)
        refine V_aload_n dX8_setMode_35 rfl ?_
        refine V_get dX8_setMode_36 fX8_22 hm.1 rfl ?_
        refine J_iconst dX8_setMode_39 ?_
        refine V_aload_n dX8_setMode_40 rfl ?_
        refine V_aload_n dX8_setMode_41 rfl ?_
        refine V_get dX8_setMode_42 fX8_22 hm.1 rfl ?_
        refine J_iconst dX8_setMode_45 ?_
        refine R_aldk_NW 0 dX8_setMode_46 hm rfl (by decide) ?_
        refine V_iload_n dX8_setMode_47 rfl ?_
        change V z YX8_setMode _ _ _ _ (_ :: .int (I (NW 0)) :: _) _ _ _ _
        refine V_callV (Y' := YX8_expects) dX8_setMode_48 lX8_114 gX8_expects (m8_expects hm hs (by first | omega | exact hx0)) hm.1 rfl rfl rfl (Nat.le_of_ble_eq_true rfl) ⟨Nat.zero_le _, Nat.zero_le _⟩ (fun v h1 sz1 hq => ?_)
        obtain ⟨rfl, rfl, rfl⟩ := hq
        refine R_astk_NW 1 dX8_setMode_51 hm rfl (by decide) (fun h hm => ?_)
        refine V_aload_n dX8_setMode_52 rfl ?_
        refine V_get dX8_setMode_53 fX8_22 hm.1 rfl ?_
        refine J_bipush dX8_setMode_56 (by decide) ?_
        refine J_iconst dX8_setMode_58 ?_
        refine R_astk_NW 17 dX8_setMode_59 hm rfl (by decide) (fun h hm => ?_)
        refine V_iload_n dX8_setMode_60 rfl ?_
        exact V_iret dX8_setMode_61 rfl rfl ⟨Nat.zero_le _, Nat.zero_le _⟩ ⟨rfl, Or.inr ⟨by omega, rfl, _, _, hk2, hm⟩⟩
      · refine J_iconst dX8_setMode_15 ?_
        exact V_iret dX8_setMode_16 rfl rfl ⟨Nat.zero_le _, Nat.zero_le _⟩ ⟨rfl, Or.inl ⟨by omega, rfl, hm⟩⟩
set_option maxHeartbeats 4000000 in
set_option maxRecDepth 100000 in
theorem m8_setIndexGrating {z : ZG} {d sz r n s : Nat} {g h : AH} {l sp nu rs rm sc mk km : Int} {T RA RD MA NW SD KP : Nat → Int} {p q : Int} (hp : -2147483648 ≤ p ∧ p < 2147483648) (hq0 : -2147483648 ≤ q ∧ q < 2147483648) (hm : MS g r n s l sp nu rs rm sc mk km T RA RD MA NW SD KP h) (hk : 0 ≤ km ∧ km ≤ 6) : M z YX8_setIndexGrating (d + 1) 0 0 [.ref r, .int (I p), .int (I q)] h sz (fun w h' sz' => sz' = sz ∧ ((¬ ((8 ≤ p ∧ p ≤ 80) ∧ 0 ≤ q ∧ q ≤ 79) ∧ w = some (.int (I (-1))) ∧ MS g r n s l sp nu rs rm sc mk km T RA RD MA NW SD KP h') ∨ (((8 ≤ p ∧ p ≤ 80) ∧ 0 ≤ q ∧ q ≤ 79) ∧ w = some (.int (I (NW 6))) ∧ ∃ (km2 : Int) (KP2 : Nat → Int), kq km KP NW km2 KP2 ∧ MS g r n s l sp nu rs rm sc mk km2 T RA RD MA (va_up (va_up NW 6 p) 7 q) SD KP2 h'))) := by
  refine M.of (by decide +kernel) (Nat.le_of_ble_eq_true rfl) ?_
  refine V_iload_n dX8_setIndexGrating_0 rfl ?_
  refine J_i2l dX8_setIndexGrating_1 (by omega) ?_
  refine J_ldc2 8 dX8_setIndexGrating_2 cX8_137 rfl ?_
  refine J_ldc2 80 dX8_setIndexGrating_5 cX8_139 rfl ?_
  refine V_callS (Y' := YX8_in) dX8_setIndexGrating_8 lX8_57 gX8_in (m8_in (by omega) (by omega) (by omega)) rfl rfl (Nat.le_of_ble_eq_true rfl) ⟨Nat.zero_le _, Nat.zero_le _⟩ (fun v h1 sz1 hq => ?_)
  obtain ⟨t8, rfl, ht8, rfl, rfl⟩ := hq
  refine J_if_eq (tgt := 26) dX8_setIndexGrating_11 (by decide) (by omega) (fun c11 => ?_) (fun c11 => ?_)
  · refine J_iconst dX8_setIndexGrating_26 ?_
    exact V_iret dX8_setIndexGrating_27 rfl rfl ⟨Nat.zero_le _, Nat.zero_le _⟩ ⟨rfl, Or.inl ⟨by omega, rfl, hm⟩⟩
  · refine V_iload_n dX8_setIndexGrating_14 rfl ?_
    refine J_i2l dX8_setIndexGrating_15 (by omega) ?_
    refine J_lconst0 dX8_setIndexGrating_16 ?_
    refine J_ldc2 79 dX8_setIndexGrating_17 cX8_141 rfl ?_
    refine V_callS (Y' := YX8_in) dX8_setIndexGrating_20 lX8_57 gX8_in (m8_in (by omega) (by omega) (by omega)) rfl rfl (Nat.le_of_ble_eq_true rfl) ⟨Nat.zero_le _, Nat.zero_le _⟩ (fun v h1 sz1 hq => ?_)
    obtain ⟨t20, rfl, ht20, rfl, rfl⟩ := hq
    refine J_if_ne (tgt := 28) dX8_setIndexGrating_23 (by decide) (by omega) (fun c23 => ?_) (fun c23 => ?_)
    · refine V_aload_n dX8_setIndexGrating_28 rfl ?_
      refine V_callV (Y' := YX8_keeps) dX8_setIndexGrating_29 lX8_122 gX8_keeps (m8_keeps hm (by omega)) hm.1 rfl rfl rfl (Nat.le_of_ble_eq_true rfl) ⟨Nat.zero_le _, Nat.zero_le _⟩ (fun v h1 sz1 hq => ?_)
      obtain ⟨rfl, rfl, km2, KP2, hk2, hm⟩ := hq
      refine V_aload_n dX8_setIndexGrating_32 rfl ?_
      refine V_get dX8_setIndexGrating_33 fX8_22 hm.1 rfl ?_
      refine J_bipush dX8_setIndexGrating_36 (by decide) ?_
      refine R_aldk_NW 6 dX8_setIndexGrating_38 hm rfl (by decide) ?_
      refine V_istore_n dX8_setIndexGrating_39 (Nat.le_of_ble_eq_true rfl) ?_
      refine V_aload_n dX8_setIndexGrating_40 rfl ?_
      refine V_get dX8_setIndexGrating_41 fX8_22 hm.1 rfl ?_
      refine J_bipush dX8_setIndexGrating_44 (by decide) ?_
      refine V_iload_n dX8_setIndexGrating_46 rfl ?_
      refine R_astk_NW 6 dX8_setIndexGrating_47 hm rfl (by decide) (fun h hm => ?_)
      refine V_aload_n dX8_setIndexGrating_48 rfl ?_
      refine V_get dX8_setIndexGrating_49 fX8_22 hm.1 rfl ?_
      refine J_bipush dX8_setIndexGrating_52 (by decide) ?_
      refine V_iload_n dX8_setIndexGrating_54 rfl ?_
      refine R_astk_NW 7 dX8_setIndexGrating_55 hm rfl (by decide) (fun h hm => ?_)
      refine V_iload_n dX8_setIndexGrating_56 rfl ?_
      exact V_iret dX8_setIndexGrating_57 rfl rfl ⟨Nat.zero_le _, Nat.zero_le _⟩ ⟨rfl, Or.inr ⟨by omega, rfl, _, _, hk2, hm⟩⟩
    · refine J_iconst dX8_setIndexGrating_26 ?_
      exact V_iret dX8_setIndexGrating_27 rfl rfl ⟨Nat.zero_le _, Nat.zero_le _⟩ ⟨rfl, Or.inl ⟨by omega, rfl, hm⟩⟩
def adR (NW : Nat → Int) (e : Nat) (x y : Int) : Nat → Int := va_up (va_up (va_up NW (9 + 2 * e) x) (10 + 2 * e) y) 8 (e + 1)
set_option maxHeartbeats 4000000 in
set_option maxRecDepth 100000 in
theorem m8_addDirt {z : ZG} {d sz r n s : Nat} {g h : AH} {l sp nu rs rm sc mk km : Int} {T RA RD MA NW SD KP : Nat → Int} {x y : Int} (hx : -2147483648 ≤ x ∧ x < 2147483648) (hy : -2147483648 ≤ y ∧ y < 2147483648) (hm : MS g r n s l sp nu rs rm sc mk km T RA RD MA NW SD KP h) (hk : 0 ≤ km ∧ km ≤ 6) (h8 : 0 ≤ NW 8 ∧ NW 8 ≤ 4) : M z YX8_addDirt (d + 1) 0 0 [.ref r, .int (I x), .int (I y)] h sz (fun w h' sz' => sz' = sz ∧ ((¬ ((0 ≤ x ∧ x ≤ 9999) ∧ 1 ≤ y ∧ y ≤ 99) ∧ w = some (.int (I (-1))) ∧ MS g r n s l sp nu rs rm sc mk km T RA RD MA NW SD KP h') ∨ (((0 ≤ x ∧ x ≤ 9999) ∧ 1 ≤ y ∧ y ≤ 99) ∧ NW 8 = 4 ∧ w = some (.int (I (-3))) ∧ MS g r n s l sp nu rs rm sc mk km T RA RD MA NW SD KP h') ∨ (((0 ≤ x ∧ x ≤ 9999) ∧ 1 ≤ y ∧ y ≤ 99) ∧ ∃ e : Nat, NW 8 = e ∧ e ≤ 3 ∧ w = some (.int (I (e + 1))) ∧ ∃ (km2 : Int) (KP2 : Nat → Int), kq km KP NW km2 KP2 ∧ MS g r n s l sp nu rs rm sc mk km2 T RA RD MA (adR NW e x y) SD KP2 h'))) := by
  refine M.of (by decide +kernel) (Nat.le_of_ble_eq_true rfl) ?_
  refine V_iload_n dX8_addDirt_0 rfl ?_
  refine J_i2l dX8_addDirt_1 (by omega) ?_
  refine J_lconst0 dX8_addDirt_2 ?_
  refine J_ldc2 9999 dX8_addDirt_3 cX8_110 rfl ?_
  refine V_callS (Y' := YX8_in) dX8_addDirt_6 lX8_57 gX8_in (m8_in (by omega) (by omega) (by omega)) rfl rfl (Nat.le_of_ble_eq_true rfl) ⟨Nat.zero_le _, Nat.zero_le _⟩ (fun v h1 sz1 hq => ?_)
  obtain ⟨t6, rfl, ht6, rfl, rfl⟩ := hq
  refine J_if_eq (tgt := 24) dX8_addDirt_9 (by decide) (by omega) (fun c9 => ?_) (fun c9 => ?_)
  · refine J_iconst dX8_addDirt_24 ?_
    exact V_iret dX8_addDirt_25 rfl rfl ⟨Nat.zero_le _, Nat.zero_le _⟩ ⟨rfl, Or.inl ⟨by omega, rfl, hm⟩⟩
  · refine V_iload_n dX8_addDirt_12 rfl ?_
    refine J_i2l dX8_addDirt_13 (by omega) ?_
    refine J_lconst1 dX8_addDirt_14 ?_
    refine J_ldc2 99 dX8_addDirt_15 cX8_112 rfl ?_
    refine V_callS (Y' := YX8_in) dX8_addDirt_18 lX8_57 gX8_in (m8_in (by omega) (by omega) (by omega)) rfl rfl (Nat.le_of_ble_eq_true rfl) ⟨Nat.zero_le _, Nat.zero_le _⟩ (fun v h1 sz1 hq => ?_)
    obtain ⟨t18, rfl, ht18, rfl, rfl⟩ := hq
    refine J_if_ne (tgt := 26) dX8_addDirt_21 (by decide) (by omega) (fun c21 => ?_) (fun c21 => ?_)
    · refine V_aload_n dX8_addDirt_26 rfl ?_
      refine V_get dX8_addDirt_27 fX8_22 hm.1 rfl ?_
      refine J_bipush dX8_addDirt_30 (by decide) ?_
      refine R_aldk_NW 8 dX8_addDirt_32 hm rfl (by decide) ?_
      refine J_iconst dX8_addDirt_33 ?_
      refine J_icmp_ne (tgt := 40) dX8_addDirt_34 (by decide) (by omega) (by omega) (fun c34 => ?_) (fun c34 => ?_)
      · refine V_aload_n dX8_addDirt_40 rfl ?_
        refine V_callV (Y' := YX8_keeps) dX8_addDirt_41 lX8_122 gX8_keeps (m8_keeps hm (by omega)) hm.1 rfl rfl rfl (Nat.le_of_ble_eq_true rfl) ⟨Nat.zero_le _, Nat.zero_le _⟩ (fun v h1 sz1 hq => ?_)
        obtain ⟨rfl, rfl, km2, KP2, hk2, hm⟩ := hq
        obtain ⟨e, he⟩ : ∃ e : Nat, NW 8 = e := ⟨(NW 8).toNat, by omega⟩
        refine V_aload_n dX8_addDirt_44 rfl ?_
        refine V_get dX8_addDirt_45 fX8_22 hm.1 rfl ?_
        refine J_bipush dX8_addDirt_48 (by decide) ?_
        refine J_iconst dX8_addDirt_50 ?_
        refine V_aload_n dX8_addDirt_51 rfl ?_
        refine V_get dX8_addDirt_52 fX8_22 hm.1 rfl ?_
        refine J_bipush dX8_addDirt_55 (by decide) ?_
        refine R_aldk_NW 8 dX8_addDirt_57 hm rfl (by decide) ?_
        refine J_imul dX8_addDirt_58 ?_
        refine J_iadd dX8_addDirt_59 ?_
        refine V_iload_n dX8_addDirt_60 rfl ?_
        refine R_astk_NW (9 + 2 * e) dX8_addDirt_61 hm (by omega) (by omega) (fun h hm => ?_)
        refine V_aload_n dX8_addDirt_62 rfl ?_
        refine V_get dX8_addDirt_63 fX8_22 hm.1 rfl ?_
        refine J_bipush dX8_addDirt_66 (by decide) ?_
        refine J_iconst dX8_addDirt_68 ?_
        refine V_aload_n dX8_addDirt_69 rfl ?_
        refine V_get dX8_addDirt_70 fX8_22 hm.1 rfl ?_
        refine J_bipush dX8_addDirt_73 (by decide) ?_
        refine R_aldk_NW 8 dX8_addDirt_75 hm rfl (by decide) ?_
        have e1 : va_up NW (9 + 2 * e) x 8 = NW 8 := if_neg (by omega)
        rw [e1]
        refine J_imul dX8_addDirt_76 ?_
        refine J_iadd dX8_addDirt_77 ?_
        refine J_iconst dX8_addDirt_78 ?_
        refine J_iadd dX8_addDirt_79 ?_
        refine V_iload_n dX8_addDirt_80 rfl ?_
        refine R_astk_NW (10 + 2 * e) dX8_addDirt_81 hm (by omega) (by omega) (fun h hm => ?_)
        refine V_aload_n dX8_addDirt_82 rfl ?_
        refine V_get dX8_addDirt_83 fX8_22 hm.1 rfl ?_
        refine J_bipush dX8_addDirt_86 (by decide) ?_
        refine V_dup2 dX8_addDirt_88 rfl rfl ?_
        refine R_aldk_NW 8 dX8_addDirt_89 hm rfl (by decide) ?_
        have e2 : va_up (va_up NW (9 + 2 * e) x) (10 + 2 * e) y 8 = NW 8 := (if_neg (by omega)).trans (if_neg (by omega))
        rw [e2]
        refine J_iconst dX8_addDirt_90 ?_
        refine J_iadd dX8_addDirt_91 ?_
        refine R_astk_NW 8 dX8_addDirt_92 hm rfl (by decide) (fun h hm => ?_)
        refine V_aload_n dX8_addDirt_93 rfl ?_
        refine V_get dX8_addDirt_94 fX8_22 hm.1 rfl ?_
        refine J_bipush dX8_addDirt_97 (by decide) ?_
        refine R_aldk_NW 8 dX8_addDirt_99 hm rfl (by decide) ?_
        change V z YX8_addDirt _ _ _ _ (.int (I (NW 8 + 1)) :: _) _ _ _ _
        exact V_iret dX8_addDirt_100 rfl rfl ⟨Nat.zero_le _, Nat.zero_le _⟩ ⟨rfl, Or.inr (Or.inr ⟨by omega, e, he, by omega, by rw [he], _, _, hk2, hm.eNW (fun j hj => by unfold adR; rw [he])⟩)⟩
      · refine J_bipush dX8_addDirt_37 (by decide) ?_
        exact V_iret dX8_addDirt_39 rfl rfl ⟨Nat.zero_le _, Nat.zero_le _⟩ ⟨rfl, Or.inr (Or.inl ⟨by omega, by omega, rfl, hm⟩)⟩
    · refine J_iconst dX8_addDirt_24 ?_
      exact V_iret dX8_addDirt_25 rfl rfl ⟨Nat.zero_le _, Nat.zero_le _⟩ ⟨rfl, Or.inl ⟨by omega, rfl, hm⟩⟩
def rmS (NW : Nat → Int) (e j : Nat) : Int := if 9 + 2 * e ≤ j ∧ j < 15 then NW (j + 2) else NW j
def rmR (NW : Nat → Int) (e : Nat) : Nat → Int := va_up (rmS NW e) 8 (NW 8 - 1)
set_option maxHeartbeats 4000000 in
set_option maxRecDepth 100000 in
theorem l8_removeDirt_43 {z : ZG} {d sz r n s : Nat} {g : AH} {l sp nu rs rm sc mk km : Int} {T RA RD MA SD KP : Nat → Int} {N0 : Nat → Int} {e : Nat} {ix : Int} (he : e ≤ 3) : ∀ (f i : Nat) (NW : Nat → Int) (h : AH), 2 * e ≤ i → i ≤ 6 → 6 - i < f → (∀ j : Nat, j < 42 → NW j = if 9 + 2 * e ≤ j ∧ j < 9 + i then N0 (j + 2) else N0 j) → MS g r n s l sp nu rs rm sc mk km T RA RD MA NW SD KP h → V z YX8_removeDirt (zroom (d + 1) 0 0) (fun w h' sz' => w = some (.int (I (N0 (10 + 2 * e)))) ∧ sz' = sz ∧ MS g r n s l sp nu rs rm sc mk km T RA RD MA (rmR N0 e) SD KP h') 43 [some (.ref r), some (.int (I ix)), some (.int (I (N0 (10 + 2 * e)))), some (.int (I (i : Int)))] [] h sz 0 0 := by
  intro f
  induction f with
  | zero => intro i NW h h0 h1 h2; omega
  | succ f ih =>
    intro i NW h h0 h1 h2 hz hm
    refine V_iload_n dX8_removeDirt_43 rfl ?_
    refine J_bipush dX8_removeDirt_44 (by decide) ?_
    refine J_icmp_ge (tgt := 75) dX8_removeDirt_46 (by decide) (by omega) (by omega) (fun c46 => ?_) (fun c46 => ?_)
    · refine V_aload_n dX8_removeDirt_75 rfl ?_
      refine V_get dX8_removeDirt_76 fX8_22 hm.1 rfl ?_
      refine J_bipush dX8_removeDirt_79 (by decide) ?_
      refine V_dup2 dX8_removeDirt_81 rfl rfl ?_
      refine R_aldk_NW 8 dX8_removeDirt_82 hm rfl (by decide) ?_
      refine J_iconst dX8_removeDirt_83 ?_
      refine J_isub dX8_removeDirt_84 ?_
      refine R_astk_NW 8 dX8_removeDirt_85 hm rfl (by decide) (fun h hm => ?_)
      refine V_iload_n dX8_removeDirt_86 rfl ?_
      exact V_iret dX8_removeDirt_87 rfl rfl ⟨Nat.zero_le _, Nat.zero_le _⟩ ⟨rfl, rfl, hm.eNW (fun j hj => by unfold rmR rmS va_up; rw [hz j hj, hz 8 (by omega), if_neg (show ¬ (9 + 2 * e ≤ 8 ∧ 8 < 9 + i) by omega)]; congr 1; congr 1; apply propext; omega)⟩
    · refine V_aload_n dX8_removeDirt_49 rfl ?_
      refine V_get dX8_removeDirt_50 fX8_22 hm.1 rfl ?_
      refine J_bipush dX8_removeDirt_53 (by decide) ?_
      refine V_iload_n dX8_removeDirt_55 rfl ?_
      refine J_iadd dX8_removeDirt_56 ?_
      refine V_aload_n dX8_removeDirt_57 rfl ?_
      refine V_get dX8_removeDirt_58 fX8_22 hm.1 rfl ?_
      refine J_bipush dX8_removeDirt_61 (by decide) ?_
      refine V_iload_n dX8_removeDirt_63 rfl ?_
      refine J_iadd dX8_removeDirt_64 ?_
      refine J_iconst dX8_removeDirt_65 ?_
      refine J_iadd dX8_removeDirt_66 ?_
      refine R_aldk_NW (11 + i) dX8_removeDirt_67 hm (by omega) (by omega) ?_
      refine R_astk_NW (9 + i) dX8_removeDirt_68 hm (by omega) (by omega) (fun h hm => ?_)
      refine J_iinc dX8_removeDirt_69 rfl ?_
      refine V_goto (tgt := 43) dX8_removeDirt_72 (by decide) ?_
      refine ih (i + 1) _ h (by omega) (by omega) (by omega) ?_ hm
      intro j hj
      have e0 := hz j hj
      simp only [va_up]
      by_cases q1 : j = 9 + i
      · subst q1; rw [if_pos rfl, if_pos (by omega), hz (11 + i) (by omega), if_neg (by omega)]; congr 1; omega
      · rw [if_neg q1, e0]; split <;> split <;> first | rfl | omega
set_option maxHeartbeats 4000000 in
set_option maxRecDepth 100000 in
theorem m8_removeDirt {z : ZG} {d sz r n s : Nat} {g h : AH} {l sp nu rs rm sc mk km : Int} {T RA RD MA NW SD KP : Nat → Int} {x : Int} (hx : -2147483648 ≤ x ∧ x < 2147483648) (hm : MS g r n s l sp nu rs rm sc mk km T RA RD MA NW SD KP h) (hk : 0 ≤ km ∧ km ≤ 6) (h8 : 0 ≤ NW 8 ∧ NW 8 ≤ 4) : M z YX8_removeDirt (d + 1) 0 0 [.ref r, .int (I x)] h sz (fun w h' sz' => sz' = sz ∧ ((¬ (0 ≤ x ∧ x ≤ NW 8 - 1) ∧ w = some (.int (I (-1))) ∧ MS g r n s l sp nu rs rm sc mk km T RA RD MA NW SD KP h') ∨ (∃ e : Nat, x = e ∧ (0 ≤ x ∧ x ≤ NW 8 - 1) ∧ w = some (.int (I (NW (10 + 2 * e)))) ∧ ∃ (km2 : Int) (KP2 : Nat → Int), kq km KP NW km2 KP2 ∧ MS g r n s l sp nu rs rm sc mk km2 T RA RD MA (rmR NW e) SD KP2 h'))) := by
  refine M.of (by decide +kernel) (Nat.le_of_ble_eq_true rfl) ?_
  refine V_iload_n dX8_removeDirt_0 rfl ?_
  refine J_i2l dX8_removeDirt_1 (by omega) ?_
  refine J_lconst0 dX8_removeDirt_2 ?_
  refine V_aload_n dX8_removeDirt_3 rfl ?_
  refine V_get dX8_removeDirt_4 fX8_22 hm.1 rfl ?_
  refine J_bipush dX8_removeDirt_7 (by decide) ?_
  refine R_aldk_NW 8 dX8_removeDirt_9 hm rfl (by decide) ?_
  refine J_iconst dX8_removeDirt_10 ?_
  refine J_isub dX8_removeDirt_11 ?_
  refine J_i2l dX8_removeDirt_12 (by omega) ?_
  refine V_callS (Y' := YX8_in) dX8_removeDirt_13 lX8_57 gX8_in (m8_in (by omega) (by omega) (by omega)) rfl rfl (Nat.le_of_ble_eq_true rfl) ⟨Nat.zero_le _, Nat.zero_le _⟩ (fun v h1 sz1 hq => ?_)
  obtain ⟨t13, rfl, ht13, rfl, rfl⟩ := hq
  refine J_if_ne (tgt := 21) dX8_removeDirt_16 (by decide) (by omega) (fun c16 => ?_) (fun c16 => ?_)
  · refine V_aload_n dX8_removeDirt_21 rfl ?_
    refine V_callV (Y' := YX8_keeps) dX8_removeDirt_22 lX8_122 gX8_keeps (m8_keeps hm (by omega)) hm.1 rfl rfl rfl (Nat.le_of_ble_eq_true rfl) ⟨Nat.zero_le _, Nat.zero_le _⟩ (fun v h1 sz1 hq => ?_)
    obtain ⟨rfl, rfl, km2, KP2, hk2, hm⟩ := hq
    obtain ⟨e, rfl⟩ : ∃ e : Nat, x = e := ⟨x.toNat, by omega⟩
    refine V_aload_n dX8_removeDirt_25 rfl ?_
    refine V_get dX8_removeDirt_26 fX8_22 hm.1 rfl ?_
    refine J_bipush dX8_removeDirt_29 (by decide) ?_
    refine J_iconst dX8_removeDirt_31 ?_
    refine V_iload_n dX8_removeDirt_32 rfl ?_
    refine J_imul dX8_removeDirt_33 ?_
    refine J_iadd dX8_removeDirt_34 ?_
    refine J_iconst dX8_removeDirt_35 ?_
    refine J_iadd dX8_removeDirt_36 ?_
    refine R_aldk_NW (10 + 2 * e) dX8_removeDirt_37 hm (by omega) (by omega) ?_
    refine V_istore_n dX8_removeDirt_38 (Nat.le_of_ble_eq_true rfl) ?_
    refine J_iconst dX8_removeDirt_39 ?_
    refine V_iload_n dX8_removeDirt_40 rfl ?_
    refine J_imul dX8_removeDirt_41 ?_
    refine V_istore_n dX8_removeDirt_42 (Nat.le_of_ble_eq_true rfl) ?_
    have hp : (2 * (e : Int)) = ((2 * e : Nat) : Int) := by omega
    rw [hp]
    refine V_mono ?_ (l8_removeDirt_43 (N0 := NW) (e := e) (by omega) 7 (2 * e) _ _ (by omega) (by omega) (by omega) (fun j hj => by rw [if_neg (by omega)]) hm)
    rintro w h2 sz2 ⟨rfl, rfl, hm⟩
    exact ⟨rfl, Or.inr ⟨e, rfl, by omega, rfl, _, _, hk2, hm⟩⟩
  · refine J_iconst dX8_removeDirt_19 ?_
    exact V_iret dX8_removeDirt_20 rfl rfl ⟨Nat.zero_le _, Nat.zero_le _⟩ ⟨rfl, Or.inl ⟨by omega, rfl, hm⟩⟩
set_option maxHeartbeats 4000000 in
set_option maxRecDepth 100000 in
theorem m8_zeroSlip {z : ZG} {d sz r n s : Nat} {g h : AH} {l sp nu rs rm sc mk km : Int} {T RA RD MA NW SD KP : Nat → Int} (hm : MS g r n s l sp nu rs rm sc mk km T RA RD MA NW SD KP h) (hs : 8 ≤ sc ∧ sc ≤ 80) (hr : rok NW) (hk : 0 ≤ km ∧ km ≤ 6) : M z YX8_zeroSlip (d + 1) 0 0 [.ref r] h sz (fun w h' sz' => sz' = sz ∧ ∃ res : Int, w = some (.int (I res)) ∧ ((res = 0 ∧ I (NW 1) = I (NW 5 * NW 0 / sc)) ∨ (res = 1 ∧ ¬ I (NW 1) = I (NW 5 * NW 0 / sc))) ∧ ∃ (km2 : Int) (KP2 : Nat → Int), kq km KP NW km2 KP2 ∧ MS g r n s l sp nu rs rm sc mk km2 T RA RD MA (va_up NW 1 (NW 5 * NW 0 / sc)) SD KP2 h') := by
  refine M.of (by decide +kernel) (Nat.le_of_ble_eq_true rfl) ?_
  have hx0 := md_rg hr.2.2.1 hr.1
  refine V_aload_n dX8_zeroSlip_0 rfl ?_
  refine V_callV (Y' := YX8_keeps) dX8_zeroSlip_1 lX8_122 gX8_keeps (m8_keeps hm (by omega)) hm.1 rfl rfl rfl (Nat.le_of_ble_eq_true rfl) ⟨Nat.zero_le _, Nat.zero_le _⟩ (fun v h1 sz1 hq => ?_)
  obtain ⟨rfl, rfl, km2, KP2, hk2, hm⟩ := hq
  refine V_aload_n dX8_zeroSlip_4 rfl ?_
  refine V_aload_n dX8_zeroSlip_5 rfl ?_
  refine V_get dX8_zeroSlip_6 fX8_22 hm.1 rfl ?_
  refine J_iconst dX8_zeroSlip_9 ?_
  refine R_aldk_NW 0 dX8_zeroSlip_10 hm rfl (by decide) ?_
  refine V_aload_n dX8_zeroSlip_11 rfl ?_
  refine V_get dX8_zeroSlip_12 fX8_22 hm.1 rfl ?_
  refine J_iconst dX8_zeroSlip_15 ?_
  refine R_aldk_NW 5 dX8_zeroSlip_16 hm rfl (by decide) ?_
  refine V_callV (Y' := YX8_expects) dX8_zeroSlip_17 lX8_114 gX8_expects (m8_expects hm hs (by first | omega | exact hx0)) hm.1 rfl rfl rfl (Nat.le_of_ble_eq_true rfl) ⟨Nat.zero_le _, Nat.zero_le _⟩ (fun v h1 sz1 hq => ?_)
  obtain ⟨rfl, rfl, rfl⟩ := hq
  refine V_istore_n dX8_zeroSlip_20 (Nat.le_of_ble_eq_true rfl) ?_
  refine V_aload_n dX8_zeroSlip_21 rfl ?_
  refine V_get dX8_zeroSlip_22 fX8_22 hm.1 rfl ?_
  refine J_iconst dX8_zeroSlip_25 ?_
  refine R_aldk_NW 1 dX8_zeroSlip_26 hm rfl (by decide) ?_
  refine V_iload_n dX8_zeroSlip_27 rfl ?_
  refine V_icmp_ne (tgt := 35) dX8_zeroSlip_28 (by decide) (fun c28 => ?_) (fun c28 => ?_)
  · refine J_iconst dX8_zeroSlip_35 ?_
    refine V_istore_n dX8_zeroSlip_36 (Nat.le_of_ble_eq_true rfl) ?_
    refine V_aload_n dX8_zeroSlip_37 rfl ?_
    refine V_get dX8_zeroSlip_38 fX8_22 hm.1 rfl ?_
    refine J_iconst dX8_zeroSlip_41 ?_
    refine V_iload_n dX8_zeroSlip_42 rfl ?_
    refine R_astk_NW 1 dX8_zeroSlip_43 hm rfl (by decide) (fun h hm => ?_)
    refine V_iload_n dX8_zeroSlip_44 rfl ?_
    exact V_iret dX8_zeroSlip_45 rfl rfl ⟨Nat.zero_le _, Nat.zero_le _⟩ ⟨rfl, _, rfl, by first | exact Or.inl ⟨rfl, c28⟩ | exact Or.inr ⟨rfl, c28⟩, _, _, hk2, hm⟩
  · refine J_iconst dX8_zeroSlip_31 ?_
    refine V_goto (tgt := 36) dX8_zeroSlip_32 (by decide) ?_
    refine V_istore_n dX8_zeroSlip_36 (Nat.le_of_ble_eq_true rfl) ?_
    refine V_aload_n dX8_zeroSlip_37 rfl ?_
    refine V_get dX8_zeroSlip_38 fX8_22 hm.1 rfl ?_
    refine J_iconst dX8_zeroSlip_41 ?_
    refine V_iload_n dX8_zeroSlip_42 rfl ?_
    refine R_astk_NW 1 dX8_zeroSlip_43 hm rfl (by decide) (fun h hm => ?_)
    refine V_iload_n dX8_zeroSlip_44 rfl ?_
    exact V_iret dX8_zeroSlip_45 rfl rfl ⟨Nat.zero_le _, Nat.zero_le _⟩ ⟨rfl, _, rfl, by first | exact Or.inl ⟨rfl, c28⟩ | exact Or.inr ⟨rfl, c28⟩, _, _, hk2, hm⟩
def mEv (N : Nat → Int) : Nat → Nat → Int
  | 0, _ => -4
  | k + 1, left => if N (18 + 3 * k) = 0 then (if left = 0 then ((18 + 3 * k : Nat) : Int) else mEv N k (left - 1)) else mEv N k left
theorem mEv_s {N : Nat → Int} {k left : Nat} : mEv N (k + 1) left = if N (18 + 3 * k) = 0 then (if left = 0 then ((18 + 3 * k : Nat) : Int) else mEv N k (left - 1)) else mEv N k left := rfl
theorem mEv_rg {N : Nat → Int} : ∀ k left, k ≤ 8 → mEv N k left = -4 ∨ ∃ q : Nat, q < 8 ∧ mEv N k left = 18 + 3 * q := by
  intro k
  induction k with
  | zero => intro left h; exact Or.inl rfl
  | succ k ih =>
    intro left h
    rw [mEv_s]
    split
    · split
      · exact Or.inr ⟨k, by omega, by omega⟩
      · exact ih _ (by omega)
    · exact ih _ (by omega)
theorem mEv_10 {N : Nat → Int} : ∀ k, k ≤ 8 → mEv N k 0 = -4 → mEv N k 1 = -4 := by
  intro k
  induction k with
  | zero => intro _ _; rfl
  | succ k ih =>
    intro h
    rw [mEv_s, mEv_s]
    split
    · rw [if_pos rfl]; intro q; omega
    · exact ih (by omega)
set_option maxHeartbeats 4000000 in
set_option maxRecDepth 100000 in
theorem l8_markEvent_12 {z : ZG} {d sz r n s : Nat} {g h : AH} {l sp nu rs rm sc mk km : Int} {T RA RD MA NW SD KP : Nat → Int} {wh : Nat} {w0 : Int} (hm : MS g r n s l sp nu rs rm sc mk km T RA RD MA NW SD KP h) (hk : ∀ k : Nat, k < 8 → 0 ≤ NW (18 + 3 * k) ∧ NW (18 + 3 * k) ≤ 1) : ∀ (k left : Nat), k ≤ 8 → left ≤ 8 → mEv NW k left = mEv NW (NW 17).toNat wh → V z YX8_markEvent (zroom d 0 0) (fun w h' sz' => w = some (.int (I (mEv NW (NW 17).toNat wh))) ∧ h' = h ∧ sz' = sz) 12 [some (.ref r), some (.int (I w0)), some (.int (I (left : Int))), some (.int (I ((k : Int) - 1)))] [] h sz 0 0 := by
  intro k
  induction k with
  | zero =>
    intro left h1 h2 he
    refine V_iload_n dX8_markEvent_12 rfl ?_
    refine J_if_lt (tgt := 50) dX8_markEvent_13 (by decide) (by omega) (fun c13 => ?_) (fun c13 => ?_)
    · refine J_bipush dX8_markEvent_50 (by decide) ?_
      exact V_iret dX8_markEvent_52 rfl rfl ⟨Nat.zero_le _, Nat.zero_le _⟩ ⟨by rw [← he]; rfl, rfl, rfl⟩
    · exfalso
      omega
  | succ k ih =>
    intro left h1 h2 he
    have hkk := hk k (by omega)
    rw [mEv_s] at he
    rw [show (((k + 1 : Nat) : Int) - 1) = k by omega]
    refine V_iload_n dX8_markEvent_12 rfl ?_
    refine J_if_lt (tgt := 50) dX8_markEvent_13 (by decide) (by omega) (fun c13 => ?_) (fun c13 => ?_)
    · exfalso
      omega
    · refine V_aload_n dX8_markEvent_16 rfl ?_
      refine V_get dX8_markEvent_17 fX8_22 hm.1 rfl ?_
      refine J_bipush dX8_markEvent_20 (by decide) ?_
      refine J_iconst dX8_markEvent_22 ?_
      refine V_iload_n dX8_markEvent_23 rfl ?_
      refine J_imul dX8_markEvent_24 ?_
      refine J_iadd dX8_markEvent_25 ?_
      refine R_aldk_NW (18 + 3 * k) dX8_markEvent_26 hm (by omega) (by omega) ?_
      refine J_if_ne (tgt := 44) dX8_markEvent_27 (by decide) (by omega) (fun c27 => ?_) (fun c27 => ?_)
      · refine J_iinc dX8_markEvent_44 rfl ?_
        refine V_goto (tgt := 12) dX8_markEvent_47 (by decide) ?_
        first | exact ih left (by omega) (by omega) (by rw [if_neg c27] at he; exact he) | (rw [show ((left : Int) + -1) = ((left - 1 : Nat) : Int) by omega]; exact ih (left - 1) (by omega) (by omega) (by rw [if_pos c27, if_neg (by omega)] at he; exact he))
      · refine V_iload_n dX8_markEvent_30 rfl ?_
        refine J_if_ne (tgt := 41) dX8_markEvent_31 (by decide) (by omega) (fun c31 => ?_) (fun c31 => ?_)
        · refine J_iinc dX8_markEvent_41 rfl ?_
          refine J_iinc dX8_markEvent_44 rfl ?_
          refine V_goto (tgt := 12) dX8_markEvent_47 (by decide) ?_
          first | exact ih left (by omega) (by omega) (by rw [if_neg c27] at he; exact he) | (rw [show ((left : Int) + -1) = ((left - 1 : Nat) : Int) by omega]; exact ih (left - 1) (by omega) (by omega) (by rw [if_pos c27, if_neg (by omega)] at he; exact he))
        · refine J_bipush dX8_markEvent_34 (by decide) ?_
          refine J_iconst dX8_markEvent_36 ?_
          refine V_iload_n dX8_markEvent_37 rfl ?_
          refine J_imul dX8_markEvent_38 ?_
          refine J_iadd dX8_markEvent_39 ?_
          exact V_iret dX8_markEvent_40 rfl rfl ⟨Nat.zero_le _, Nat.zero_le _⟩ ⟨by rw [← he, if_pos c27, if_pos (by omega)]; congr 3, rfl, rfl⟩
set_option maxHeartbeats 4000000 in
set_option maxRecDepth 100000 in
theorem m8_markEvent {z : ZG} {d sz r n s : Nat} {g h : AH} {l sp nu rs rm sc mk km : Int} {T RA RD MA NW SD KP : Nat → Int} {wh : Nat} (hw : wh ≤ 1) (hm : MS g r n s l sp nu rs rm sc mk km T RA RD MA NW SD KP h) (hr : rok NW) : M z YX8_markEvent d 0 0 [.ref r, .int (I (wh : Int))] h sz (fun w h' sz' => w = some (.int (I (mEv NW (NW 17).toNat wh))) ∧ h' = h ∧ sz' = sz) := by
  refine M.of (by decide +kernel) (Nat.le_of_ble_eq_true rfl) ?_
  obtain ⟨e, he⟩ : ∃ e : Nat, NW 17 = e := ⟨(NW 17).toNat, by have := hr.2.2.2.2.2.2.1; omega⟩
  have h17 := hr.2.2.2.2.2.2.1
  refine V_iload_n dX8_markEvent_0 rfl ?_
  refine V_istore_n dX8_markEvent_1 (Nat.le_of_ble_eq_true rfl) ?_
  refine V_aload_n dX8_markEvent_2 rfl ?_
  refine V_get dX8_markEvent_3 fX8_22 hm.1 rfl ?_
  refine J_bipush dX8_markEvent_6 (by decide) ?_
  refine R_aldk_NW 17 dX8_markEvent_8 hm rfl (by decide) ?_
  refine J_iconst dX8_markEvent_9 ?_
  refine J_isub dX8_markEvent_10 ?_
  refine V_top (b := (e : Int) - 1) (by omega) ?_
  refine V_istore_n dX8_markEvent_11 (Nat.le_of_ble_eq_true rfl) ?_
  exact l8_markEvent_12 hm hr.2.2.2.2.2.2.2.2 e wh (by omega) (by omega) (by rw [he, Int.toNat_natCast])
set_option maxHeartbeats 4000000 in
set_option maxRecDepth 100000 in
theorem m8_apart {z : ZG} {d sz : Nat} {h : AH} {a b : Int} : M z YX8_apart d 0 0 [.int (I a), .int (I b)] h sz (fun w h' sz' => ∃ q : Int, w = some (.int (I q)) ∧ ((I a ≤ I b ∧ q = b - a) ∨ (¬ I a ≤ I b ∧ q = a - b)) ∧ h' = h ∧ sz' = sz) := by
  refine M.of (by decide +kernel) (Nat.le_of_ble_eq_true rfl) ?_
  refine V_iload_n dX8_apart_0 rfl ?_
  refine V_iload_n dX8_apart_1 rfl ?_
  refine V_icmp_le (tgt := 11) dX8_apart_2 (by decide) (fun c2 => ?_) (fun c2 => ?_)
  · refine V_iload_n dX8_apart_11 rfl ?_
    refine V_iload_n dX8_apart_12 rfl ?_
    refine J_isub dX8_apart_13 ?_
    exact V_iret dX8_apart_14 rfl rfl ⟨Nat.zero_le _, Nat.zero_le _⟩ ⟨_, rfl, by first | exact Or.inl ⟨c2, rfl⟩ | exact Or.inr ⟨c2, rfl⟩, rfl, rfl⟩
  · refine V_iload_n dX8_apart_5 rfl ?_
    refine V_iload_n dX8_apart_6 rfl ?_
    refine J_isub dX8_apart_7 ?_
    refine V_goto (tgt := 14) dX8_apart_8 (by decide) ?_
    exact V_iret dX8_apart_14 rfl rfl ⟨Nat.zero_le _, Nat.zero_le _⟩ ⟨_, rfl, by first | exact Or.inl ⟨c2, rfl⟩ | exact Or.inr ⟨c2, rfl⟩, rfl, rfl⟩
end
section
/-! THE REFERENCE: recover, what is told of a state, fringes; Float.floatToIntBits -/
set_option maxHeartbeats 4000000 in
set_option maxRecDepth 100000 in
theorem mJ_isNaN {z : ZG} {d sz : Nat} {h : AH} {b : UInt32} : M z YJxf58ca_isNaN_12338 d 0 0 [.float b] h sz (fun w h' sz' => ∃ t : Int, w = some (.int (I t)) ∧ ((t = 1 ∧ ¬ Op.cmpValue (FP.fcmp b b) .l = 0) ∨ (t = 0 ∧ Op.cmpValue (FP.fcmp b b) .l = 0)) ∧ h' = h ∧ sz' = sz) := by
  refine M.ofF (by decide +kernel) (Nat.le_of_ble_eq_true rfl) ?_
  refine V_fload_n dJxf58ca_isNaN_12338_0 rfl ?_
  refine V_fload_n dJxf58ca_isNaN_12338_1 rfl ?_
  refine V_fcmp dJxf58ca_isNaN_12338_2 ?_
  refine V_if_eq (tgt := 10) dJxf58ca_isNaN_12338_3 (by decide) (fun c3 => ?_) (fun c3 => ?_)
  · refine J_iconst dJxf58ca_isNaN_12338_10 ?_
    exact V_iret dJxf58ca_isNaN_12338_11 rfl rfl ⟨Nat.zero_le _, Nat.zero_le _⟩ ⟨_, rfl, by first | exact Or.inl ⟨rfl, c3⟩ | exact Or.inr ⟨rfl, c3⟩, rfl, rfl⟩
  · refine J_iconst dJxf58ca_isNaN_12338_6 ?_
    refine V_goto (tgt := 11) dJxf58ca_isNaN_12338_7 (by decide) ?_
    exact V_iret dJxf58ca_isNaN_12338_11 rfl rfl ⟨Nat.zero_le _, Nat.zero_le _⟩ ⟨_, rfl, by first | exact Or.inl ⟨rfl, c3⟩ | exact Or.inr ⟨rfl, c3⟩, rfl, rfl⟩
theorem V_f2ib {z : ZG} {Y : ZM} {Q : ZQ} {pc d mc ms : Nat} {L : AL} {st : List Value} {h : AH} {sz kc nc : Nat} {b : UInt32} (hY : Y.1.cls = "java/lang/Float") (hd : decode Y.2.1 pc = .ok (.invokestatic 74, 3)) (hst : (st.map fun v => v.category).sum ≤ 8) (kk : V z Y (zroom (d + 1) mc ms) Q (pc + 3) L (.int b.toInt32 :: st) h sz kc nc) : V z Y (zroom (d + 1) mc ms) Q pc L (.float b :: st) h sz kc nc := by
  intro p e s m args below meth c d0 H locs ls C hd0 hL hr
  have hts := dr_words C.2.2.2.2.1 d0
  have hown : (s.setDrawn d0).vm.findClass Y.1.cls = some m.cls := C.2.2.2.1
  have w1 := hts _ gw_nal
  have w2 := hts _ gw_nat
  have w3 := hts _ gw_nas
  have w4 := hts _ gw_nai
  rw [hY] at hown
  exact vn_f2i C.1 C.2.1 (by rw [C.2.2.1, ← hL]; exact hr.2.2.1.1.symm) hown w1 w2 w3 w4 (by show 1 ≤ d + 1; omega) (by show _ + 15 ≤ 31 * (d + 1); rw [zw_sum]; omega) hd (kk p e s m args below meth c d0 H locs ls C hd0 hL hr)
set_option maxHeartbeats 4000000 in
set_option maxRecDepth 100000 in
theorem mJ_ftb {z : ZG} {d sz : Nat} {h : AH} {b : UInt32} : M z YJxf58ca_floatToIntBits_5c35a (d + 1) 0 0 [.float b] h sz (fun w h' sz' => ∃ v : Int32, w = some (.int v) ∧ (Op.cmpValue (FP.fcmp b b) .l = 0 → v = b.toInt32) ∧ h' = h ∧ sz' = sz) := by
  refine M.ofF (by decide +kernel) (Nat.le_of_ble_eq_true rfl) ?_
  refine V_fload_n dJxf58ca_floatToIntBits_5c35a_0 rfl ?_
  refine V_callS (Y' := YJxf58ca_isNaN_12338) dJxf58ca_floatToIntBits_5c35a_1 lJxf58ca_59 gJxf58ca_isNaN_12338 mJ_isNaN rfl rfl (Nat.le_of_ble_eq_true rfl) ⟨Nat.zero_le _, Nat.zero_le _⟩ (fun v h1 sz1 hq => ?_)
  obtain ⟨t, rfl, ht, rfl, rfl⟩ := hq
  have htr : t = 1 ∨ t = 0 := ht.imp (fun q => q.1) (fun q => q.1)
  refine J_if_ne (tgt := 12) dJxf58ca_floatToIntBits_5c35a_4 (by decide) (by omega) (fun c4 => ?_) (fun c4 => ?_)
  · refine V_ldc dJxf58ca_floatToIntBits_5c35a_12 cJxf58ca_77 ?_
    exact V_iret dJxf58ca_floatToIntBits_5c35a_14 rfl rfl ⟨Nat.zero_le _, Nat.zero_le _⟩ ⟨_, rfl, fun q => absurd q (ht.elim (fun w => w.2) (fun w => absurd w.1 (by omega))), rfl, rfl⟩
  · refine V_fload_n dJxf58ca_floatToIntBits_5c35a_7 rfl ?_
    refine V_f2ib rfl dJxf58ca_floatToIntBits_5c35a_8 (Nat.le_of_ble_eq_true rfl) ?_
    exact V_iret dJxf58ca_floatToIntBits_5c35a_11 rfl rfl ⟨Nat.zero_le _, Nat.zero_le _⟩ ⟨_, rfl, fun _ => rfl, rfl, rfl⟩
theorem mEv_rg2 {N : Nat → Int} (k left : Nat) (h : k ≤ 8) : (-4 ≤ mEv N k left ∧ mEv N k left ≤ 39) ∧ (mEv N k left = -4 ∨ 18 ≤ mEv N k left) := by
  rcases mEv_rg (N := N) k left h with q | ⟨q, h1, h2⟩ <;> omega
set_option maxHeartbeats 4000000 in
set_option maxRecDepth 100000 in
theorem l8_recover_63 {z : ZG} {d sz r n s : Nat} {g h : AH} {l sp nu rs rm sc km : Int} {T RA RD MA NW SD KP : Nat → Int} {m : Nat} {tol a b : Int} (hm : MS g r n s l sp nu rs rm sc m km T RA RD MA NW SD KP h) (hs : 8 ≤ sc ∧ sc ≤ 80) (hmk : m ≤ 6) (hma : ∀ j : Nat, j < 6 → 0 ≤ MA j ∧ MA j ≤ 9999) (hr : rok NW) (hk : 0 ≤ km ∧ km ≤ 6) : ∀ (f i : Nat) (pair pairs : Int) (o7 : Option Value), i ≤ 5 → (i + 1 ≤ m ∨ i = 0) → 6 - i < f → (0 ≤ pairs ∧ pairs ≤ i) → ((pairs = 0 ∧ pair = -4) ∨ (1 ≤ pairs ∧ 0 ≤ pair ∧ pair < i)) → V z YX8_recover (zroom (d + 2) 0 0) (fun w h' sz' => sz' = sz ∧ ∃ res : Int, w = some (.int (I res)) ∧ (MS g r n s l sp nu rs rm sc m km T RA RD MA NW SD KP h' ∨ ∃ c : Int, ∃ (km2 : Int) (KP2 : Nat → Int), kq km KP NW km2 KP2 ∧ MS g r n s l sp nu rs rm sc m km2 T RA RD MA (va_up NW 1 c) SD KP2 h')) 63 [some (.ref r), some (.int (I tol)), some (.int (I a)), some (.int (I b)), some (.int (I pair)), some (.int (I pairs)), some (.int (I (i : Int))), o7] [] h sz 0 0 := by
  intro f
  induction f with
  | zero => intro i pair pairs o7 h1 h2 h3; omega
  | succ f ih =>
    intro i pair pairs o7 h1 h2 h3 h4 h5
    refine V_iload dX8_recover_63 rfl ?_
    refine J_iconst dX8_recover_65 ?_
    refine J_iadd dX8_recover_66 ?_
    refine V_aload_n dX8_recover_67 rfl ?_
    refine V_get dX8_recover_68 fX8_47 hm.1 rfl ?_
    refine J_icmp_ge (tgt := 140) dX8_recover_71 (by decide) (by omega) (by omega) (fun c71 => ?_) (fun c71 => ?_)
    · refine V_iload dX8_recover_140 rfl ?_
      refine J_iconst dX8_recover_142 ?_
      refine J_icmp_eq (tgt := 159) dX8_recover_143 (by decide) (by omega) (by omega) (fun c143 => ?_) (fun c143 => ?_)
      · refine V_aload_n dX8_recover_159 rfl ?_
        refine V_callV (Y' := YX8_keeps) dX8_recover_160 lX8_122 gX8_keeps (m8_keeps hm (by omega)) hm.1 rfl rfl rfl (Nat.le_of_ble_eq_true rfl) ⟨Nat.zero_le _, Nat.zero_le _⟩ (fun v h1 sz1 hq => ?_)
        obtain ⟨rfl, rfl, km2, KP2, hk2, hm⟩ := hq
        refine V_iload_n dX8_recover_163 rfl ?_
        refine V_iload_n dX8_recover_164 rfl ?_
        refine V_icmp_le (tgt := 175) dX8_recover_165 (by decide) (fun c165 => ?_) (fun c165 => ?_)
        · refine V_iload dX8_recover_175 rfl ?_
          refine V_istore dX8_recover_177 (Nat.le_of_ble_eq_true rfl) ?_
          refine V_aload_n dX8_recover_179 rfl ?_
          refine V_get dX8_recover_180 fX8_22 hm.1 rfl ?_
          refine J_iconst dX8_recover_183 ?_
          refine V_dup2 dX8_recover_184 rfl rfl ?_
          refine R_aldk_NW 1 dX8_recover_185 hm rfl (by decide) ?_
          refine V_aload_n dX8_recover_186 rfl ?_
          refine V_aload_n dX8_recover_187 rfl ?_
          refine V_get dX8_recover_188 fX8_19 hm.1 rfl ?_
          refine V_iload dX8_recover_191 rfl ?_
          refine R_ald_MA dX8_recover_193 hm (by omega) ?_
          refine V_aload_n dX8_recover_194 rfl ?_
          refine V_get dX8_recover_195 fX8_22 hm.1 rfl ?_
          refine J_iconst dX8_recover_198 ?_
          refine R_aldk_NW 5 dX8_recover_199 hm rfl (by decide) ?_
          refine V_callV (Y' := YX8_expects) dX8_recover_200 lX8_114 gX8_expects (m8_expects hm hs (md_rg hr.2.2.1 (hma _ (by omega)))) hm.1 rfl rfl rfl (Nat.le_of_ble_eq_true rfl) ⟨Nat.zero_le _, Nat.zero_le _⟩ (fun v h1 sz1 hq => ?_)
          obtain ⟨rfl, rfl, rfl⟩ := hq
          refine V_iload_n dX8_recover_203 rfl ?_
          refine J_isub dX8_recover_204 ?_
          refine J_iadd dX8_recover_205 ?_
          refine R_astk_NW 1 dX8_recover_206 hm rfl (by decide) (fun h hm => ?_)
          refine V_iload dX8_recover_207 rfl ?_
          exact V_iret dX8_recover_209 rfl rfl ⟨Nat.zero_le _, Nat.zero_le _⟩ ⟨rfl, _, rfl, Or.inr ⟨_, _, _, hk2, hm⟩⟩
        · refine V_iload dX8_recover_168 rfl ?_
          refine J_iconst dX8_recover_170 ?_
          refine J_iadd dX8_recover_171 ?_
          refine V_goto (tgt := 177) dX8_recover_172 (by decide) ?_
          refine V_istore dX8_recover_177 (Nat.le_of_ble_eq_true rfl) ?_
          refine V_aload_n dX8_recover_179 rfl ?_
          refine V_get dX8_recover_180 fX8_22 hm.1 rfl ?_
          refine J_iconst dX8_recover_183 ?_
          refine V_dup2 dX8_recover_184 rfl rfl ?_
          refine R_aldk_NW 1 dX8_recover_185 hm rfl (by decide) ?_
          refine V_aload_n dX8_recover_186 rfl ?_
          refine V_aload_n dX8_recover_187 rfl ?_
          refine V_get dX8_recover_188 fX8_19 hm.1 rfl ?_
          refine V_iload dX8_recover_191 rfl ?_
          refine R_ald_MA dX8_recover_193 hm (by omega) ?_
          refine V_aload_n dX8_recover_194 rfl ?_
          refine V_get dX8_recover_195 fX8_22 hm.1 rfl ?_
          refine J_iconst dX8_recover_198 ?_
          refine R_aldk_NW 5 dX8_recover_199 hm rfl (by decide) ?_
          refine V_callV (Y' := YX8_expects) dX8_recover_200 lX8_114 gX8_expects (m8_expects hm hs (md_rg hr.2.2.1 (hma _ (by omega)))) hm.1 rfl rfl rfl (Nat.le_of_ble_eq_true rfl) ⟨Nat.zero_le _, Nat.zero_le _⟩ (fun v h1 sz1 hq => ?_)
          obtain ⟨rfl, rfl, rfl⟩ := hq
          refine V_iload_n dX8_recover_203 rfl ?_
          refine J_isub dX8_recover_204 ?_
          refine J_iadd dX8_recover_205 ?_
          refine R_astk_NW 1 dX8_recover_206 hm rfl (by decide) (fun h hm => ?_)
          refine V_iload dX8_recover_207 rfl ?_
          exact V_iret dX8_recover_209 rfl rfl ⟨Nat.zero_le _, Nat.zero_le _⟩ ⟨rfl, _, rfl, Or.inr ⟨_, _, _, hk2, hm⟩⟩
      · refine V_iload dX8_recover_146 rfl ?_
        refine J_if_ne (tgt := 156) dX8_recover_148 (by decide) (by omega) (fun c148 => ?_) (fun c148 => ?_)
        · refine J_bipush dX8_recover_156 (by decide) ?_
          exact V_iret dX8_recover_158 rfl rfl ⟨Nat.zero_le _, Nat.zero_le _⟩ ⟨rfl, _, rfl, Or.inl hm⟩
        · refine J_bipush dX8_recover_151 (by decide) ?_
          refine V_goto (tgt := 158) dX8_recover_153 (by decide) ?_
          exact V_iret dX8_recover_158 rfl rfl ⟨Nat.zero_le _, Nat.zero_le _⟩ ⟨rfl, _, rfl, Or.inl hm⟩
    · refine V_aload_n dX8_recover_74 rfl ?_
      refine V_aload_n dX8_recover_75 rfl ?_
      refine V_get dX8_recover_76 fX8_19 hm.1 rfl ?_
      refine V_iload dX8_recover_79 rfl ?_
      refine J_iconst dX8_recover_81 ?_
      refine J_iadd dX8_recover_82 ?_
      refine R_aldk_MA (i + 1) dX8_recover_83 hm (by omega) (by omega) ?_
      refine V_aload_n dX8_recover_84 rfl ?_
      refine V_get dX8_recover_85 fX8_22 hm.1 rfl ?_
      refine J_iconst dX8_recover_88 ?_
      refine R_aldk_NW 5 dX8_recover_89 hm rfl (by decide) ?_
      refine V_callV (Y' := YX8_expects) dX8_recover_90 lX8_114 gX8_expects (m8_expects hm hs (md_rg hr.2.2.1 (hma _ (by omega)))) hm.1 rfl rfl rfl (Nat.le_of_ble_eq_true rfl) ⟨Nat.zero_le _, Nat.zero_le _⟩ (fun v h1 sz1 hq => ?_)
      obtain ⟨rfl, rfl, rfl⟩ := hq
      refine V_aload_n dX8_recover_93 rfl ?_
      refine V_aload_n dX8_recover_94 rfl ?_
      refine V_get dX8_recover_95 fX8_19 hm.1 rfl ?_
      refine V_iload dX8_recover_98 rfl ?_
      refine R_aldk_MA i dX8_recover_100 hm (by omega) (by omega) ?_
      refine V_aload_n dX8_recover_101 rfl ?_
      refine V_get dX8_recover_102 fX8_22 hm.1 rfl ?_
      refine J_iconst dX8_recover_105 ?_
      refine R_aldk_NW 5 dX8_recover_106 hm rfl (by decide) ?_
      refine V_callV (Y' := YX8_expects) dX8_recover_107 lX8_114 gX8_expects (m8_expects hm hs (md_rg hr.2.2.1 (hma _ (by omega)))) hm.1 rfl rfl rfl (Nat.le_of_ble_eq_true rfl) ⟨Nat.zero_le _, Nat.zero_le _⟩ (fun v h1 sz1 hq => ?_)
      obtain ⟨rfl, rfl, rfl⟩ := hq
      refine J_isub dX8_recover_110 ?_
      refine V_istore dX8_recover_111 (Nat.le_of_ble_eq_true rfl) ?_
      refine V_iload_n dX8_recover_113 rfl ?_
      refine V_iload_n dX8_recover_114 rfl ?_
      refine V_callS (Y' := YX8_apart) dX8_recover_115 lX8_149 gX8_apart m8_apart rfl rfl (Nat.le_of_ble_eq_true rfl) ⟨Nat.zero_le _, Nat.zero_le _⟩ (fun v h1 sz1 hq => ?_)
      obtain ⟨q115, rfl, hq115, rfl, rfl⟩ := hq
      refine V_iload dX8_recover_118 rfl ?_
      refine V_callS (Y' := YX8_apart) dX8_recover_120 lX8_149 gX8_apart m8_apart rfl rfl (Nat.le_of_ble_eq_true rfl) ⟨Nat.zero_le _, Nat.zero_le _⟩ (fun v h1 sz1 hq => ?_)
      obtain ⟨q120, rfl, hq120, rfl, rfl⟩ := hq
      refine V_iload_n dX8_recover_123 rfl ?_
      refine V_icmp_gt (tgt := 134) dX8_recover_124 (by decide) (fun c124 => ?_) (fun c124 => ?_)
      · refine J_iinc dX8_recover_134 rfl ?_
        refine V_goto (tgt := 63) dX8_recover_137 (by decide) ?_
        first | exact ih (i + 1) i (pairs + 1) _ (by omega) (by omega) (by omega) (by omega) (by omega) | exact ih (i + 1) pair pairs _ (by omega) (by omega) (by omega) (by omega) (by omega)
      · refine V_iload dX8_recover_127 rfl ?_
        refine V_istore dX8_recover_129 (Nat.le_of_ble_eq_true rfl) ?_
        refine J_iinc dX8_recover_131 rfl ?_
        refine J_iinc dX8_recover_134 rfl ?_
        refine V_goto (tgt := 63) dX8_recover_137 (by decide) ?_
        first | exact ih (i + 1) i (pairs + 1) _ (by omega) (by omega) (by omega) (by omega) (by omega) | exact ih (i + 1) pair pairs _ (by omega) (by omega) (by omega) (by omega) (by omega)
set_option maxHeartbeats 4000000 in
set_option maxRecDepth 100000 in
theorem m8_recover {z : ZG} {d sz r n s : Nat} {g h : AH} {l sp nu rs rm sc km : Int} {T RA RD MA NW SD KP : Nat → Int} {m : Nat} {tol : Int} (ht : -2147483648 ≤ tol ∧ tol < 2147483648) (hm : MS g r n s l sp nu rs rm sc m km T RA RD MA NW SD KP h) (hs : 8 ≤ sc ∧ sc ≤ 80) (hmk : m ≤ 6) (hma : ∀ j : Nat, j < 6 → 0 ≤ MA j ∧ MA j ≤ 9999) (hr : rok NW) (hk : 0 ≤ km ∧ km ≤ 6) : M z YX8_recover (d + 2) 0 0 [.ref r, .int (I tol)] h sz (fun w h' sz' => sz' = sz ∧ ∃ res : Int, w = some (.int (I res)) ∧ ((MS g r n s l sp nu rs rm sc m km T RA RD MA NW SD KP h' ∧ ((¬ (0 ≤ tol ∧ tol ≤ 9) ∧ res = -1) ∨ ((0 ≤ tol ∧ tol ≤ 9) ∧ mEv NW (NW 17).toNat 1 = -4 ∧ res = -2))) ∨ (((0 ≤ tol ∧ tol ≤ 9) ∧ ¬ mEv NW (NW 17).toNat 1 = -4) ∧ (MS g r n s l sp nu rs rm sc m km T RA RD MA NW SD KP h' ∨ ∃ c : Int, ∃ (km2 : Int) (KP2 : Nat → Int), kq km KP NW km2 KP2 ∧ MS g r n s l sp nu rs rm sc m km2 T RA RD MA (va_up NW 1 c) SD KP2 h')))) := by
  refine M.of (by decide +kernel) (Nat.le_of_ble_eq_true rfl) ?_
  have h17 := hr.2.2.2.2.2.2.1
  have hE1r := mEv_rg2 (N := NW) (NW 17).toNat 1 (by omega)
  have hE0r := mEv_rg2 (N := NW) (NW 17).toNat 0 (by omega)
  refine V_iload_n dX8_recover_0 rfl ?_
  refine J_i2l dX8_recover_1 (by omega) ?_
  refine J_lconst0 dX8_recover_2 ?_
  refine J_ldc2 9 dX8_recover_3 cX8_143 rfl ?_
  refine V_callS (Y' := YX8_in) dX8_recover_6 lX8_57 gX8_in (m8_in (by omega) (by omega) (by omega)) rfl rfl (Nat.le_of_ble_eq_true rfl) ⟨Nat.zero_le _, Nat.zero_le _⟩ (fun v h1 sz1 hq => ?_)
  obtain ⟨t6, rfl, ht6, rfl, rfl⟩ := hq
  refine J_if_ne (tgt := 14) dX8_recover_9 (by decide) (by omega) (fun c9 => ?_) (fun c9 => ?_)
  · refine V_aload_n dX8_recover_14 rfl ?_
    refine J_iconst dX8_recover_15 ?_
    refine V_callV (Y' := YX8_markEvent) dX8_recover_16 lX8_145 gX8_markEvent (m8_markEvent (wh := 1) (by omega) hm hr) hm.1 rfl rfl rfl (Nat.le_of_ble_eq_true rfl) ⟨Nat.zero_le _, Nat.zero_le _⟩ (fun v h1 sz1 hq => ?_)
    obtain ⟨rfl, rfl, rfl⟩ := hq
    refine J_bipush dX8_recover_19 (by decide) ?_
    refine J_icmp_ne (tgt := 27) dX8_recover_21 (by decide) (by omega) (by omega) (fun c21 => ?_) (fun c21 => ?_)
    · have hE2 : ¬ mEv NW (NW 17).toNat 0 = -4 := fun w => c21 (mEv_10 (NW 17).toNat (by omega) w)
      refine V_aload_n dX8_recover_27 rfl ?_
      refine V_get dX8_recover_28 fX8_22 hm.1 rfl ?_
      refine V_aload_n dX8_recover_31 rfl ?_
      refine J_iconst dX8_recover_32 ?_
      refine V_callV (Y' := YX8_markEvent) dX8_recover_33 lX8_145 gX8_markEvent (m8_markEvent (wh := 0) (by omega) hm hr) hm.1 rfl rfl rfl (Nat.le_of_ble_eq_true rfl) ⟨Nat.zero_le _, Nat.zero_le _⟩ (fun v h1 sz1 hq => ?_)
      obtain ⟨rfl, rfl, rfl⟩ := hq
      refine J_iconst dX8_recover_36 ?_
      refine J_iadd dX8_recover_37 ?_
      refine R_ald_NW dX8_recover_38 hm (by omega) ?_
      refine V_istore_n dX8_recover_39 (Nat.le_of_ble_eq_true rfl) ?_
      refine V_aload_n dX8_recover_40 rfl ?_
      refine V_get dX8_recover_41 fX8_22 hm.1 rfl ?_
      refine V_aload_n dX8_recover_44 rfl ?_
      refine J_iconst dX8_recover_45 ?_
      refine V_callV (Y' := YX8_markEvent) dX8_recover_46 lX8_145 gX8_markEvent (m8_markEvent (wh := 1) (by omega) hm hr) hm.1 rfl rfl rfl (Nat.le_of_ble_eq_true rfl) ⟨Nat.zero_le _, Nat.zero_le _⟩ (fun v h1 sz1 hq => ?_)
      obtain ⟨rfl, rfl, rfl⟩ := hq
      refine J_iconst dX8_recover_49 ?_
      refine J_iadd dX8_recover_50 ?_
      refine R_ald_NW dX8_recover_51 hm (by omega) ?_
      refine V_istore_n dX8_recover_52 (Nat.le_of_ble_eq_true rfl) ?_
      refine J_bipush dX8_recover_53 (by decide) ?_
      refine V_istore dX8_recover_55 (Nat.le_of_ble_eq_true rfl) ?_
      refine J_iconst dX8_recover_57 ?_
      refine V_istore dX8_recover_58 (Nat.le_of_ble_eq_true rfl) ?_
      refine J_iconst dX8_recover_60 ?_
      refine V_istore dX8_recover_61 (Nat.le_of_ble_eq_true rfl) ?_
      refine V_mono ?_ (l8_recover_63 hm hs hmk hma hr hk 7 0 (-4) 0 _ (by omega) (by omega) (by omega) (by omega) (by omega))
      rintro w h2 sz2 ⟨rfl, res, rfl, q⟩
      exact ⟨rfl, res, rfl, Or.inr ⟨⟨by omega, c21⟩, q⟩⟩
    · refine J_bipush dX8_recover_24 (by decide) ?_
      exact V_iret dX8_recover_26 rfl rfl ⟨Nat.zero_le _, Nat.zero_le _⟩ ⟨rfl, _, rfl, Or.inl ⟨hm, Or.inr ⟨by omega, c21, rfl⟩⟩⟩
  · refine J_iconst dX8_recover_12 ?_
    exact V_iret dX8_recover_13 rfl rfl ⟨Nat.zero_le _, Nat.zero_le _⟩ ⟨rfl, _, rfl, Or.inl ⟨hm, Or.inl ⟨by omega, rfl⟩⟩⟩
set_option maxHeartbeats 4000000 in
set_option maxRecDepth 100000 in
theorem m8_position {z : ZG} {d sz r n s : Nat} {g h : AH} {l sp nu rs rm sc mk km : Int} {T RA RD MA NW SD KP : Nat → Int} (hm : MS g r n s l sp nu rs rm sc mk km T RA RD MA NW SD KP h) : M z YX8_position d 0 0 [.ref r] h sz (fun w h' sz' => w = some (.int (I (NW 0))) ∧ h' = h ∧ sz' = sz) := by
  refine M.of (by decide +kernel) (Nat.le_of_ble_eq_true rfl) ?_
  refine V_aload_n dX8_position_0 rfl ?_
  refine V_get dX8_position_1 fX8_22 hm.1 rfl ?_
  refine J_iconst dX8_position_4 ?_
  refine R_aldk_NW 0 dX8_position_5 hm rfl (by decide) ?_
  exact V_iret dX8_position_6 rfl rfl ⟨Nat.zero_le _, Nat.zero_le _⟩ ⟨rfl, rfl, rfl⟩
set_option maxHeartbeats 4000000 in
set_option maxRecDepth 100000 in
theorem m8_misses {z : ZG} {d sz r n s : Nat} {g h : AH} {l sp nu rs rm sc mk km : Int} {T RA RD MA NW SD KP : Nat → Int} (hm : MS g r n s l sp nu rs rm sc mk km T RA RD MA NW SD KP h) : M z YX8_misses d 0 0 [.ref r] h sz (fun w h' sz' => w = some (.int (I (NW 3))) ∧ h' = h ∧ sz' = sz) := by
  refine M.of (by decide +kernel) (Nat.le_of_ble_eq_true rfl) ?_
  refine V_aload_n dX8_misses_0 rfl ?_
  refine V_get dX8_misses_1 fX8_22 hm.1 rfl ?_
  refine J_iconst dX8_misses_4 ?_
  refine R_aldk_NW 3 dX8_misses_5 hm rfl (by decide) ?_
  exact V_iret dX8_misses_6 rfl rfl ⟨Nat.zero_le _, Nat.zero_le _⟩ ⟨rfl, rfl, rfl⟩
set_option maxHeartbeats 4000000 in
set_option maxRecDepth 100000 in
theorem m8_samples {z : ZG} {d sz r n s : Nat} {g h : AH} {l sp nu rs rm sc mk km : Int} {T RA RD MA NW SD KP : Nat → Int} (hm : MS g r n s l sp nu rs rm sc mk km T RA RD MA NW SD KP h) : M z YX8_samples d 0 0 [.ref r] h sz (fun w h' sz' => w = some (.int (I (NW 4))) ∧ h' = h ∧ sz' = sz) := by
  refine M.of (by decide +kernel) (Nat.le_of_ble_eq_true rfl) ?_
  refine V_aload_n dX8_samples_0 rfl ?_
  refine V_get dX8_samples_1 fX8_22 hm.1 rfl ?_
  refine J_iconst dX8_samples_4 ?_
  refine R_aldk_NW 4 dX8_samples_5 hm rfl (by decide) ?_
  exact V_iret dX8_samples_6 rfl rfl ⟨Nat.zero_le _, Nat.zero_le _⟩ ⟨rfl, rfl, rfl⟩
set_option maxHeartbeats 4000000 in
set_option maxRecDepth 100000 in
theorem m8_counter {z : ZG} {d sz r n s : Nat} {g h : AH} {l sp nu rs rm sc mk km : Int} {T RA RD MA NW SD KP : Nat → Int} (hm : MS g r n s l sp nu rs rm sc mk km T RA RD MA NW SD KP h) : M z YX8_counter d 0 0 [.ref r] h sz (fun w h' sz' => w = some (.long (I (NW 1)).toInt64) ∧ h' = h ∧ sz' = sz) := by
  refine M.of (by decide +kernel) (Nat.le_of_ble_eq_true rfl) ?_
  refine V_aload_n dX8_counter_0 rfl ?_
  refine V_get dX8_counter_1 fX8_22 hm.1 rfl ?_
  refine J_iconst dX8_counter_4 ?_
  refine R_aldk_NW 1 dX8_counter_5 hm rfl (by decide) ?_
  refine V_i2l dX8_counter_6 ?_
  exact V_lret dX8_counter_7 rfl ⟨Nat.zero_le _, Nat.zero_le _⟩ ⟨rfl, rfl, rfl⟩
set_option maxHeartbeats 4000000 in
set_option maxRecDepth 100000 in
theorem m8_slip {z : ZG} {d sz r n s : Nat} {g h : AH} {l sp nu rs rm sc mk km : Int} {T RA RD MA NW SD KP : Nat → Int} (hm : MS g r n s l sp nu rs rm sc mk km T RA RD MA NW SD KP h) (hs : 8 ≤ sc ∧ sc ≤ 80) (hr : rok NW) : M z YX8_slip (d + 2) 0 0 [.ref r] h sz (fun w h' sz' => w = some (.long (I (NW 1 - NW 5 * NW 0 / sc)).toInt64) ∧ h' = h ∧ sz' = sz) := by
  refine M.of (by decide +kernel) (Nat.le_of_ble_eq_true rfl) ?_
  refine V_aload_n dX8_slip_0 rfl ?_
  refine V_aload_n dX8_slip_1 rfl ?_
  refine V_get dX8_slip_2 fX8_22 hm.1 rfl ?_
  refine V_callV (Y' := YX8_slipOf) dX8_slip_5 lX8_133 gX8_slipOf (m8_slipOf_N hm hs hr) hm.1 rfl rfl rfl (Nat.le_of_ble_eq_true rfl) ⟨Nat.zero_le _, Nat.zero_le _⟩ (fun v h1 sz1 hq => ?_)
  obtain ⟨rfl, rfl, rfl⟩ := hq
  exact V_lret dX8_slip_8 rfl ⟨Nat.zero_le _, Nat.zero_le _⟩ ⟨rfl, rfl, rfl⟩
set_option maxHeartbeats 4000000 in
set_option maxRecDepth 100000 in
theorem m8_missRateBits {z : ZG} {d sz r n s : Nat} {g h : AH} {l sp nu rs rm sc mk km : Int} {T RA RD MA NW SD KP : Nat → Int} (hm : MS g r n s l sp nu rs rm sc mk km T RA RD MA NW SD KP h) : M z YX8_missRateBits (d + 2) 0 0 [.ref r] h sz (fun w h' sz' => (∃ v : Int32, w = some (.int v) ∧ (I (NW 4) = 0 → v = I (-4))) ∧ h' = h ∧ sz' = sz) := by
  refine M.of (by decide +kernel) (Nat.le_of_ble_eq_true rfl) ?_
  refine V_aload_n dX8_missRateBits_0 rfl ?_
  refine V_get dX8_missRateBits_1 fX8_22 hm.1 rfl ?_
  refine J_iconst dX8_missRateBits_4 ?_
  refine R_aldk_NW 4 dX8_missRateBits_5 hm rfl (by decide) ?_
  refine V_if_ne (tgt := 14) dX8_missRateBits_6 (by decide) (fun c6 => ?_) (fun c6 => ?_)
  · refine V_aload_n dX8_missRateBits_14 rfl ?_
    refine V_get dX8_missRateBits_15 fX8_22 hm.1 rfl ?_
    refine J_iconst dX8_missRateBits_18 ?_
    refine R_aldk_NW 3 dX8_missRateBits_19 hm rfl (by decide) ?_
    refine V_i2f dX8_missRateBits_20 ?_
    refine V_aload_n dX8_missRateBits_21 rfl ?_
    refine V_get dX8_missRateBits_22 fX8_22 hm.1 rfl ?_
    refine J_iconst dX8_missRateBits_25 ?_
    refine R_aldk_NW 4 dX8_missRateBits_26 hm rfl (by decide) ?_
    refine V_i2f dX8_missRateBits_27 ?_
    refine V_fdiv dX8_missRateBits_28 (fun f28 hf28 => ?_)
    refine V_callS (Y' := YJxf58ca_floatToIntBits_5c35a) dX8_missRateBits_29 lX8_152 gJxf58ca_floatToIntBits_5c35a mJ_ftb rfl rfl (Nat.le_of_ble_eq_true rfl) ⟨Nat.zero_le _, Nat.zero_le _⟩ (fun v h1 sz1 hq => ?_)
    obtain ⟨fv, rfl, hfv, rfl, rfl⟩ := hq
    exact V_iret dX8_missRateBits_32 rfl rfl ⟨Nat.zero_le _, Nat.zero_le _⟩ ⟨⟨_, rfl, fun q => by first | rfl | exact absurd q c6⟩, rfl, rfl⟩
  · refine J_bipush dX8_missRateBits_9 (by decide) ?_
    refine V_goto (tgt := 32) dX8_missRateBits_11 (by decide) ?_
    exact V_iret dX8_missRateBits_32 rfl rfl ⟨Nat.zero_le _, Nat.zero_le _⟩ ⟨⟨_, rfl, fun q => by first | rfl | exact absurd q c6⟩, rfl, rfl⟩
set_option maxHeartbeats 4000000 in
set_option maxRecDepth 100000 in
theorem m8_markPosition {z : ZG} {d sz r n s : Nat} {g h : AH} {l sp nu rs rm sc mk km : Int} {T RA RD MA NW SD KP : Nat → Int} {x : Int} (hx : -2147483648 ≤ x ∧ x < 2147483648) (hm : MS g r n s l sp nu rs rm sc mk km T RA RD MA NW SD KP h) (hk : 0 ≤ mk ∧ mk ≤ 6) : M z YX8_markPosition (d + 1) 0 0 [.ref r, .int (I x)] h sz (fun w h' sz' => ∃ v : Int, w = some (.int (I v)) ∧ ((v = MA x.toNat ∧ 0 ≤ x ∧ x ≤ mk - 1) ∨ (v = -1 ∧ ¬ (0 ≤ x ∧ x ≤ mk - 1))) ∧ h' = h ∧ sz' = sz) := by
  refine M.of (by decide +kernel) (Nat.le_of_ble_eq_true rfl) ?_
  refine V_iload_n dX8_markPosition_0 rfl ?_
  refine J_i2l dX8_markPosition_1 (by omega) ?_
  refine J_lconst0 dX8_markPosition_2 ?_
  refine V_aload_n dX8_markPosition_3 rfl ?_
  refine V_get dX8_markPosition_4 fX8_47 hm.1 rfl ?_
  refine J_iconst dX8_markPosition_7 ?_
  refine J_isub dX8_markPosition_8 ?_
  refine J_i2l dX8_markPosition_9 (by omega) ?_
  refine V_callS (Y' := YX8_in) dX8_markPosition_10 lX8_57 gX8_in (m8_in (by omega) (by omega) (by omega)) rfl rfl (Nat.le_of_ble_eq_true rfl) ⟨Nat.zero_le _, Nat.zero_le _⟩ (fun v h1 sz1 hq => ?_)
  obtain ⟨t10, rfl, ht10, rfl, rfl⟩ := hq
  refine J_if_eq (tgt := 25) dX8_markPosition_13 (by decide) (by omega) (fun c13 => ?_) (fun c13 => ?_)
  · refine J_iconst dX8_markPosition_25 ?_
    exact V_iret dX8_markPosition_26 rfl rfl ⟨Nat.zero_le _, Nat.zero_le _⟩ ⟨_, rfl, by first | exact Or.inl ⟨rfl, by omega⟩ | exact Or.inr ⟨rfl, by omega⟩, rfl, rfl⟩
  · refine V_aload_n dX8_markPosition_16 rfl ?_
    refine V_get dX8_markPosition_17 fX8_19 hm.1 rfl ?_
    refine V_iload_n dX8_markPosition_20 rfl ?_
    refine R_ald_MA dX8_markPosition_21 hm (by omega) ?_
    refine V_goto (tgt := 26) dX8_markPosition_22 (by decide) ?_
    exact V_iret dX8_markPosition_26 rfl rfl ⟨Nat.zero_le _, Nat.zero_le _⟩ ⟨_, rfl, by first | exact Or.inl ⟨rfl, by omega⟩ | exact Or.inr ⟨rfl, by omega⟩, rfl, rfl⟩
set_option maxHeartbeats 4000000 in
set_option maxRecDepth 100000 in
theorem m8_expectedCount {z : ZG} {d sz r n s : Nat} {g h : AH} {l sp nu rs rm sc mk km : Int} {T RA RD MA NW SD KP : Nat → Int} {x : Int} (hx : -2147483648 ≤ x ∧ x < 2147483648) (hm : MS g r n s l sp nu rs rm sc mk km T RA RD MA NW SD KP h) (hs : 8 ≤ sc ∧ sc ≤ 80) (hr : rok NW) : M z YX8_expectedCount (d + 1) 0 0 [.ref r, .int (I x)] h sz (fun w h' sz' => ∃ v : Int, w = some (.int (I v)) ∧ ((v = NW 5 * x / sc ∧ 0 ≤ x ∧ x ≤ 9999) ∨ (v = -1 ∧ ¬ (0 ≤ x ∧ x ≤ 9999))) ∧ h' = h ∧ sz' = sz) := by
  refine M.of (by decide +kernel) (Nat.le_of_ble_eq_true rfl) ?_
  refine V_iload_n dX8_expectedCount_0 rfl ?_
  refine J_i2l dX8_expectedCount_1 (by omega) ?_
  refine J_lconst0 dX8_expectedCount_2 ?_
  refine J_ldc2 9999 dX8_expectedCount_3 cX8_110 rfl ?_
  refine V_callS (Y' := YX8_in) dX8_expectedCount_6 lX8_57 gX8_in (m8_in (by omega) (by omega) (by omega)) rfl rfl (Nat.le_of_ble_eq_true rfl) ⟨Nat.zero_le _, Nat.zero_le _⟩ (fun v h1 sz1 hq => ?_)
  obtain ⟨t6, rfl, ht6, rfl, rfl⟩ := hq
  refine J_if_eq (tgt := 26) dX8_expectedCount_9 (by decide) (by omega) (fun c9 => ?_) (fun c9 => ?_)
  · refine J_iconst dX8_expectedCount_26 ?_
    exact V_iret dX8_expectedCount_27 rfl rfl ⟨Nat.zero_le _, Nat.zero_le _⟩ ⟨_, rfl, by first | exact Or.inl ⟨rfl, by omega⟩ | exact Or.inr ⟨rfl, by omega⟩, rfl, rfl⟩
  · refine V_aload_n dX8_expectedCount_12 rfl ?_
    refine V_iload_n dX8_expectedCount_13 rfl ?_
    refine V_aload_n dX8_expectedCount_14 rfl ?_
    refine V_get dX8_expectedCount_15 fX8_22 hm.1 rfl ?_
    refine J_iconst dX8_expectedCount_18 ?_
    refine R_aldk_NW 5 dX8_expectedCount_19 hm rfl (by decide) ?_
    refine V_callV (Y' := YX8_expects) dX8_expectedCount_20 lX8_114 gX8_expects (m8_expects hm hs (md_rg hr.2.2.1 (by omega))) hm.1 rfl rfl rfl (Nat.le_of_ble_eq_true rfl) ⟨Nat.zero_le _, Nat.zero_le _⟩ (fun v h1 sz1 hq => ?_)
    obtain ⟨rfl, rfl, rfl⟩ := hq
    refine V_goto (tgt := 27) dX8_expectedCount_23 (by decide) ?_
    exact V_iret dX8_expectedCount_27 rfl rfl ⟨Nat.zero_le _, Nat.zero_le _⟩ ⟨_, rfl, by first | exact Or.inl ⟨rfl, by omega⟩ | exact Or.inr ⟨rfl, by omega⟩, rfl, rfl⟩
set_option maxHeartbeats 4000000 in
set_option maxRecDepth 100000 in
theorem m8_isEvent {z : ZG} {d sz r n s : Nat} {g h : AH} {l sp nu rs rm sc mk km : Int} {T RA RD MA NW SD KP : Nat → Int} {x : Int} (hx : -2147483648 ≤ x ∧ x < 2147483648) (hm : MS g r n s l sp nu rs rm sc mk km T RA RD MA NW SD KP h) (h17 : 0 ≤ NW 17 ∧ NW 17 ≤ 8) : M z YX8_isEvent (d + 1) 0 0 [.ref r, .int (I x)] h sz (fun w h' sz' => ∃ t : Int, w = some (.int (I t)) ∧ ((t = 1 ∧ 0 ≤ x ∧ x ≤ NW 17 - 1) ∨ (t = 0 ∧ ¬ (0 ≤ x ∧ x ≤ NW 17 - 1))) ∧ h' = h ∧ sz' = sz) := by
  refine M.of (by decide +kernel) (Nat.le_of_ble_eq_true rfl) ?_
  refine V_iload_n dX8_isEvent_0 rfl ?_
  refine J_i2l dX8_isEvent_1 (by omega) ?_
  refine J_lconst0 dX8_isEvent_2 ?_
  refine V_aload_n dX8_isEvent_3 rfl ?_
  refine V_get dX8_isEvent_4 fX8_22 hm.1 rfl ?_
  refine J_bipush dX8_isEvent_7 (by decide) ?_
  refine R_aldk_NW 17 dX8_isEvent_9 hm rfl (by decide) ?_
  refine J_iconst dX8_isEvent_10 ?_
  refine J_isub dX8_isEvent_11 ?_
  refine J_i2l dX8_isEvent_12 (by omega) ?_
  refine V_callS (Y' := YX8_in) dX8_isEvent_13 lX8_57 gX8_in (m8_in (by omega) (by omega) (by omega)) rfl rfl (Nat.le_of_ble_eq_true rfl) ⟨Nat.zero_le _, Nat.zero_le _⟩ (fun v h1 sz1 hq => ?_)
  obtain ⟨t13, rfl, ht13, rfl, rfl⟩ := hq
  have htr : t13 = 1 ∨ t13 = 0 := by omega
  exact V_iret dX8_isEvent_16 rfl (by rcases htr with rfl | rfl <;> rfl) ⟨Nat.zero_le _, Nat.zero_le _⟩ ⟨_, rfl, by omega, rfl, rfl⟩
set_option maxHeartbeats 4000000 in
set_option maxRecDepth 100000 in
theorem m8_ofEvent {z : ZG} {d sz r n s : Nat} {g h : AH} {l sp nu rs rm sc mk km : Int} {T RA RD MA NW SD KP : Nat → Int} {x y : Int} (hm : MS g r n s l sp nu rs rm sc mk km T RA RD MA NW SD KP h) (h17 : 0 ≤ NW 17 ∧ NW 17 ≤ 8) (hx : 0 ≤ x ∧ x ≤ NW 17 - 1) (hy : 0 ≤ y ∧ y ≤ 2) : M z YX8_ofEvent d 0 0 [.ref r, .int (I x), .int (I y)] h sz (fun w h' sz' => w = some (.int (I (NW (18 + 3 * (NW 17 - 1 - x) + y).toNat))) ∧ h' = h ∧ sz' = sz) := by
  refine M.of (by decide +kernel) (Nat.le_of_ble_eq_true rfl) ?_
  refine V_aload_n dX8_ofEvent_0 rfl ?_
  refine V_get dX8_ofEvent_1 fX8_22 hm.1 rfl ?_
  refine J_bipush dX8_ofEvent_4 (by decide) ?_
  refine J_iconst dX8_ofEvent_6 ?_
  refine V_aload_n dX8_ofEvent_7 rfl ?_
  refine V_get dX8_ofEvent_8 fX8_22 hm.1 rfl ?_
  refine J_bipush dX8_ofEvent_11 (by decide) ?_
  refine R_aldk_NW 17 dX8_ofEvent_13 hm rfl (by decide) ?_
  refine J_iconst dX8_ofEvent_14 ?_
  refine J_isub dX8_ofEvent_15 ?_
  refine V_iload_n dX8_ofEvent_16 rfl ?_
  refine J_isub dX8_ofEvent_17 ?_
  refine J_imul dX8_ofEvent_18 ?_
  refine J_iadd dX8_ofEvent_19 ?_
  refine V_iload_n dX8_ofEvent_20 rfl ?_
  refine J_iadd dX8_ofEvent_21 ?_
  refine R_ald_NW dX8_ofEvent_22 hm (by omega) ?_
  exact V_iret dX8_ofEvent_23 rfl rfl ⟨Nat.zero_le _, Nat.zero_le _⟩ ⟨rfl, rfl, rfl⟩
set_option maxHeartbeats 4000000 in
set_option maxRecDepth 100000 in
theorem m8_eventKind {z : ZG} {d sz r n s : Nat} {g h : AH} {l sp nu rs rm sc mk km : Int} {T RA RD MA NW SD KP : Nat → Int} {x : Int} (hx : -2147483648 ≤ x ∧ x < 2147483648) (hm : MS g r n s l sp nu rs rm sc mk km T RA RD MA NW SD KP h) (h17 : 0 ≤ NW 17 ∧ NW 17 ≤ 8) : M z YX8_eventKind (d + 2) 0 0 [.ref r, .int (I x)] h sz (fun w h' sz' => ∃ v : Int, w = some (.int (I v)) ∧ ((v = NW (18 + 3 * (NW 17 - 1 - x) + 0).toNat ∧ 0 ≤ x ∧ x ≤ NW 17 - 1) ∨ (v = -1 ∧ ¬ (0 ≤ x ∧ x ≤ NW 17 - 1))) ∧ h' = h ∧ sz' = sz) := by
  refine M.of (by decide +kernel) (Nat.le_of_ble_eq_true rfl) ?_
  refine V_aload_n dX8_eventKind_0 rfl ?_
  refine V_iload_n dX8_eventKind_1 rfl ?_
  refine V_callV (Y' := YX8_isEvent) dX8_eventKind_2 lX8_158 gX8_isEvent (m8_isEvent (by omega) hm h17) hm.1 rfl rfl rfl (Nat.le_of_ble_eq_true rfl) ⟨Nat.zero_le _, Nat.zero_le _⟩ (fun v h1 sz1 hq => ?_)
  obtain ⟨t, rfl, ht, rfl, rfl⟩ := hq
  refine J_if_eq (tgt := 17) dX8_eventKind_5 (by decide) (by omega) (fun c5 => ?_) (fun c5 => ?_)
  · refine J_iconst dX8_eventKind_17 ?_
    exact V_iret dX8_eventKind_18 rfl rfl ⟨Nat.zero_le _, Nat.zero_le _⟩ ⟨_, rfl, by first | exact Or.inl ⟨rfl, by omega⟩ | exact Or.inr ⟨rfl, by omega⟩, rfl, rfl⟩
  · refine V_aload_n dX8_eventKind_8 rfl ?_
    refine V_iload_n dX8_eventKind_9 rfl ?_
    refine J_iconst dX8_eventKind_10 ?_
    refine V_callV (Y' := YX8_ofEvent) dX8_eventKind_11 lX8_161 gX8_ofEvent (m8_ofEvent hm h17 (by omega) (by omega)) hm.1 rfl rfl rfl (Nat.le_of_ble_eq_true rfl) ⟨Nat.zero_le _, Nat.zero_le _⟩ (fun v h1 sz1 hq => ?_)
    obtain ⟨rfl, rfl, rfl⟩ := hq
    refine V_goto (tgt := 18) dX8_eventKind_14 (by decide) ?_
    exact V_iret dX8_eventKind_18 rfl rfl ⟨Nat.zero_le _, Nat.zero_le _⟩ ⟨_, rfl, by first | exact Or.inl ⟨rfl, by omega⟩ | exact Or.inr ⟨rfl, by omega⟩, rfl, rfl⟩
set_option maxHeartbeats 4000000 in
set_option maxRecDepth 100000 in
theorem m8_eventPosition {z : ZG} {d sz r n s : Nat} {g h : AH} {l sp nu rs rm sc mk km : Int} {T RA RD MA NW SD KP : Nat → Int} {x : Int} (hx : -2147483648 ≤ x ∧ x < 2147483648) (hm : MS g r n s l sp nu rs rm sc mk km T RA RD MA NW SD KP h) (h17 : 0 ≤ NW 17 ∧ NW 17 ≤ 8) : M z YX8_eventPosition (d + 2) 0 0 [.ref r, .int (I x)] h sz (fun w h' sz' => ∃ v : Int, w = some (.int (I v)) ∧ ((v = NW (18 + 3 * (NW 17 - 1 - x) + 1).toNat ∧ 0 ≤ x ∧ x ≤ NW 17 - 1) ∨ (v = -1 ∧ ¬ (0 ≤ x ∧ x ≤ NW 17 - 1))) ∧ h' = h ∧ sz' = sz) := by
  refine M.of (by decide +kernel) (Nat.le_of_ble_eq_true rfl) ?_
  refine V_aload_n dX8_eventPosition_0 rfl ?_
  refine V_iload_n dX8_eventPosition_1 rfl ?_
  refine V_callV (Y' := YX8_isEvent) dX8_eventPosition_2 lX8_158 gX8_isEvent (m8_isEvent (by omega) hm h17) hm.1 rfl rfl rfl (Nat.le_of_ble_eq_true rfl) ⟨Nat.zero_le _, Nat.zero_le _⟩ (fun v h1 sz1 hq => ?_)
  obtain ⟨t, rfl, ht, rfl, rfl⟩ := hq
  refine J_if_eq (tgt := 17) dX8_eventPosition_5 (by decide) (by omega) (fun c5 => ?_) (fun c5 => ?_)
  · refine J_iconst dX8_eventPosition_17 ?_
    exact V_iret dX8_eventPosition_18 rfl rfl ⟨Nat.zero_le _, Nat.zero_le _⟩ ⟨_, rfl, by first | exact Or.inl ⟨rfl, by omega⟩ | exact Or.inr ⟨rfl, by omega⟩, rfl, rfl⟩
  · refine V_aload_n dX8_eventPosition_8 rfl ?_
    refine V_iload_n dX8_eventPosition_9 rfl ?_
    refine J_iconst dX8_eventPosition_10 ?_
    refine V_callV (Y' := YX8_ofEvent) dX8_eventPosition_11 lX8_161 gX8_ofEvent (m8_ofEvent hm h17 (by omega) (by omega)) hm.1 rfl rfl rfl (Nat.le_of_ble_eq_true rfl) ⟨Nat.zero_le _, Nat.zero_le _⟩ (fun v h1 sz1 hq => ?_)
    obtain ⟨rfl, rfl, rfl⟩ := hq
    refine V_goto (tgt := 18) dX8_eventPosition_14 (by decide) ?_
    exact V_iret dX8_eventPosition_18 rfl rfl ⟨Nat.zero_le _, Nat.zero_le _⟩ ⟨_, rfl, by first | exact Or.inl ⟨rfl, by omega⟩ | exact Or.inr ⟨rfl, by omega⟩, rfl, rfl⟩
set_option maxHeartbeats 4000000 in
set_option maxRecDepth 100000 in
theorem m8_eventCounter {z : ZG} {d sz r n s : Nat} {g h : AH} {l sp nu rs rm sc mk km : Int} {T RA RD MA NW SD KP : Nat → Int} {x : Int} (hx : -2147483648 ≤ x ∧ x < 2147483648) (hm : MS g r n s l sp nu rs rm sc mk km T RA RD MA NW SD KP h) (h17 : 0 ≤ NW 17 ∧ NW 17 ≤ 8) : M z YX8_eventCounter (d + 2) 0 0 [.ref r, .int (I x)] h sz (fun w h' sz' => ∃ v : Int64, w = some (.long v) ∧ ((v = (I (NW (18 + 3 * (NW 17 - 1 - x) + 2).toNat)).toInt64 ∧ 0 ≤ x ∧ x ≤ NW 17 - 1) ∨ (v = J (-9223372036854775808) ∧ ¬ (0 ≤ x ∧ x ≤ NW 17 - 1))) ∧ h' = h ∧ sz' = sz) := by
  refine M.of (by decide +kernel) (Nat.le_of_ble_eq_true rfl) ?_
  refine V_aload_n dX8_eventCounter_0 rfl ?_
  refine V_iload_n dX8_eventCounter_1 rfl ?_
  refine V_callV (Y' := YX8_isEvent) dX8_eventCounter_2 lX8_158 gX8_isEvent (m8_isEvent (by omega) hm h17) hm.1 rfl rfl rfl (Nat.le_of_ble_eq_true rfl) ⟨Nat.zero_le _, Nat.zero_le _⟩ (fun v h1 sz1 hq => ?_)
  obtain ⟨t, rfl, ht, rfl, rfl⟩ := hq
  refine J_if_eq (tgt := 18) dX8_eventCounter_5 (by decide) (by omega) (fun c5 => ?_) (fun c5 => ?_)
  · refine J_ldc2 (-9223372036854775808) dX8_eventCounter_18 cX8_131 rfl ?_
    exact V_lret dX8_eventCounter_21 rfl ⟨Nat.zero_le _, Nat.zero_le _⟩ ⟨_, rfl, by first | exact Or.inl ⟨rfl, by omega⟩ | exact Or.inr ⟨rfl, by omega⟩, rfl, rfl⟩
  · refine V_aload_n dX8_eventCounter_8 rfl ?_
    refine V_iload_n dX8_eventCounter_9 rfl ?_
    refine J_iconst dX8_eventCounter_10 ?_
    refine V_callV (Y' := YX8_ofEvent) dX8_eventCounter_11 lX8_161 gX8_ofEvent (m8_ofEvent hm h17 (by omega) (by omega)) hm.1 rfl rfl rfl (Nat.le_of_ble_eq_true rfl) ⟨Nat.zero_le _, Nat.zero_le _⟩ (fun v h1 sz1 hq => ?_)
    obtain ⟨rfl, rfl, rfl⟩ := hq
    refine V_i2l dX8_eventCounter_14 ?_
    refine V_goto (tgt := 21) dX8_eventCounter_15 (by decide) ?_
    exact V_lret dX8_eventCounter_21 rfl ⟨Nat.zero_le _, Nat.zero_le _⟩ ⟨_, rfl, by first | exact Or.inl ⟨rfl, by omega⟩ | exact Or.inr ⟨rfl, by omega⟩, rfl, rfl⟩
end
section
/-! THE REFERENCE: bright cells, fringes -/
theorem V_under {z : ZG} {Y : ZM} {R : Room} {Q : ZQ} {pc : Nat} {L : AL} {st : List Value} {h : AH} {sz kc nc : Nat} {x : Value} {a b : Int} (e : a = b) (k : V z Y R Q pc L (x :: .int (I b) :: st) h sz kc nc) : V z Y R Q pc L (x :: .int (I a) :: st) h sz kc nc := by rw [e]; exact k
def brt (sc : Int) (N : Nat → Int) (c : Int) : Int := if sc / 2 ≤ (N 0 + c) % sc ∧ N 6 / 2 ≤ (c + N 7) % N 6 then 1 else 0
def brs (sc : Int) (N : Nat → Int) (a : Int) : Nat → Int
  | 0 => 0
  | k + 1 => brs sc N a k + brt sc N (a + k)
theorem brs_s {sc : Int} {N : Nat → Int} {a : Int} {k : Nat} : brs sc N a (k + 1) = brs sc N a k + brt sc N (a + k) := rfl
theorem brs_rg {sc : Int} {N : Nat → Int} {a : Int} : ∀ k : Nat, 0 ≤ brs sc N a k ∧ brs sc N a k ≤ k := by
  intro k
  induction k with
  | zero => exact ⟨Int.le_refl _, Int.le_refl _⟩
  | succ k ih =>
    rw [brs_s]
    have : 0 ≤ brt sc N (a + k) ∧ brt sc N (a + k) ≤ 1 := by unfold brt; split <;> omega
    omega
set_option maxHeartbeats 4000000 in
set_option maxRecDepth 100000 in
theorem l8_brightIn_5 {z : ZG} {d sz r n s : Nat} {g h : AH} {l sp nu rs rm sc mk km : Int} {T RA RD MA NW SD KP : Nat → Int} {a wd : Int} (ha : 0 ≤ a ∧ a ≤ 100000) (hw : 0 ≤ wd ∧ wd ≤ 1000) (hm : MS g r n s l sp nu rs rm sc mk km T RA RD MA NW SD KP h) (hs : 8 ≤ sc ∧ sc ≤ 80) (hr : rok NW) : ∀ (f : Nat) (c v : Int) (o5 : Option Value), a ≤ c → c ≤ a + wd → a + wd - c < f → v = brs sc NW a (c - a).toNat → V z YX8_brightIn (zroom d 0 0) (fun w h' sz' => w = some (.int (I (brs sc NW a wd.toNat))) ∧ h' = h ∧ sz' = sz) 5 [some (.ref r), some (.int (I a)), some (.int (I wd)), some (.int (I v)), some (.int (I c)), o5] [] h sz 0 0 := by
  intro f
  induction f with
  | zero => intro c v o5 h1 h2 h3; omega
  | succ f ih =>
    intro c v o5 h1 h2 h3 hv
    have hr0 := hr.1
    have hr6 := hr.2.2.2.1
    have hr7 := hr.2.2.2.2.1
    have hvr := brs_rg (sc := sc) (N := NW) (a := a) (c - a).toNat
    have e1 : 0 ≤ (NW 0 + c) % sc ∧ (NW 0 + c) % sc < sc := ⟨Int.emod_nonneg _ (by omega), Int.emod_lt_of_pos _ (by omega)⟩
    have e2 : 0 ≤ (c + NW 7) % NW 6 ∧ (c + NW 7) % NW 6 < NW 6 := ⟨Int.emod_nonneg _ (by omega), Int.emod_lt_of_pos _ (by omega)⟩
    have hst : brs sc NW a (c + 1 - a).toNat = v + brt sc NW c := by
      rw [show (c + 1 - a).toNat = (c - a).toNat + 1 by omega, brs_s, hv, show a + ((c - a).toNat : Int) = c by omega]
    refine V_iload dX8_brightIn_5 rfl ?_
    refine V_iload_n dX8_brightIn_7 rfl ?_
    refine V_iload_n dX8_brightIn_8 rfl ?_
    refine J_iadd dX8_brightIn_9 ?_
    refine J_icmp_ge (tgt := 92) dX8_brightIn_10 (by decide) (by omega) (by omega) (fun c10 => ?_) (fun c10 => ?_)
    · refine V_iload_n dX8_brightIn_92 rfl ?_
      exact V_iret dX8_brightIn_93 rfl rfl ⟨Nat.zero_le _, Nat.zero_le _⟩ ⟨by rw [hv, show c - a = wd by omega], rfl, rfl⟩
    · refine V_aload_n dX8_brightIn_13 rfl ?_
      refine V_get dX8_brightIn_14 fX8_22 hm.1 rfl ?_
      refine J_iconst dX8_brightIn_17 ?_
      refine R_aldk_NW 0 dX8_brightIn_18 hm rfl (by decide) ?_
      refine V_iload dX8_brightIn_19 rfl ?_
      refine J_iadd dX8_brightIn_21 ?_
      refine V_aload_n dX8_brightIn_22 rfl ?_
      refine V_get dX8_brightIn_23 fX8_44 hm.1 rfl ?_
      refine J_irem dX8_brightIn_26 (by omega) (by omega) ?_
      refine V_aload_n dX8_brightIn_27 rfl ?_
      refine V_get dX8_brightIn_28 fX8_44 hm.1 rfl ?_
      refine J_iconst dX8_brightIn_31 ?_
      refine J_idiv dX8_brightIn_32 (by omega) (by omega) ?_
      refine J_icmp_lt (tgt := 70) dX8_brightIn_33 (by decide) (by omega) (by omega) (fun c33 => ?_) (fun c33 => ?_)
      · refine J_iconst dX8_brightIn_70 ?_
        refine V_istore dX8_brightIn_71 (Nat.le_of_ble_eq_true rfl) ?_
        refine V_iload_n dX8_brightIn_73 rfl ?_
        refine V_iload dX8_brightIn_74 rfl ?_
        refine J_if_eq (tgt := 83) dX8_brightIn_76 (by decide) (by omega) (fun c76 => ?_) (fun c76 => ?_)
        · refine J_iconst dX8_brightIn_83 ?_
          refine J_iadd dX8_brightIn_84 ?_
          refine V_istore_n dX8_brightIn_85 (Nat.le_of_ble_eq_true rfl) ?_
          refine J_iinc dX8_brightIn_86 rfl ?_
          refine V_goto (tgt := 5) dX8_brightIn_89 (by decide) ?_
          first | (exfalso; omega) | exact ih (c + 1) _ _ (by omega) (by omega) (by omega) (by rw [hst]; unfold brt; first | rw [if_pos (by omega)] | rw [if_neg (by omega)])
        · refine J_iconst dX8_brightIn_79 ?_
          refine V_goto (tgt := 84) dX8_brightIn_80 (by decide) ?_
          refine J_iadd dX8_brightIn_84 ?_
          refine V_istore_n dX8_brightIn_85 (Nat.le_of_ble_eq_true rfl) ?_
          refine J_iinc dX8_brightIn_86 rfl ?_
          refine V_goto (tgt := 5) dX8_brightIn_89 (by decide) ?_
          first | (exfalso; omega) | exact ih (c + 1) _ _ (by omega) (by omega) (by omega) (by rw [hst]; unfold brt; first | rw [if_pos (by omega)] | rw [if_neg (by omega)])
      · refine V_iload dX8_brightIn_36 rfl ?_
        refine V_aload_n dX8_brightIn_38 rfl ?_
        refine V_get dX8_brightIn_39 fX8_22 hm.1 rfl ?_
        refine J_bipush dX8_brightIn_42 (by decide) ?_
        refine R_aldk_NW 7 dX8_brightIn_44 hm rfl (by decide) ?_
        refine J_iadd dX8_brightIn_45 ?_
        refine V_aload_n dX8_brightIn_46 rfl ?_
        refine V_get dX8_brightIn_47 fX8_22 hm.1 rfl ?_
        refine J_bipush dX8_brightIn_50 (by decide) ?_
        refine R_aldk_NW 6 dX8_brightIn_52 hm rfl (by decide) ?_
        refine J_irem dX8_brightIn_53 (by omega) (by omega) ?_
        refine V_aload_n dX8_brightIn_54 rfl ?_
        refine V_get dX8_brightIn_55 fX8_22 hm.1 rfl ?_
        refine J_bipush dX8_brightIn_58 (by decide) ?_
        refine R_aldk_NW 6 dX8_brightIn_60 hm rfl (by decide) ?_
        refine J_iconst dX8_brightIn_61 ?_
        refine J_idiv dX8_brightIn_62 (by omega) (by omega) ?_
        refine J_icmp_lt (tgt := 70) dX8_brightIn_63 (by decide) (by omega) (by omega) (fun c63 => ?_) (fun c63 => ?_)
        · refine J_iconst dX8_brightIn_70 ?_
          refine V_istore dX8_brightIn_71 (Nat.le_of_ble_eq_true rfl) ?_
          refine V_iload_n dX8_brightIn_73 rfl ?_
          refine V_iload dX8_brightIn_74 rfl ?_
          refine J_if_eq (tgt := 83) dX8_brightIn_76 (by decide) (by omega) (fun c76 => ?_) (fun c76 => ?_)
          · refine J_iconst dX8_brightIn_83 ?_
            refine J_iadd dX8_brightIn_84 ?_
            refine V_istore_n dX8_brightIn_85 (Nat.le_of_ble_eq_true rfl) ?_
            refine J_iinc dX8_brightIn_86 rfl ?_
            refine V_goto (tgt := 5) dX8_brightIn_89 (by decide) ?_
            first | (exfalso; omega) | exact ih (c + 1) _ _ (by omega) (by omega) (by omega) (by rw [hst]; unfold brt; first | rw [if_pos (by omega)] | rw [if_neg (by omega)])
          · refine J_iconst dX8_brightIn_79 ?_
            refine V_goto (tgt := 84) dX8_brightIn_80 (by decide) ?_
            refine J_iadd dX8_brightIn_84 ?_
            refine V_istore_n dX8_brightIn_85 (Nat.le_of_ble_eq_true rfl) ?_
            refine J_iinc dX8_brightIn_86 rfl ?_
            refine V_goto (tgt := 5) dX8_brightIn_89 (by decide) ?_
            first | (exfalso; omega) | exact ih (c + 1) _ _ (by omega) (by omega) (by omega) (by rw [hst]; unfold brt; first | rw [if_pos (by omega)] | rw [if_neg (by omega)])
        · refine J_iconst dX8_brightIn_66 ?_
          refine V_goto (tgt := 71) dX8_brightIn_67 (by decide) ?_
          refine V_istore dX8_brightIn_71 (Nat.le_of_ble_eq_true rfl) ?_
          refine V_iload_n dX8_brightIn_73 rfl ?_
          refine V_iload dX8_brightIn_74 rfl ?_
          refine J_if_eq (tgt := 83) dX8_brightIn_76 (by decide) (by omega) (fun c76 => ?_) (fun c76 => ?_)
          · refine J_iconst dX8_brightIn_83 ?_
            refine J_iadd dX8_brightIn_84 ?_
            refine V_istore_n dX8_brightIn_85 (Nat.le_of_ble_eq_true rfl) ?_
            refine J_iinc dX8_brightIn_86 rfl ?_
            refine V_goto (tgt := 5) dX8_brightIn_89 (by decide) ?_
            first | (exfalso; omega) | exact ih (c + 1) _ _ (by omega) (by omega) (by omega) (by rw [hst]; unfold brt; first | rw [if_pos (by omega)] | rw [if_neg (by omega)])
          · refine J_iconst dX8_brightIn_79 ?_
            refine V_goto (tgt := 84) dX8_brightIn_80 (by decide) ?_
            refine J_iadd dX8_brightIn_84 ?_
            refine V_istore_n dX8_brightIn_85 (Nat.le_of_ble_eq_true rfl) ?_
            refine J_iinc dX8_brightIn_86 rfl ?_
            refine V_goto (tgt := 5) dX8_brightIn_89 (by decide) ?_
            first | (exfalso; omega) | exact ih (c + 1) _ _ (by omega) (by omega) (by omega) (by rw [hst]; unfold brt; first | rw [if_pos (by omega)] | rw [if_neg (by omega)])
set_option maxHeartbeats 4000000 in
set_option maxRecDepth 100000 in
theorem m8_brightIn {z : ZG} {d sz r n s : Nat} {g h : AH} {l sp nu rs rm sc mk km : Int} {T RA RD MA NW SD KP : Nat → Int} {a wd : Int} (ha : 0 ≤ a ∧ a ≤ 100000) (hw : 0 ≤ wd ∧ wd ≤ 1000) (hm : MS g r n s l sp nu rs rm sc mk km T RA RD MA NW SD KP h) (hs : 8 ≤ sc ∧ sc ≤ 80) (hr : rok NW) : M z YX8_brightIn d 0 0 [.ref r, .int (I a), .int (I wd)] h sz (fun w h' sz' => w = some (.int (I (brs sc NW a wd.toNat))) ∧ h' = h ∧ sz' = sz) := by
  refine M.of (by decide +kernel) (Nat.le_of_ble_eq_true rfl) ?_
  refine J_iconst dX8_brightIn_0 ?_
  refine V_istore_n dX8_brightIn_1 (Nat.le_of_ble_eq_true rfl) ?_
  refine V_iload_n dX8_brightIn_2 rfl ?_
  refine V_istore dX8_brightIn_3 (Nat.le_of_ble_eq_true rfl) ?_
  exact l8_brightIn_5 ha hw hm hs hr 1002 a 0 _ (by omega) (by omega) (by omega) (by rw [show (a - a).toNat = 0 by omega]; rfl)
set_option maxHeartbeats 4000000 in
set_option maxRecDepth 100000 in
theorem m8_brightness {z : ZG} {d sz r n s : Nat} {g h : AH} {l sp nu rs rm sc mk km : Int} {T RA RD MA NW SD KP : Nat → Int} {a wd : Int} (ha : -2147483648 ≤ a ∧ a < 2147483648) (hw : -2147483648 ≤ wd ∧ wd < 2147483648) (hm : MS g r n s l sp nu rs rm sc mk km T RA RD MA NW SD KP h) (hs : 8 ≤ sc ∧ sc ≤ 80) (hr : rok NW) : M z YX8_brightness (d + 1) 0 0 [.ref r, .int (I a), .int (I wd)] h sz (fun w h' sz' => ∃ v : Int, w = some (.int (I v)) ∧ ((v = brs sc NW a wd.toNat ∧ (0 ≤ a ∧ a ≤ 999) ∧ 1 ≤ wd ∧ wd ≤ 200) ∨ (v = -1 ∧ ¬ ((0 ≤ a ∧ a ≤ 999) ∧ 1 ≤ wd ∧ wd ≤ 200))) ∧ h' = h ∧ sz' = sz) := by
  refine M.of (by decide +kernel) (Nat.le_of_ble_eq_true rfl) ?_
  refine V_iload_n dX8_brightness_0 rfl ?_
  refine J_i2l dX8_brightness_1 (by omega) ?_
  refine J_lconst0 dX8_brightness_2 ?_
  refine J_ldc2 999 dX8_brightness_3 cX8_164 rfl ?_
  refine V_callS (Y' := YX8_in) dX8_brightness_6 lX8_57 gX8_in (m8_in (by omega) (by omega) (by omega)) rfl rfl (Nat.le_of_ble_eq_true rfl) ⟨Nat.zero_le _, Nat.zero_le _⟩ (fun v h1 sz1 hq => ?_)
  obtain ⟨t6, rfl, ht6, rfl, rfl⟩ := hq
  refine J_if_eq (tgt := 33) dX8_brightness_9 (by decide) (by omega) (fun c9 => ?_) (fun c9 => ?_)
  · refine J_iconst dX8_brightness_33 ?_
    exact V_iret dX8_brightness_34 rfl rfl ⟨Nat.zero_le _, Nat.zero_le _⟩ ⟨_, rfl, by first | exact Or.inl ⟨rfl, by omega⟩ | exact Or.inr ⟨rfl, by omega⟩, rfl, rfl⟩
  · refine V_iload_n dX8_brightness_12 rfl ?_
    refine J_i2l dX8_brightness_13 (by omega) ?_
    refine J_lconst1 dX8_brightness_14 ?_
    refine J_ldc2 200 dX8_brightness_15 cX8_166 rfl ?_
    refine V_callS (Y' := YX8_in) dX8_brightness_18 lX8_57 gX8_in (m8_in (by omega) (by omega) (by omega)) rfl rfl (Nat.le_of_ble_eq_true rfl) ⟨Nat.zero_le _, Nat.zero_le _⟩ (fun v h1 sz1 hq => ?_)
    obtain ⟨t18, rfl, ht18, rfl, rfl⟩ := hq
    refine J_if_eq (tgt := 33) dX8_brightness_21 (by decide) (by omega) (fun c21 => ?_) (fun c21 => ?_)
    · refine J_iconst dX8_brightness_33 ?_
      exact V_iret dX8_brightness_34 rfl rfl ⟨Nat.zero_le _, Nat.zero_le _⟩ ⟨_, rfl, by first | exact Or.inl ⟨rfl, by omega⟩ | exact Or.inr ⟨rfl, by omega⟩, rfl, rfl⟩
    · refine V_aload_n dX8_brightness_24 rfl ?_
      refine V_iload_n dX8_brightness_25 rfl ?_
      refine V_iload_n dX8_brightness_26 rfl ?_
      refine V_callV (Y' := YX8_brightIn) dX8_brightness_27 lX8_168 gX8_brightIn (m8_brightIn (by omega) (by omega) hm hs hr) hm.1 rfl rfl rfl (Nat.le_of_ble_eq_true rfl) ⟨Nat.zero_le _, Nat.zero_le _⟩ (fun v h1 sz1 hq => ?_)
      obtain ⟨rfl, rfl, rfl⟩ := hq
      refine V_goto (tgt := 34) dX8_brightness_30 (by decide) ?_
      exact V_iret dX8_brightness_34 rfl rfl ⟨Nat.zero_le _, Nat.zero_le _⟩ ⟨_, rfl, by first | exact Or.inl ⟨rfl, by omega⟩ | exact Or.inr ⟨rfl, by omega⟩, rfl, rfl⟩
/-- the brightest start so far, and how bright -/
def bb (sc : Int) (N : Nat → Int) (wd : Nat) : Nat → Int × Int
  | 0 => (0, -1)
  | k + 1 => if (bb sc N wd k).2 < brs sc N k wd then ((k : Int), brs sc N k wd) else bb sc N wd k
theorem bb_s {sc : Int} {N : Nat → Int} {wd k : Nat} : bb sc N wd (k + 1) = if (bb sc N wd k).2 < brs sc N k wd then ((k : Int), brs sc N k wd) else bb sc N wd k := rfl
theorem bb_rg {sc : Int} {N : Nat → Int} {wd : Nat} : ∀ k : Nat, (0 ≤ (bb sc N wd k).1 ∧ (bb sc N wd k).1 ≤ k) ∧ (-1 ≤ (bb sc N wd k).2 ∧ (bb sc N wd k).2 ≤ wd) := by
  intro k
  induction k with
  | zero => exact ⟨⟨Int.le_refl _, Int.le_refl _⟩, ⟨Int.le_refl _, by show (-1 : Int) ≤ wd; omega⟩⟩
  | succ k ih =>
    rw [bb_s]
    have := brs_rg (sc := sc) (N := N) (a := k) wd
    split
    · exact ⟨⟨by show (0 : Int) ≤ k; omega, by show (k : Int) ≤ (k + 1 : Nat); omega⟩, ⟨by show -1 ≤ brs sc N k wd; omega, this.2⟩⟩
    · omega
set_option maxHeartbeats 4000000 in
set_option maxRecDepth 100000 in
theorem l8_bs_21 {z : ZG} {d sz r n s : Nat} {g h : AH} {l sp nu rs rm sc mk km : Int} {T RA RD MA NW SD KP : Nat → Int} {wd : Nat} (hw : 1 ≤ wd ∧ wd ≤ 200) (hm : MS g r n s l sp nu rs rm sc mk km T RA RD MA NW SD KP h) (hs : 8 ≤ sc ∧ sc ≤ 80) (hr : rok NW) : ∀ (f k : Nat) (best most : Int) (o5 : Option Value), k ≤ 200 → 200 - k < f → best = (bb sc NW wd k).1 → most = (bb sc NW wd k).2 → V z YX8_brightestStart (zroom (d + 1) 0 0) (fun w h' sz' => w = some (.int (I (bb sc NW wd 200).1)) ∧ h' = h ∧ sz' = sz) 21 [some (.ref r), some (.int (I (wd : Int))), some (.int (I best)), some (.int (I most)), some (.int (I (k : Int))), o5] [] h sz 0 0 := by
  intro f
  induction f with
  | zero => intro k best most o5 h1 h2; omega
  | succ f ih =>
    intro k best most o5 h1 h2 hb hmo
    have hbr := bb_rg (sc := sc) (N := NW) (wd := wd) k
    have hn := brs_rg (sc := sc) (N := NW) (a := k) wd
    have hst := bb_s (sc := sc) (N := NW) (wd := wd) (k := k)
    refine V_iload dX8_brightestStart_21 rfl ?_
    refine J_sipush dX8_brightestStart_23 (by decide) ?_
    refine J_icmp_ge (tgt := 70) dX8_brightestStart_26 (by decide) (by omega) (by omega) (fun c26 => ?_) (fun c26 => ?_)
    · refine V_iload_n dX8_brightestStart_70 rfl ?_
      exact V_iret dX8_brightestStart_71 rfl rfl ⟨Nat.zero_le _, Nat.zero_le _⟩ ⟨by rw [hb, show k = 200 by omega], rfl, rfl⟩
    · refine V_aload_n dX8_brightestStart_29 rfl ?_
      refine V_iload dX8_brightestStart_30 rfl ?_
      refine V_iload_n dX8_brightestStart_32 rfl ?_
      refine V_callV (Y' := YX8_brightIn) dX8_brightestStart_33 lX8_168 gX8_brightIn (m8_brightIn (by omega) (by omega) hm hs hr) hm.1 rfl rfl rfl (Nat.le_of_ble_eq_true rfl) ⟨Nat.zero_le _, Nat.zero_le _⟩ (fun v h1 sz1 hq => ?_)
      obtain ⟨rfl, rfl, rfl⟩ := hq
      rw [show ((wd : Int).toNat) = wd from Int.toNat_natCast wd]
      refine V_istore dX8_brightestStart_36 (Nat.le_of_ble_eq_true rfl) ?_
      refine V_iload dX8_brightestStart_38 rfl ?_
      refine V_iload_n dX8_brightestStart_40 rfl ?_
      refine J_icmp_le (tgt := 49) dX8_brightestStart_41 (by decide) (by omega) (by omega) (fun c41 => ?_) (fun c41 => ?_)
      · refine V_iload_n dX8_brightestStart_49 rfl ?_
        refine V_istore_n dX8_brightestStart_50 (Nat.le_of_ble_eq_true rfl) ?_
        refine V_iload dX8_brightestStart_51 rfl ?_
        refine V_iload_n dX8_brightestStart_53 rfl ?_
        refine J_icmp_le (tgt := 62) dX8_brightestStart_54 (by decide) (by omega) (by omega) (fun c54 => ?_) (fun c54 => ?_)
        · refine V_iload_n dX8_brightestStart_62 rfl ?_
          refine V_istore_n dX8_brightestStart_63 (Nat.le_of_ble_eq_true rfl) ?_
          refine J_iinc dX8_brightestStart_64 rfl ?_
          refine V_goto (tgt := 21) dX8_brightestStart_67 (by decide) ?_
          first | (exfalso; omega) | exact ih (k + 1) _ _ _ (by omega) (by omega) (by rw [hst, if_pos (by omega)]) (by rw [hst, if_pos (by omega)]) | exact ih (k + 1) _ _ _ (by omega) (by omega) (by rw [hst, if_neg (by omega)]; exact hb) (by rw [hst, if_neg (by omega)]; exact hmo)
        · refine V_iload dX8_brightestStart_57 rfl ?_
          refine V_goto (tgt := 63) dX8_brightestStart_59 (by decide) ?_
          refine V_istore_n dX8_brightestStart_63 (Nat.le_of_ble_eq_true rfl) ?_
          refine J_iinc dX8_brightestStart_64 rfl ?_
          refine V_goto (tgt := 21) dX8_brightestStart_67 (by decide) ?_
          first | (exfalso; omega) | exact ih (k + 1) _ _ _ (by omega) (by omega) (by rw [hst, if_pos (by omega)]) (by rw [hst, if_pos (by omega)]) | exact ih (k + 1) _ _ _ (by omega) (by omega) (by rw [hst, if_neg (by omega)]; exact hb) (by rw [hst, if_neg (by omega)]; exact hmo)
      · refine V_iload dX8_brightestStart_44 rfl ?_
        refine V_goto (tgt := 50) dX8_brightestStart_46 (by decide) ?_
        refine V_istore_n dX8_brightestStart_50 (Nat.le_of_ble_eq_true rfl) ?_
        refine V_iload dX8_brightestStart_51 rfl ?_
        refine V_iload_n dX8_brightestStart_53 rfl ?_
        refine J_icmp_le (tgt := 62) dX8_brightestStart_54 (by decide) (by omega) (by omega) (fun c54 => ?_) (fun c54 => ?_)
        · refine V_iload_n dX8_brightestStart_62 rfl ?_
          refine V_istore_n dX8_brightestStart_63 (Nat.le_of_ble_eq_true rfl) ?_
          refine J_iinc dX8_brightestStart_64 rfl ?_
          refine V_goto (tgt := 21) dX8_brightestStart_67 (by decide) ?_
          first | (exfalso; omega) | exact ih (k + 1) _ _ _ (by omega) (by omega) (by rw [hst, if_pos (by omega)]) (by rw [hst, if_pos (by omega)]) | exact ih (k + 1) _ _ _ (by omega) (by omega) (by rw [hst, if_neg (by omega)]; exact hb) (by rw [hst, if_neg (by omega)]; exact hmo)
        · refine V_iload dX8_brightestStart_57 rfl ?_
          refine V_goto (tgt := 63) dX8_brightestStart_59 (by decide) ?_
          refine V_istore_n dX8_brightestStart_63 (Nat.le_of_ble_eq_true rfl) ?_
          refine J_iinc dX8_brightestStart_64 rfl ?_
          refine V_goto (tgt := 21) dX8_brightestStart_67 (by decide) ?_
          first | (exfalso; omega) | exact ih (k + 1) _ _ _ (by omega) (by omega) (by rw [hst, if_pos (by omega)]) (by rw [hst, if_pos (by omega)]) | exact ih (k + 1) _ _ _ (by omega) (by omega) (by rw [hst, if_neg (by omega)]; exact hb) (by rw [hst, if_neg (by omega)]; exact hmo)
set_option maxHeartbeats 4000000 in
set_option maxRecDepth 100000 in
theorem m8_brightestStart {z : ZG} {d sz r n s : Nat} {g h : AH} {l sp nu rs rm sc mk km : Int} {T RA RD MA NW SD KP : Nat → Int} {wd : Int} (hw : -2147483648 ≤ wd ∧ wd < 2147483648) (hm : MS g r n s l sp nu rs rm sc mk km T RA RD MA NW SD KP h) (hs : 8 ≤ sc ∧ sc ≤ 80) (hr : rok NW) : M z YX8_brightestStart (d + 1) 0 0 [.ref r, .int (I wd)] h sz (fun w h' sz' => ∃ v : Int, w = some (.int (I v)) ∧ ((v = (bb sc NW wd.toNat 200).1 ∧ 1 ≤ wd ∧ wd ≤ 200) ∨ (v = -1 ∧ ¬ (1 ≤ wd ∧ wd ≤ 200))) ∧ h' = h ∧ sz' = sz) := by
  refine M.of (by decide +kernel) (Nat.le_of_ble_eq_true rfl) ?_
  refine V_iload_n dX8_brightestStart_0 rfl ?_
  refine J_i2l dX8_brightestStart_1 (by omega) ?_
  refine J_lconst1 dX8_brightestStart_2 ?_
  refine J_ldc2 200 dX8_brightestStart_3 cX8_166 rfl ?_
  refine V_callS (Y' := YX8_in) dX8_brightestStart_6 lX8_57 gX8_in (m8_in (by omega) (by omega) (by omega)) rfl rfl (Nat.le_of_ble_eq_true rfl) ⟨Nat.zero_le _, Nat.zero_le _⟩ (fun v h1 sz1 hq => ?_)
  obtain ⟨t6, rfl, ht6, rfl, rfl⟩ := hq
  refine J_if_ne (tgt := 14) dX8_brightestStart_9 (by decide) (by omega) (fun c9 => ?_) (fun c9 => ?_)
  · refine J_iconst dX8_brightestStart_14 ?_
    refine V_istore_n dX8_brightestStart_15 (Nat.le_of_ble_eq_true rfl) ?_
    refine J_iconst dX8_brightestStart_16 ?_
    refine V_istore_n dX8_brightestStart_17 (Nat.le_of_ble_eq_true rfl) ?_
    refine J_iconst dX8_brightestStart_18 ?_
    refine V_istore dX8_brightestStart_19 (Nat.le_of_ble_eq_true rfl) ?_
    obtain ⟨q, rfl⟩ : ∃ q : Nat, wd = q := ⟨wd.toNat, by omega⟩
    refine V_mono ?_ (l8_bs_21 (wd := q) (by omega) hm hs hr 201 0 0 (-1) _ (by omega) (by omega) rfl rfl)
    rintro w h2 sz2 ⟨rfl, rfl, rfl⟩
    exact ⟨_, rfl, Or.inl ⟨by rw [Int.toNat_natCast], by omega⟩, rfl, rfl⟩
  · refine J_iconst dX8_brightestStart_12 ?_
    exact V_iret dX8_brightestStart_13 rfl rfl ⟨Nat.zero_le _, Nat.zero_le _⟩ ⟨_, rfl, Or.inr ⟨rfl, by omega⟩, rfl, rfl⟩
set_option maxHeartbeats 4000000 in
set_option maxRecDepth 100000 in
theorem l8_common_4 {z : ZG} {d sz : Nat} {h : AH} {a0 b0 : Int} : ∀ (f v u : Nat) (o4 : Option Value), u < f → v < 2147483648 → u < 2147483648 → V z YX8_common (zroom d 0 0) (fun w h' sz' => w = some (.int (I (Nat.gcd v u : Int))) ∧ h' = h ∧ sz' = sz) 4 [some (.int (I a0)), some (.int (I b0)), some (.int (I (v : Int))), some (.int (I (u : Int))), o4] [] h sz 0 0 := by
  intro f
  induction f with
  | zero => intro v u o4 h1; omega
  | succ f ih =>
    intro v u o4 h1 h2 h3
    refine V_iload_n dX8_common_4 rfl ?_
    refine J_if_eq (tgt := 21) dX8_common_5 (by decide) (by omega) (fun c5 => ?_) (fun c5 => ?_)
    · refine V_iload_n dX8_common_21 rfl ?_
      exact V_iret dX8_common_22 rfl rfl ⟨Nat.zero_le _, Nat.zero_le _⟩ ⟨by rw [show u = 0 by omega, Nat.gcd_zero_right], rfl, rfl⟩
    · refine V_iload_n dX8_common_8 rfl ?_
      refine V_iload_n dX8_common_9 rfl ?_
      refine J_irem dX8_common_10 (by omega) (by omega) ?_
      refine V_istore dX8_common_11 (Nat.le_of_ble_eq_true rfl) ?_
      refine V_iload_n dX8_common_13 rfl ?_
      refine V_istore_n dX8_common_14 (Nat.le_of_ble_eq_true rfl) ?_
      refine V_iload dX8_common_15 rfl ?_
      refine V_istore_n dX8_common_17 (Nat.le_of_ble_eq_true rfl) ?_
      refine V_goto (tgt := 4) dX8_common_18 (by decide) ?_
      have e0 := Nat.mod_lt v (show 0 < u by omega)
      have e1 : ((v : Int) % (u : Int)) = ((v % u : Nat) : Int) := (Int.natCast_emod v u).symm
      rw [e1]
      refine V_mono ?_ (ih u (v % u) _ (by omega) (by omega) (by omega))
      rintro w h2 sz2 ⟨rfl, rfl, rfl⟩
      exact ⟨by rw [Nat.gcd_comm u, ← Nat.gcd_rec, Nat.gcd_comm], rfl, rfl⟩
set_option maxHeartbeats 4000000 in
set_option maxRecDepth 100000 in
theorem m8_common {z : ZG} {d sz : Nat} {h : AH} {v u : Nat} (hv : v < 2147483648) (hu : u < 2147483648) : M z YX8_common d 0 0 [.int (I (v : Int)), .int (I (u : Int))] h sz (fun w h' sz' => w = some (.int (I (Nat.gcd v u : Int))) ∧ h' = h ∧ sz' = sz) := by
  refine M.of (by decide +kernel) (Nat.le_of_ble_eq_true rfl) ?_
  refine V_iload_n dX8_common_0 rfl ?_
  refine V_istore_n dX8_common_1 (Nat.le_of_ble_eq_true rfl) ?_
  refine V_iload_n dX8_common_2 rfl ?_
  refine V_istore_n dX8_common_3 (Nat.le_of_ble_eq_true rfl) ?_
  exact l8_common_4 (u + 1) v u _ (by omega) hv hu
theorem pq_rg {a b : Int} (ha : 8 ≤ a ∧ a ≤ 80) (hb : 8 ≤ b ∧ b ≤ 80) : 64 ≤ a * b ∧ a * b ≤ 6400 := by
  constructor
  · have := Int.mul_le_mul ha.1 hb.1 (by omega) (by omega); omega
  · have := Int.mul_le_mul ha.2 hb.2 (by omega) (by omega); omega
theorem gcd_rg {a b : Nat} (ha : 0 < a) : 0 < Nat.gcd a b ∧ Nat.gcd a b ≤ a := ⟨Nat.gcd_pos_of_pos_left _ ha, Nat.gcd_le_left _ ha⟩
set_option maxHeartbeats 4000000 in
set_option maxRecDepth 100000 in
theorem m8_overlayPeriod {z : ZG} {d sz r n s : Nat} {g h : AH} {l sp nu rs rm sc mk km : Int} {T RA RD MA NW SD KP : Nat → Int} (hm : MS g r n s l sp nu rs rm sc mk km T RA RD MA NW SD KP h) (hs : 8 ≤ sc ∧ sc ≤ 80) (hr : rok NW) : M z YX8_overlayPeriod (d + 1) 0 0 [.ref r] h sz (fun w h' sz' => w = some (.int (I (sc / (Nat.gcd sc.toNat (NW 6).toNat : Int) * NW 6))) ∧ h' = h ∧ sz' = sz) := by
  refine M.of (by decide +kernel) (Nat.le_of_ble_eq_true rfl) ?_
  have hr6 := hr.2.2.2.1
  have hg := gcd_rg (a := sc.toNat) (b := (NW 6).toNat) (by omega)
  refine V_aload_n dX8_overlayPeriod_0 rfl ?_
  refine V_get dX8_overlayPeriod_1 fX8_44 hm.1 rfl ?_
  refine V_aload_n dX8_overlayPeriod_4 rfl ?_
  refine V_get dX8_overlayPeriod_5 fX8_44 hm.1 rfl ?_
  refine V_aload_n dX8_overlayPeriod_8 rfl ?_
  refine V_get dX8_overlayPeriod_9 fX8_22 hm.1 rfl ?_
  refine J_bipush dX8_overlayPeriod_12 (by decide) ?_
  refine R_aldk_NW 6 dX8_overlayPeriod_14 hm rfl (by decide) ?_
  rw [show (I (NW 6)) = I ((NW 6).toNat : Int) by rw [Int.toNat_of_nonneg (by omega)]]
  refine V_under (a := sc) (b := (sc.toNat : Int)) (by omega) ?_
  refine V_callS (Y' := YX8_common) dX8_overlayPeriod_15 lX8_171 gX8_common (m8_common (v := sc.toNat) (u := (NW 6).toNat) (by omega) (by omega)) rfl rfl (Nat.le_of_ble_eq_true rfl) ⟨Nat.zero_le _, Nat.zero_le _⟩ (fun v h1 sz1 hq => ?_)
  obtain ⟨rfl, rfl, rfl⟩ := hq
  refine J_idiv dX8_overlayPeriod_18 (by omega) (by omega) ?_
  refine V_aload_n dX8_overlayPeriod_19 rfl ?_
  refine V_get dX8_overlayPeriod_20 fX8_22 hm.1 rfl ?_
  refine J_bipush dX8_overlayPeriod_23 (by decide) ?_
  refine R_aldk_NW 6 dX8_overlayPeriod_25 hm rfl (by decide) ?_
  refine J_imul dX8_overlayPeriod_26 ?_
  exact V_iret dX8_overlayPeriod_27 rfl rfl ⟨Nat.zero_le _, Nat.zero_le _⟩ ⟨rfl, rfl, rfl⟩
theorem dif_rg {a b q : Int} (ha : 8 ≤ a ∧ a ≤ 80) (hb : 8 ≤ b ∧ b ≤ 80) (h : (I a ≤ I b ∧ q = b - a) ∨ (¬ I a ≤ I b ∧ q = a - b)) : q = ((a - b).natAbs : Int) := by
  rw [I_le (by omega) (by omega)] at h
  omega
set_option maxHeartbeats 4000000 in
set_option maxRecDepth 100000 in
theorem m8_fringe_1 {z : ZG} {d sz r n s : Nat} {g h : AH} {l sp nu rs rm sc mk km : Int} {T RA RD MA NW SD KP : Nat → Int} (hm : MS g r n s l sp nu rs rm sc mk km T RA RD MA NW SD KP h) (hs : 8 ≤ sc ∧ sc ≤ 80) (hr : rok NW) : M z YX8_fringe (d + 1) 0 0 [.ref r, .int (I 1)] h sz (fun w h' sz' => ∃ v : Int, w = some (.int (I v)) ∧ (((sc - NW 6).natAbs = 0 ∧ v = -4) ∨ (¬ (sc - NW 6).natAbs = 0 ∧ v = (sc * NW 6) / (Nat.gcd (sc * NW 6).toNat (sc - NW 6).natAbs : Int))) ∧ h' = h ∧ sz' = sz) := by
  refine M.of (by decide +kernel) (Nat.le_of_ble_eq_true rfl) ?_
  have hr6 := hr.2.2.2.1
  have hpq := pq_rg hs hr6
  have hg := gcd_rg (a := (sc * NW 6).toNat) (b := (sc - NW 6).natAbs) (by omega)
  refine V_aload_n dX8_fringe_0 rfl ?_
  refine V_get dX8_fringe_1 fX8_44 hm.1 rfl ?_
  refine V_aload_n dX8_fringe_4 rfl ?_
  refine V_get dX8_fringe_5 fX8_22 hm.1 rfl ?_
  refine J_bipush dX8_fringe_8 (by decide) ?_
  refine R_aldk_NW 6 dX8_fringe_10 hm rfl (by decide) ?_
  refine J_imul dX8_fringe_11 ?_
  refine V_istore_n dX8_fringe_12 (Nat.le_of_ble_eq_true rfl) ?_
  refine V_aload_n dX8_fringe_13 rfl ?_
  refine V_get dX8_fringe_14 fX8_44 hm.1 rfl ?_
  refine V_aload_n dX8_fringe_17 rfl ?_
  refine V_get dX8_fringe_18 fX8_22 hm.1 rfl ?_
  refine J_bipush dX8_fringe_21 (by decide) ?_
  refine R_aldk_NW 6 dX8_fringe_23 hm rfl (by decide) ?_
  refine V_callS (Y' := YX8_apart) dX8_fringe_24 lX8_149 gX8_apart m8_apart rfl rfl (Nat.le_of_ble_eq_true rfl) ⟨Nat.zero_le _, Nat.zero_le _⟩ (fun v h1 sz1 hq => ?_)
  obtain ⟨q, rfl, hq0, rfl, rfl⟩ := hq
  have hq1 := dif_rg hs hr6 hq0
  subst hq1
  refine V_istore_n dX8_fringe_27 (Nat.le_of_ble_eq_true rfl) ?_
  refine V_iload_n dX8_fringe_28 rfl ?_
  refine J_if_ne (tgt := 35) dX8_fringe_29 (by decide) (by omega) (fun c29 => ?_) (fun c29 => ?_)
  · refine V_iload_n dX8_fringe_35 rfl ?_
    refine V_iload_n dX8_fringe_36 rfl ?_
    refine V_under (b := (((sc * NW 6).toNat : Nat) : Int)) (by omega) ?_
    refine V_callS (Y' := YX8_common) dX8_fringe_37 lX8_171 gX8_common (m8_common (v := (sc * NW 6).toNat) (u := (sc - NW 6).natAbs) (by omega) (by omega)) rfl rfl (Nat.le_of_ble_eq_true rfl) ⟨Nat.zero_le _, Nat.zero_le _⟩ (fun v h1 sz1 hq => ?_)
    obtain ⟨rfl, rfl, rfl⟩ := hq
    refine V_istore dX8_fringe_40 (Nat.le_of_ble_eq_true rfl) ?_
    refine V_iload_n dX8_fringe_42 rfl ?_
    refine J_if_eq (tgt := 53) dX8_fringe_43 (by decide) (by omega) (fun c43 => ?_) (fun c43 => ?_)
    · exfalso
      omega
    · refine V_iload_n dX8_fringe_46 rfl ?_
      refine V_iload dX8_fringe_47 rfl ?_
      refine J_idiv dX8_fringe_49 (by omega) (by omega) ?_
      refine V_goto (tgt := 57) dX8_fringe_50 (by decide) ?_
      exact V_iret dX8_fringe_57 rfl rfl ⟨Nat.zero_le _, Nat.zero_le _⟩ ⟨_, rfl, by first | exact Or.inl ⟨by omega, rfl⟩ | exact Or.inr ⟨by omega, rfl⟩, rfl, rfl⟩
  · refine J_bipush dX8_fringe_32 (by decide) ?_
    exact V_iret dX8_fringe_34 rfl rfl ⟨Nat.zero_le _, Nat.zero_le _⟩ ⟨_, rfl, by first | exact Or.inl ⟨by omega, rfl⟩ | exact Or.inr ⟨by omega, rfl⟩, rfl, rfl⟩
set_option maxHeartbeats 4000000 in
set_option maxRecDepth 100000 in
theorem m8_fringe_0 {z : ZG} {d sz r n s : Nat} {g h : AH} {l sp nu rs rm sc mk km : Int} {T RA RD MA NW SD KP : Nat → Int} (hm : MS g r n s l sp nu rs rm sc mk km T RA RD MA NW SD KP h) (hs : 8 ≤ sc ∧ sc ≤ 80) (hr : rok NW) : M z YX8_fringe (d + 1) 0 0 [.ref r, .int (I 0)] h sz (fun w h' sz' => ∃ v : Int, w = some (.int (I v)) ∧ (((sc - NW 6).natAbs = 0 ∧ v = -4) ∨ (¬ (sc - NW 6).natAbs = 0 ∧ v = ((sc - NW 6).natAbs : Int) / (Nat.gcd (sc * NW 6).toNat (sc - NW 6).natAbs : Int))) ∧ h' = h ∧ sz' = sz) := by
  refine M.of (by decide +kernel) (Nat.le_of_ble_eq_true rfl) ?_
  have hr6 := hr.2.2.2.1
  have hpq := pq_rg hs hr6
  have hg := gcd_rg (a := (sc * NW 6).toNat) (b := (sc - NW 6).natAbs) (by omega)
  refine V_aload_n dX8_fringe_0 rfl ?_
  refine V_get dX8_fringe_1 fX8_44 hm.1 rfl ?_
  refine V_aload_n dX8_fringe_4 rfl ?_
  refine V_get dX8_fringe_5 fX8_22 hm.1 rfl ?_
  refine J_bipush dX8_fringe_8 (by decide) ?_
  refine R_aldk_NW 6 dX8_fringe_10 hm rfl (by decide) ?_
  refine J_imul dX8_fringe_11 ?_
  refine V_istore_n dX8_fringe_12 (Nat.le_of_ble_eq_true rfl) ?_
  refine V_aload_n dX8_fringe_13 rfl ?_
  refine V_get dX8_fringe_14 fX8_44 hm.1 rfl ?_
  refine V_aload_n dX8_fringe_17 rfl ?_
  refine V_get dX8_fringe_18 fX8_22 hm.1 rfl ?_
  refine J_bipush dX8_fringe_21 (by decide) ?_
  refine R_aldk_NW 6 dX8_fringe_23 hm rfl (by decide) ?_
  refine V_callS (Y' := YX8_apart) dX8_fringe_24 lX8_149 gX8_apart m8_apart rfl rfl (Nat.le_of_ble_eq_true rfl) ⟨Nat.zero_le _, Nat.zero_le _⟩ (fun v h1 sz1 hq => ?_)
  obtain ⟨q, rfl, hq0, rfl, rfl⟩ := hq
  have hq1 := dif_rg hs hr6 hq0
  subst hq1
  refine V_istore_n dX8_fringe_27 (Nat.le_of_ble_eq_true rfl) ?_
  refine V_iload_n dX8_fringe_28 rfl ?_
  refine J_if_ne (tgt := 35) dX8_fringe_29 (by decide) (by omega) (fun c29 => ?_) (fun c29 => ?_)
  · refine V_iload_n dX8_fringe_35 rfl ?_
    refine V_iload_n dX8_fringe_36 rfl ?_
    refine V_under (b := (((sc * NW 6).toNat : Nat) : Int)) (by omega) ?_
    refine V_callS (Y' := YX8_common) dX8_fringe_37 lX8_171 gX8_common (m8_common (v := (sc * NW 6).toNat) (u := (sc - NW 6).natAbs) (by omega) (by omega)) rfl rfl (Nat.le_of_ble_eq_true rfl) ⟨Nat.zero_le _, Nat.zero_le _⟩ (fun v h1 sz1 hq => ?_)
    obtain ⟨rfl, rfl, rfl⟩ := hq
    refine V_istore dX8_fringe_40 (Nat.le_of_ble_eq_true rfl) ?_
    refine V_iload_n dX8_fringe_42 rfl ?_
    refine J_if_eq (tgt := 53) dX8_fringe_43 (by decide) (by omega) (fun c43 => ?_) (fun c43 => ?_)
    · refine V_iload_n dX8_fringe_53 rfl ?_
      refine V_iload dX8_fringe_54 rfl ?_
      refine J_idiv dX8_fringe_56 (by omega) (by omega) ?_
      exact V_iret dX8_fringe_57 rfl rfl ⟨Nat.zero_le _, Nat.zero_le _⟩ ⟨_, rfl, by first | exact Or.inl ⟨by omega, rfl⟩ | exact Or.inr ⟨by omega, rfl⟩, rfl, rfl⟩
    · exfalso
      omega
  · refine J_bipush dX8_fringe_32 (by decide) ?_
    exact V_iret dX8_fringe_34 rfl rfl ⟨Nat.zero_le _, Nat.zero_le _⟩ ⟨_, rfl, by first | exact Or.inl ⟨by omega, rfl⟩ | exact Or.inr ⟨by omega, rfl⟩, rfl, rfl⟩
set_option maxHeartbeats 4000000 in
set_option maxRecDepth 100000 in
theorem m8_fringePeriodNumerator {z : ZG} {d sz r n s : Nat} {g h : AH} {l sp nu rs rm sc mk km : Int} {T RA RD MA NW SD KP : Nat → Int} (hm : MS g r n s l sp nu rs rm sc mk km T RA RD MA NW SD KP h) (hs : 8 ≤ sc ∧ sc ≤ 80) (hr : rok NW) : M z YX8_fringePeriodNumerator (d + 2) 0 0 [.ref r] h sz (fun w h' sz' => ∃ v : Int, w = some (.int (I v)) ∧ (((sc - NW 6).natAbs = 0 ∧ v = -4) ∨ (¬ (sc - NW 6).natAbs = 0 ∧ v = (sc * NW 6) / (Nat.gcd (sc * NW 6).toNat (sc - NW 6).natAbs : Int))) ∧ h' = h ∧ sz' = sz) := by
  refine M.of (by decide +kernel) (Nat.le_of_ble_eq_true rfl) ?_
  refine V_aload_n dX8_fringePeriodNumerator_0 rfl ?_
  refine J_iconst dX8_fringePeriodNumerator_1 ?_
  refine V_callV (Y' := YX8_fringe) dX8_fringePeriodNumerator_2 lX8_174 gX8_fringe (m8_fringe_1 hm hs hr) hm.1 rfl rfl rfl (Nat.le_of_ble_eq_true rfl) ⟨Nat.zero_le _, Nat.zero_le _⟩ (fun v h1 sz1 hq => ?_)
  obtain ⟨v, rfl, hv, rfl, rfl⟩ := hq
  exact V_iret dX8_fringePeriodNumerator_5 rfl rfl ⟨Nat.zero_le _, Nat.zero_le _⟩ ⟨_, rfl, hv, rfl, rfl⟩
set_option maxHeartbeats 4000000 in
set_option maxRecDepth 100000 in
theorem m8_fringePeriodDenominator {z : ZG} {d sz r n s : Nat} {g h : AH} {l sp nu rs rm sc mk km : Int} {T RA RD MA NW SD KP : Nat → Int} (hm : MS g r n s l sp nu rs rm sc mk km T RA RD MA NW SD KP h) (hs : 8 ≤ sc ∧ sc ≤ 80) (hr : rok NW) : M z YX8_fringePeriodDenominator (d + 2) 0 0 [.ref r] h sz (fun w h' sz' => ∃ v : Int, w = some (.int (I v)) ∧ (((sc - NW 6).natAbs = 0 ∧ v = -4) ∨ (¬ (sc - NW 6).natAbs = 0 ∧ v = ((sc - NW 6).natAbs : Int) / (Nat.gcd (sc * NW 6).toNat (sc - NW 6).natAbs : Int))) ∧ h' = h ∧ sz' = sz) := by
  refine M.of (by decide +kernel) (Nat.le_of_ble_eq_true rfl) ?_
  refine V_aload_n dX8_fringePeriodDenominator_0 rfl ?_
  refine J_iconst dX8_fringePeriodDenominator_1 ?_
  refine V_callV (Y' := YX8_fringe) dX8_fringePeriodDenominator_2 lX8_174 gX8_fringe (m8_fringe_0 hm hs hr) hm.1 rfl rfl rfl (Nat.le_of_ble_eq_true rfl) ⟨Nat.zero_le _, Nat.zero_le _⟩ (fun v h1 sz1 hq => ?_)
  obtain ⟨v, rfl, hv, rfl, rfl⟩ := hq
  exact V_iret dX8_fringePeriodDenominator_5 rfl rfl ⟨Nat.zero_le _, Nat.zero_le _⟩ ⟨_, rfl, hv, rfl, rfl⟩
set_option maxHeartbeats 4000000 in
set_option maxRecDepth 100000 in
theorem m8_magnificationBits {z : ZG} {d sz r n s : Nat} {g h : AH} {l sp nu rs rm sc mk km : Int} {T RA RD MA NW SD KP : Nat → Int} (hm : MS g r n s l sp nu rs rm sc mk km T RA RD MA NW SD KP h) (hs : 8 ≤ sc ∧ sc ≤ 80) (hr : rok NW) : M z YX8_magnificationBits (d + 2) 0 0 [.ref r] h sz (fun w h' sz' => (∃ v : Int32, w = some (.int v) ∧ (((sc - NW 6).natAbs = 0 ∧ v = I (-4)) ∨ (¬ (sc - NW 6).natAbs = 0 ∧ ∃ f1 : UInt32, alike32 f1 (FP.fdiv (FP.i2f (I (NW 6))) (FP.i2f (I ((sc - NW 6).natAbs : Int)))) = true ∧ (Op.cmpValue (FP.fcmp f1 f1) .l = 0 → v = f1.toInt32)))) ∧ h' = h ∧ sz' = sz) := by
  refine M.of (by decide +kernel) (Nat.le_of_ble_eq_true rfl) ?_
  have hr6 := hr.2.2.2.1
  refine V_aload_n dX8_magnificationBits_0 rfl ?_
  refine V_get dX8_magnificationBits_1 fX8_44 hm.1 rfl ?_
  refine V_aload_n dX8_magnificationBits_4 rfl ?_
  refine V_get dX8_magnificationBits_5 fX8_22 hm.1 rfl ?_
  refine J_bipush dX8_magnificationBits_8 (by decide) ?_
  refine R_aldk_NW 6 dX8_magnificationBits_10 hm rfl (by decide) ?_
  refine V_callS (Y' := YX8_apart) dX8_magnificationBits_11 lX8_149 gX8_apart m8_apart rfl rfl (Nat.le_of_ble_eq_true rfl) ⟨Nat.zero_le _, Nat.zero_le _⟩ (fun v h1 sz1 hq => ?_)
  obtain ⟨q, rfl, hq0, rfl, rfl⟩ := hq
  have hq1 := dif_rg hs hr6 hq0
  subst hq1
  refine V_istore_n dX8_magnificationBits_14 (Nat.le_of_ble_eq_true rfl) ?_
  refine V_iload_n dX8_magnificationBits_15 rfl ?_
  refine J_if_ne (tgt := 24) dX8_magnificationBits_16 (by decide) (by omega) (fun c16 => ?_) (fun c16 => ?_)
  · refine V_aload_n dX8_magnificationBits_24 rfl ?_
    refine V_get dX8_magnificationBits_25 fX8_22 hm.1 rfl ?_
    refine J_bipush dX8_magnificationBits_28 (by decide) ?_
    refine R_aldk_NW 6 dX8_magnificationBits_30 hm rfl (by decide) ?_
    refine V_i2f dX8_magnificationBits_31 ?_
    refine V_iload_n dX8_magnificationBits_32 rfl ?_
    refine V_i2f dX8_magnificationBits_33 ?_
    refine V_fdiv dX8_magnificationBits_34 (fun f34 hf34 => ?_)
    refine V_callS (Y' := YJxf58ca_floatToIntBits_5c35a) dX8_magnificationBits_35 lX8_152 gJxf58ca_floatToIntBits_5c35a mJ_ftb rfl rfl (Nat.le_of_ble_eq_true rfl) ⟨Nat.zero_le _, Nat.zero_le _⟩ (fun v h1 sz1 hq => ?_)
    obtain ⟨fv, rfl, hfv, rfl, rfl⟩ := hq
    exact V_iret dX8_magnificationBits_38 rfl rfl ⟨Nat.zero_le _, Nat.zero_le _⟩ ⟨⟨_, rfl, by first | exact Or.inl ⟨by omega, rfl⟩ | exact Or.inr ⟨by omega, _, hf34, hfv⟩⟩, rfl, rfl⟩
  · refine J_bipush dX8_magnificationBits_19 (by decide) ?_
    refine V_goto (tgt := 38) dX8_magnificationBits_21 (by decide) ?_
    exact V_iret dX8_magnificationBits_38 rfl rfl ⟨Nat.zero_le _, Nat.zero_le _⟩ ⟨⟨_, rfl, by first | exact Or.inl ⟨by omega, rfl⟩ | exact Or.inr ⟨by omega, _, hf34, hfv⟩⟩, rfl, rfl⟩
set_option maxHeartbeats 4000000 in
set_option maxRecDepth 100000 in
theorem m8_crossedSpacingBits {z : ZG} {d sz r n s : Nat} {g h : AH} {l sp nu rs rm sc mk km : Int} {T RA RD MA NW SD KP : Nat → Int} {x y : Int} (hx : -2147483648 ≤ x ∧ x < 2147483648) (hy : -2147483648 ≤ y ∧ y < 2147483648) (hm : MS g r n s l sp nu rs rm sc mk km T RA RD MA NW SD KP h) : M z YX8_crossedSpacingBits (d + 2) 0 0 [.ref r, .int (I x), .int (I y)] h sz (fun w h' sz' => (∃ v : Int32, w = some (.int v) ∧ ((¬ ((1 ≤ x ∧ x ≤ 99) ∧ 1 ≤ y ∧ y ≤ 999) ∧ v = I (-1)) ∨ (((1 ≤ x ∧ x ≤ 99) ∧ 1 ≤ y ∧ y ≤ 999) ∧ ∃ f1 f2 : UInt32, alike32 f1 (FP.fmul (FP.i2f (I sc)) (FP.i2f (I y))) = true ∧ alike32 f2 (FP.fdiv f1 (FP.i2f (I x))) = true ∧ (Op.cmpValue (FP.fcmp f2 f2) .l = 0 → v = f2.toInt32)))) ∧ h' = h ∧ sz' = sz) := by
  refine M.of (by decide +kernel) (Nat.le_of_ble_eq_true rfl) ?_
  refine V_iload_n dX8_crossedSpacingBits_0 rfl ?_
  refine J_i2l dX8_crossedSpacingBits_1 (by omega) ?_
  refine J_lconst1 dX8_crossedSpacingBits_2 ?_
  refine J_ldc2 99 dX8_crossedSpacingBits_3 cX8_112 rfl ?_
  refine V_callS (Y' := YX8_in) dX8_crossedSpacingBits_6 lX8_57 gX8_in (m8_in (by omega) (by omega) (by omega)) rfl rfl (Nat.le_of_ble_eq_true rfl) ⟨Nat.zero_le _, Nat.zero_le _⟩ (fun v h1 sz1 hq => ?_)
  obtain ⟨t6, rfl, ht6, rfl, rfl⟩ := hq
  refine J_if_eq (tgt := 24) dX8_crossedSpacingBits_9 (by decide) (by omega) (fun c9 => ?_) (fun c9 => ?_)
  · refine J_iconst dX8_crossedSpacingBits_24 ?_
    exact V_iret dX8_crossedSpacingBits_25 rfl rfl ⟨Nat.zero_le _, Nat.zero_le _⟩ ⟨⟨_, rfl, Or.inl ⟨by omega, rfl⟩⟩, rfl, rfl⟩
  · refine V_iload_n dX8_crossedSpacingBits_12 rfl ?_
    refine J_i2l dX8_crossedSpacingBits_13 (by omega) ?_
    refine J_lconst1 dX8_crossedSpacingBits_14 ?_
    refine J_ldc2 999 dX8_crossedSpacingBits_15 cX8_164 rfl ?_
    refine V_callS (Y' := YX8_in) dX8_crossedSpacingBits_18 lX8_57 gX8_in (m8_in (by omega) (by omega) (by omega)) rfl rfl (Nat.le_of_ble_eq_true rfl) ⟨Nat.zero_le _, Nat.zero_le _⟩ (fun v h1 sz1 hq => ?_)
    obtain ⟨t18, rfl, ht18, rfl, rfl⟩ := hq
    refine J_if_ne (tgt := 26) dX8_crossedSpacingBits_21 (by decide) (by omega) (fun c21 => ?_) (fun c21 => ?_)
    · refine V_aload_n dX8_crossedSpacingBits_26 rfl ?_
      refine V_get dX8_crossedSpacingBits_27 fX8_44 hm.1 rfl ?_
      refine V_i2f dX8_crossedSpacingBits_30 ?_
      refine V_iload_n dX8_crossedSpacingBits_31 rfl ?_
      refine V_i2f dX8_crossedSpacingBits_32 ?_
      refine V_fmul dX8_crossedSpacingBits_33 (fun f33 hf33 => ?_)
      refine V_fstore_n dX8_crossedSpacingBits_34 (Nat.le_of_ble_eq_true rfl) ?_
      refine V_fload_n dX8_crossedSpacingBits_35 rfl ?_
      refine V_iload_n dX8_crossedSpacingBits_36 rfl ?_
      refine V_i2f dX8_crossedSpacingBits_37 ?_
      refine V_fdiv dX8_crossedSpacingBits_38 (fun f38 hf38 => ?_)
      refine V_callS (Y' := YJxf58ca_floatToIntBits_5c35a) dX8_crossedSpacingBits_39 lX8_152 gJxf58ca_floatToIntBits_5c35a mJ_ftb rfl rfl (Nat.le_of_ble_eq_true rfl) ⟨Nat.zero_le _, Nat.zero_le _⟩ (fun v h1 sz1 hq => ?_)
      obtain ⟨fv, rfl, hfv, rfl, rfl⟩ := hq
      exact V_iret dX8_crossedSpacingBits_42 rfl rfl ⟨Nat.zero_le _, Nat.zero_le _⟩ ⟨⟨_, rfl, Or.inr ⟨by omega, _, _, hf33, hf38, hfv⟩⟩, rfl, rfl⟩
    · refine J_iconst dX8_crossedSpacingBits_24 ?_
      exact V_iret dX8_crossedSpacingBits_25 rfl rfl ⟨Nat.zero_le _, Nat.zero_le _⟩ ⟨⟨_, rfl, Or.inl ⟨by omega, rfl⟩⟩, rfl, rfl⟩
end
section
/-! THE REFERENCE: the setup text read -/
noncomputable def cIf {α : Type} (c : Prop) (a b : α) : α := @ite α c (Classical.propDecidable c) a b
theorem cIf_p {α : Type} {c : Prop} {a b : α} (h : c) : cIf c a b = a := by unfold cIf; rw [if_pos h]
theorem cIf_n {α : Type} {c : Prop} {a b : α} (h : ¬ c) : cIf c a b = b := by unfold cIf; rw [if_neg h]
/-- up to k digits from a spot on: how many, and the number that they continue -/
def dgN (T : Nat → Int) (l : Int) : Nat → Int → Int → Nat × Int
  | 0, _, nu => (0, nu)
  | k + 1, sp, nu => if 48 ≤ lh T l sp ∧ lh T l sp ≤ 57 then ((dgN T l k (sp + 1) (10 * nu + lh T l sp - 48)).1 + 1, (dgN T l k (sp + 1) (10 * nu + lh T l sp - 48)).2) else (0, nu)
theorem dgN_s {T : Nat → Int} {l sp nu : Int} {k : Nat} : dgN T l (k + 1) sp nu = if 48 ≤ lh T l sp ∧ lh T l sp ≤ 57 then ((dgN T l k (sp + 1) (10 * nu + lh T l sp - 48)).1 + 1, (dgN T l k (sp + 1) (10 * nu + lh T l sp - 48)).2) else (0, nu) := rfl
theorem dgN_rg {T : Nat → Int} {l : Int} : ∀ (k j : Nat) (sp nu : Int), j + k = 4 → 0 ≤ nu → ((j = 0 ∧ nu = 0) ∨ (j = 1 ∧ nu ≤ 9) ∨ (j = 2 ∧ nu ≤ 99) ∨ (j = 3 ∧ nu ≤ 999) ∨ (j = 4 ∧ nu ≤ 9999)) → (dgN T l k sp nu).1 ≤ k ∧ 0 ≤ (dgN T l k sp nu).2 ∧ (dgN T l k sp nu).2 ≤ 9999 := by
  intro k
  induction k with
  | zero => intro j sp nu h1 h2 h3; exact ⟨Nat.le_refl _, h2, by show nu ≤ 9999; omega⟩
  | succ k ih =>
    intro j sp nu h1 h2 h3
    rw [dgN_s]
    split
    · have := ih (j + 1) (sp + 1) (10 * nu + lh T l sp - 48) (by omega) (by omega) (by omega)
      exact ⟨by show _ + 1 ≤ k + 1; omega, this.2⟩
    · exact ⟨Nat.zero_le _, h2, by show nu ≤ 9999; omega⟩
/-- the number at a spot, the spot behind it and its sign, whether it is one -/
def nmN (T : Nat → Int) (l sp : Int) : Int := (dgN T l 4 sp 0).2
def nmS (T : Nat → Int) (l sp : Int) : Int := sp + (dgN T l 4 sp 0).1 + 1
def nmO (T : Nat → Int) (l sp lo hi bh : Int) : Prop := 0 < (dgN T l 4 sp 0).1 ∧ (lo ≤ nmN T l sp ∧ nmN T l sp ≤ hi) ∧ lh T l (sp + (dgN T l 4 sp 0).1) = bh
theorem nm_rg {T : Nat → Int} {l sp : Int} : (0 ≤ nmN T l sp ∧ nmN T l sp ≤ 9999) ∧ sp + 1 ≤ nmS T l sp ∧ nmS T l sp ≤ sp + 5 := by
  have := dgN_rg (T := T) (l := l) 4 0 sp 0 (by omega) (by omega) (by omega)
  unfold nmN nmS
  omega
set_option maxHeartbeats 4000000 in
set_option maxRecDepth 100000 in
theorem l8_isNumber_66 {z : ZG} {d sz r n s : Nat} {g h : AH} {l sp nu rs rm sc mk km : Int} {T RA RD MA NW SD KP : Nat → Int} {lo hi bh : Int} {j : Nat} {o5 : Option Value} (hT : ∀ j, j < 200 → 0 ≤ T j ∧ T j ≤ 126) (hl : 0 ≤ l ∧ l ≤ 200) (hb : (0 ≤ lo ∧ lo ≤ 9999) ∧ (0 ≤ hi ∧ hi ≤ 9999) ∧ (0 ≤ bh ∧ bh ≤ 126)) (hsp : 0 ≤ sp ∧ sp ≤ 9999) (hj : j ≤ 4) (hnu : 0 ≤ nu ∧ nu ≤ 99999) (hm : MS g r n s l sp nu rs rm sc mk km T RA RD MA NW SD KP h) : V z YX8_isNumber (zroom (d + 1) 0 0) (fun w h' sz' => ∃ t : Int, w = some (.int (I t)) ∧ ((t = 1 ∧ 0 < j ∧ (lo ≤ nu ∧ nu ≤ hi) ∧ lh T l sp = bh) ∨ (t = 0 ∧ ¬ (0 < j ∧ (lo ≤ nu ∧ nu ≤ hi) ∧ lh T l sp = bh))) ∧ sz' = sz ∧ MS g r n s l (sp + 1) nu rs rm sc mk km T RA RD MA NW SD KP h') 66 [some (.ref r), some (.int (I lo)), some (.int (I hi)), some (.int (I bh)), some (.int (I (j : Int))), o5] [] h sz 0 0 := by
  have hlr := lh_rg (l := l) (sp := sp) hT (by omega)
  refine V_iload dX8_isNumber_66 rfl ?_
  refine J_if_le (tgt := 98) dX8_isNumber_68 (by decide) (by omega) (fun c68 => ?_) (fun c68 => ?_)
  · refine J_iconst dX8_isNumber_98 ?_
    refine V_istore dX8_isNumber_99 (Nat.le_of_ble_eq_true rfl) ?_
    refine V_aload_n dX8_isNumber_101 rfl ?_
    refine V_dup dX8_isNumber_102 rfl ?_
    refine V_get dX8_isNumber_103 fX8_64 hm.1 rfl ?_
    refine J_iconst dX8_isNumber_106 ?_
    refine J_iadd dX8_isNumber_107 ?_
    refine R_put_2 dX8_isNumber_108 fX8_64 hm (fun h hm => ?_)
    refine V_iload dX8_isNumber_111 rfl ?_
    exact V_iret dX8_isNumber_113 rfl rfl ⟨Nat.zero_le _, Nat.zero_le _⟩ ⟨_, rfl, by omega, rfl, hm⟩
  · refine V_aload_n dX8_isNumber_71 rfl ?_
    refine V_get dX8_isNumber_72 fX8_67 hm.1 rfl ?_
    refine J_i2l dX8_isNumber_75 (by omega) ?_
    refine V_iload_n dX8_isNumber_76 rfl ?_
    refine J_i2l dX8_isNumber_77 (by omega) ?_
    refine V_iload_n dX8_isNumber_78 rfl ?_
    refine J_i2l dX8_isNumber_79 (by omega) ?_
    refine V_callS (Y' := YX8_in) dX8_isNumber_80 lX8_57 gX8_in (m8_in (by omega) (by omega) (by omega)) rfl rfl (Nat.le_of_ble_eq_true rfl) ⟨Nat.zero_le _, Nat.zero_le _⟩ (fun v h1 sz1 hq => ?_)
    obtain ⟨t80, rfl, ht80, rfl, rfl⟩ := hq
    refine J_if_eq (tgt := 98) dX8_isNumber_83 (by decide) (by omega) (fun c83 => ?_) (fun c83 => ?_)
    · refine J_iconst dX8_isNumber_98 ?_
      refine V_istore dX8_isNumber_99 (Nat.le_of_ble_eq_true rfl) ?_
      refine V_aload_n dX8_isNumber_101 rfl ?_
      refine V_dup dX8_isNumber_102 rfl ?_
      refine V_get dX8_isNumber_103 fX8_64 hm.1 rfl ?_
      refine J_iconst dX8_isNumber_106 ?_
      refine J_iadd dX8_isNumber_107 ?_
      refine R_put_2 dX8_isNumber_108 fX8_64 hm (fun h hm => ?_)
      refine V_iload dX8_isNumber_111 rfl ?_
      exact V_iret dX8_isNumber_113 rfl rfl ⟨Nat.zero_le _, Nat.zero_le _⟩ ⟨_, rfl, by omega, rfl, hm⟩
    · refine V_aload_n dX8_isNumber_86 rfl ?_
      refine V_callV (Y' := YX8_letterHere) dX8_isNumber_87 lX8_70 gX8_letterHere (m8_letterHere hm hl (by omega)) hm.1 rfl rfl rfl (Nat.le_of_ble_eq_true rfl) ⟨Nat.zero_le _, Nat.zero_le _⟩ (fun v h1 sz1 hq => ?_)
      obtain ⟨rfl, rfl, rfl⟩ := hq
      refine V_iload_n dX8_isNumber_90 rfl ?_
      refine J_icmp_ne (tgt := 98) dX8_isNumber_91 (by decide) (by omega) (by omega) (fun c91 => ?_) (fun c91 => ?_)
      · refine J_iconst dX8_isNumber_98 ?_
        refine V_istore dX8_isNumber_99 (Nat.le_of_ble_eq_true rfl) ?_
        refine V_aload_n dX8_isNumber_101 rfl ?_
        refine V_dup dX8_isNumber_102 rfl ?_
        refine V_get dX8_isNumber_103 fX8_64 hm.1 rfl ?_
        refine J_iconst dX8_isNumber_106 ?_
        refine J_iadd dX8_isNumber_107 ?_
        refine R_put_2 dX8_isNumber_108 fX8_64 hm (fun h hm => ?_)
        refine V_iload dX8_isNumber_111 rfl ?_
        exact V_iret dX8_isNumber_113 rfl rfl ⟨Nat.zero_le _, Nat.zero_le _⟩ ⟨_, rfl, by omega, rfl, hm⟩
      · refine J_iconst dX8_isNumber_94 ?_
        refine V_goto (tgt := 99) dX8_isNumber_95 (by decide) ?_
        refine V_istore dX8_isNumber_99 (Nat.le_of_ble_eq_true rfl) ?_
        refine V_aload_n dX8_isNumber_101 rfl ?_
        refine V_dup dX8_isNumber_102 rfl ?_
        refine V_get dX8_isNumber_103 fX8_64 hm.1 rfl ?_
        refine J_iconst dX8_isNumber_106 ?_
        refine J_iadd dX8_isNumber_107 ?_
        refine R_put_2 dX8_isNumber_108 fX8_64 hm (fun h hm => ?_)
        refine V_iload dX8_isNumber_111 rfl ?_
        exact V_iret dX8_isNumber_113 rfl rfl ⟨Nat.zero_le _, Nat.zero_le _⟩ ⟨_, rfl, by omega, rfl, hm⟩
set_option maxHeartbeats 4000000 in
set_option maxRecDepth 100000 in
theorem l8_isNumber_8 {z : ZG} {d sz r n s : Nat} {g : AH} {l rs rm sc mk km : Int} {T RA RD MA NW SD KP : Nat → Int} {lo hi bh : Int} (hT : ∀ j, j < 200 → 0 ≤ T j ∧ T j ≤ 126) (hl : 0 ≤ l ∧ l ≤ 200) (hb : (0 ≤ lo ∧ lo ≤ 9999) ∧ (0 ≤ hi ∧ hi ≤ 9999) ∧ (0 ≤ bh ∧ bh ≤ 126)) : ∀ (k j : Nat) (sp nu : Int) (h : AH) (o5 : Option Value), j + k = 4 → (0 ≤ sp ∧ sp + k ≤ 9999) → 0 ≤ nu → ((j = 0 ∧ nu = 0) ∨ (j = 1 ∧ nu ≤ 9) ∨ (j = 2 ∧ nu ≤ 99) ∨ (j = 3 ∧ nu ≤ 999) ∨ (j = 4 ∧ nu ≤ 9999)) → MS g r n s l sp nu rs rm sc mk km T RA RD MA NW SD KP h → V z YX8_isNumber (zroom (d + 1) 0 0) (fun w h' sz' => ∃ t : Int, w = some (.int (I t)) ∧ ((t = 1 ∧ 0 < j + (dgN T l k sp nu).1 ∧ (lo ≤ (dgN T l k sp nu).2 ∧ (dgN T l k sp nu).2 ≤ hi) ∧ lh T l (sp + (dgN T l k sp nu).1) = bh) ∨ (t = 0 ∧ ¬ (0 < j + (dgN T l k sp nu).1 ∧ (lo ≤ (dgN T l k sp nu).2 ∧ (dgN T l k sp nu).2 ≤ hi) ∧ lh T l (sp + (dgN T l k sp nu).1) = bh))) ∧ sz' = sz ∧ MS g r n s l (sp + (dgN T l k sp nu).1 + 1) (dgN T l k sp nu).2 rs rm sc mk km T RA RD MA NW SD KP h') 8 [some (.ref r), some (.int (I lo)), some (.int (I hi)), some (.int (I bh)), some (.int (I (j : Int))), o5] [] h sz 0 0 := by
  intro k
  induction k with
  | zero =>
    intro j sp nu h o5 h1 h2 h3 h4 hm
    have hlr := lh_rg (l := l) (sp := sp) hT (by omega)
    refine V_aload_n dX8_isNumber_8 rfl ?_
    refine V_callV (Y' := YX8_letterHere) dX8_isNumber_9 lX8_70 gX8_letterHere (m8_letterHere hm hl (by omega)) hm.1 rfl rfl rfl (Nat.le_of_ble_eq_true rfl) ⟨Nat.zero_le _, Nat.zero_le _⟩ (fun v h1 sz1 hq => ?_)
    obtain ⟨rfl, rfl, rfl⟩ := hq
    refine J_i2l dX8_isNumber_12 (by omega) ?_
    refine J_ldc2 48 dX8_isNumber_13 cX8_74 rfl ?_
    refine J_ldc2 57 dX8_isNumber_16 cX8_76 rfl ?_
    refine V_callS (Y' := YX8_in) dX8_isNumber_19 lX8_57 gX8_in (m8_in (by omega) (by omega) (by omega)) rfl rfl (Nat.le_of_ble_eq_true rfl) ⟨Nat.zero_le _, Nat.zero_le _⟩ (fun v h1 sz1 hq => ?_)
    obtain ⟨t19, rfl, ht19, rfl, rfl⟩ := hq
    refine J_if_eq (tgt := 66) dX8_isNumber_22 (by decide) (by omega) (fun c22 => ?_) (fun c22 => ?_)
    · refine V_mono ?_ (l8_isNumber_66 (j := j) hT hl hb (by omega) (by omega) (by omega) hm)
      rintro w h2 sz2 ⟨t, rfl, ht, rfl, hm⟩
      have e9 : dgN T l 0 sp nu = (0, nu) := rfl
      rw [e9]; exact ⟨t, rfl, by simpa using ht, rfl, by simpa using hm⟩
    · refine V_iload dX8_isNumber_25 rfl ?_
      refine J_iconst dX8_isNumber_27 ?_
      refine J_icmp_ge (tgt := 66) dX8_isNumber_28 (by decide) (by omega) (by omega) (fun c28 => ?_) (fun c28 => ?_)
      · refine V_mono ?_ (l8_isNumber_66 (j := j) hT hl hb (by omega) (by omega) (by omega) hm)
        rintro w h2 sz2 ⟨t, rfl, ht, rfl, hm⟩
        have e9 : dgN T l 0 sp nu = (0, nu) := rfl
        rw [e9]; exact ⟨t, rfl, by simpa using ht, rfl, by simpa using hm⟩
      · exfalso
        omega
  | succ k ih =>
    intro j sp nu h o5 h1 h2 h3 h4 hm
    have hlr := lh_rg (l := l) (sp := sp) hT (by omega)
    refine V_aload_n dX8_isNumber_8 rfl ?_
    refine V_callV (Y' := YX8_letterHere) dX8_isNumber_9 lX8_70 gX8_letterHere (m8_letterHere hm hl (by omega)) hm.1 rfl rfl rfl (Nat.le_of_ble_eq_true rfl) ⟨Nat.zero_le _, Nat.zero_le _⟩ (fun v h1 sz1 hq => ?_)
    obtain ⟨rfl, rfl, rfl⟩ := hq
    refine J_i2l dX8_isNumber_12 (by omega) ?_
    refine J_ldc2 48 dX8_isNumber_13 cX8_74 rfl ?_
    refine J_ldc2 57 dX8_isNumber_16 cX8_76 rfl ?_
    refine V_callS (Y' := YX8_in) dX8_isNumber_19 lX8_57 gX8_in (m8_in (by omega) (by omega) (by omega)) rfl rfl (Nat.le_of_ble_eq_true rfl) ⟨Nat.zero_le _, Nat.zero_le _⟩ (fun v h1 sz1 hq => ?_)
    obtain ⟨t19, rfl, ht19, rfl, rfl⟩ := hq
    refine J_if_eq (tgt := 66) dX8_isNumber_22 (by decide) (by omega) (fun c22 => ?_) (fun c22 => ?_)
    · refine V_mono ?_ (l8_isNumber_66 (j := j) hT hl hb (by omega) (by omega) (by omega) hm)
      rintro w h2 sz2 ⟨t, rfl, ht, rfl, hm⟩
      have e9 : dgN T l (k + 1) sp nu = (0, nu) := by rw [dgN_s, if_neg (by omega)]
      rw [e9]; exact ⟨t, rfl, by simpa using ht, rfl, by simpa using hm⟩
    · refine V_iload dX8_isNumber_25 rfl ?_
      refine J_iconst dX8_isNumber_27 ?_
      refine J_icmp_ge (tgt := 66) dX8_isNumber_28 (by decide) (by omega) (by omega) (fun c28 => ?_) (fun c28 => ?_)
      · refine V_mono ?_ (l8_isNumber_66 (j := j) hT hl hb (by omega) (by omega) (by omega) hm)
        rintro w h2 sz2 ⟨t, rfl, ht, rfl, hm⟩
        have e9 : dgN T l (k + 1) sp nu = (0, nu) := by rw [dgN_s, if_neg (by omega)]
        rw [e9]; exact ⟨t, rfl, by simpa using ht, rfl, by simpa using hm⟩
      · refine V_aload_n dX8_isNumber_31 rfl ?_
        refine J_bipush dX8_isNumber_32 (by decide) ?_
        refine V_aload_n dX8_isNumber_34 rfl ?_
        refine V_get dX8_isNumber_35 fX8_67 hm.1 rfl ?_
        refine J_imul dX8_isNumber_38 ?_
        refine V_aload_n dX8_isNumber_39 rfl ?_
        refine V_callV (Y' := YX8_letterHere) dX8_isNumber_40 lX8_70 gX8_letterHere (m8_letterHere hm hl (by omega)) hm.1 rfl rfl rfl (Nat.le_of_ble_eq_true rfl) ⟨Nat.zero_le _, Nat.zero_le _⟩ (fun v h1 sz1 hq => ?_)
        obtain ⟨rfl, rfl, rfl⟩ := hq
        refine J_iadd dX8_isNumber_43 ?_
        refine J_bipush dX8_isNumber_44 (by decide) ?_
        refine J_isub dX8_isNumber_46 ?_
        refine R_put_3 dX8_isNumber_47 fX8_67 hm (fun h hm => ?_)
        refine J_iinc dX8_isNumber_50 rfl ?_
        refine V_aload_n dX8_isNumber_53 rfl ?_
        refine V_dup dX8_isNumber_54 rfl ?_
        refine V_get dX8_isNumber_55 fX8_64 hm.1 rfl ?_
        refine J_iconst dX8_isNumber_58 ?_
        refine J_iadd dX8_isNumber_59 ?_
        refine R_put_2 dX8_isNumber_60 fX8_64 hm (fun h hm => ?_)
        refine V_goto (tgt := 8) dX8_isNumber_63 (by decide) ?_
        refine V_mono ?_ (ih (j + 1) (sp + 1) _ _ _ (by omega) (by omega) (by omega) (by omega) hm)
        rintro w h2 sz2 ⟨t, rfl, ht, rfl, hm⟩
        have e9 : dgN T l (k + 1) sp nu = ((dgN T l k (sp + 1) (10 * nu + lh T l sp - 48)).1 + 1, (dgN T l k (sp + 1) (10 * nu + lh T l sp - 48)).2) := by rw [dgN_s, if_pos (by omega)]
        rw [e9]
        dsimp only
        refine ⟨t, rfl, ?_, rfl, ?_⟩
        · rw [show sp + (((dgN T l k (sp + 1) (10 * nu + lh T l sp - 48)).1 + 1 : Nat) : Int) = sp + 1 + ((dgN T l k (sp + 1) (10 * nu + lh T l sp - 48)).1 : Int) by omega, show j + ((dgN T l k (sp + 1) (10 * nu + lh T l sp - 48)).1 + 1) = j + 1 + (dgN T l k (sp + 1) (10 * nu + lh T l sp - 48)).1 by omega]; exact ht
        · rw [show sp + (((dgN T l k (sp + 1) (10 * nu + lh T l sp - 48)).1 + 1 : Nat) : Int) + 1 = sp + 1 + ((dgN T l k (sp + 1) (10 * nu + lh T l sp - 48)).1 : Int) + 1 by omega]; exact hm
set_option maxHeartbeats 4000000 in
set_option maxRecDepth 100000 in
theorem m8_isNumber {z : ZG} {d sz r n s : Nat} {g h : AH} {l sp nu rs rm sc mk km : Int} {T RA RD MA NW SD KP : Nat → Int} {lo hi bh : Int} (hT : ∀ j, j < 200 → 0 ≤ T j ∧ T j ≤ 126) (hl : 0 ≤ l ∧ l ≤ 200) (hb : (0 ≤ lo ∧ lo ≤ 9999) ∧ (0 ≤ hi ∧ hi ≤ 9999) ∧ (0 ≤ bh ∧ bh ≤ 126)) (hsp : 0 ≤ sp ∧ sp ≤ 9000) (hm : MS g r n s l sp nu rs rm sc mk km T RA RD MA NW SD KP h) : M z YX8_isNumber (d + 1) 0 0 [.ref r, .int (I lo), .int (I hi), .int (I bh)] h sz (fun w h' sz' => ∃ t : Int, w = some (.int (I t)) ∧ ((t = 1 ∧ nmO T l sp lo hi bh) ∨ (t = 0 ∧ ¬ nmO T l sp lo hi bh)) ∧ sz' = sz ∧ MS g r n s l (nmS T l sp) (nmN T l sp) rs rm sc mk km T RA RD MA NW SD KP h') := by
  refine M.of (by decide +kernel) (Nat.le_of_ble_eq_true rfl) ?_
  refine V_aload_n dX8_isNumber_0 rfl ?_
  refine J_iconst dX8_isNumber_1 ?_
  refine R_put_3 dX8_isNumber_2 fX8_67 hm (fun h hm => ?_)
  refine J_iconst dX8_isNumber_5 ?_
  refine V_istore dX8_isNumber_6 (Nat.le_of_ble_eq_true rfl) ?_
  refine V_mono ?_ (l8_isNumber_8 hT hl hb 4 0 sp 0 _ _ (by omega) (by omega) (by omega) (by omega) hm)
  rintro w h2 sz2 ⟨t, rfl, ht, rfl, hm⟩
  exact ⟨t, rfl, by unfold nmO nmN; simpa using ht, rfl, hm⟩
abbrev RO : Type := Int × Int × Int × (Nat → Int) × (Nat → Int)
/-- one statement: the spot behind it, and what was read so far; none where it is invalid -/
noncomputable def stF (T : Nat → Int) (l sp rs rm : Int) (RA RD : Nat → Int) : Option RO :=
  cIf (lh T l sp = 112) (cIf (nmO T l (sp + 1) 8 80 59 ∧ nmN T l (sp + 1) % 4 = 0) (some (nmS T l (sp + 1), nmN T l (sp + 1), rm, RA, RD)) none)
  (cIf (lh T l sp = 105) (cIf (nmO T l (sp + 1) 8 80 44 ∧ nmO T l (nmS T l (sp + 1)) 0 79 59) (some (nmS T l (nmS T l (sp + 1)), rs, rm, RA, va_up (va_up RD 6 (nmN T l (sp + 1))) 7 (nmN T l (nmS T l (sp + 1))))) none)
  (cIf (lh T l sp = 109) (cIf (nmO T l (sp + 1) 1 4 59 ∧ ¬ nmN T l (sp + 1) = 3) (some (nmS T l (sp + 1), rs, rm, RA, va_up RD 5 (nmN T l (sp + 1)))) none)
  (cIf (lh T l sp = 114) (cIf (nmO T l (sp + 1) 0 9999 59 ∧ ¬ rm = 6 ∧ ¬ (0 < rm ∧ nmN T l (sp + 1) ≤ RA (rm - 1).toNat)) (some (nmS T l (sp + 1), rs, rm + 1, va_up RA rm.toNat (nmN T l (sp + 1)), RD)) none)
  (cIf (lh T l sp = 100) (cIf (nmO T l (sp + 1) 0 9999 44 ∧ ¬ RD 8 = 4 ∧ nmO T l (nmS T l (sp + 1)) 1 99 59) (some (nmS T l (nmS T l (sp + 1)), rs, rm, RA, adR RD (RD 8).toNat (nmN T l (sp + 1)) (nmN T l (nmS T l (sp + 1))))) none) none))))
set_option maxHeartbeats 4000000 in
set_option maxRecDepth 100000 in
theorem m8_dirtStatement {z : ZG} {d sz r n s : Nat} {g h : AH} {l sp nu rs rm sc mk km : Int} {T RA RD MA NW SD KP : Nat → Int} (hT : ∀ j, j < 200 → 0 ≤ T j ∧ T j ≤ 126) (hl : 0 ≤ l ∧ l ≤ 200) (h8 : 0 ≤ RD 8 ∧ RD 8 ≤ 4) (hsp : 0 ≤ sp ∧ sp ≤ 1000) (hm : MS g r n s l sp nu rs rm sc mk km T RA RD MA NW SD KP h) : M z YX8_dirtStatement (d + 2) 0 0 [.ref r] h sz (fun w h' sz' => sz' = sz ∧ ∃ t : Int, w = some (.int (I t)) ∧ ((t = 1 ∧ (nmO T l sp 0 9999 44 ∧ ¬ RD 8 = 4 ∧ nmO T l (nmS T l sp) 1 99 59) ∧ ∃ nu2 : Int, MS g r n s l (nmS T l (nmS T l sp)) nu2 rs rm sc mk km T RA (adR RD (RD 8).toNat (nmN T l sp) (nmN T l (nmS T l sp))) MA NW SD KP h') ∨ (t = 0 ∧ ¬ (nmO T l sp 0 9999 44 ∧ ¬ RD 8 = 4 ∧ nmO T l (nmS T l sp) 1 99 59) ∧ ∃ (sp2 nu2 : Int) (RD2 : Nat → Int), MS g r n s l sp2 nu2 rs rm sc mk km T RA RD2 MA NW SD KP h'))) := by
  refine M.of (by decide +kernel) (Nat.le_of_ble_eq_true rfl) ?_
  have hn1 := nm_rg (T := T) (l := l) (sp := sp)
  have hn2 := nm_rg (T := T) (l := l) (sp := nmS T l sp)
  refine V_aload_n dX8_dirtStatement_0 rfl ?_
  refine J_iconst dX8_dirtStatement_1 ?_
  refine J_sipush dX8_dirtStatement_2 (by decide) ?_
  refine J_bipush dX8_dirtStatement_5 (by decide) ?_
  refine V_callV (Y' := YX8_isNumber) dX8_dirtStatement_7 lX8_78 gX8_isNumber (m8_isNumber hT hl (by omega) (by omega) hm) hm.1 rfl rfl rfl (Nat.le_of_ble_eq_true rfl) ⟨Nat.zero_le _, Nat.zero_le _⟩ (fun v h1 sz1 hq => ?_)
  obtain ⟨t7, rfl, ht7, rfl, hm⟩ := hq
  have tr7 : t7 = 1 ∨ t7 = 0 := ht7.imp (fun q => q.1) (fun q => q.1)
  refine J_if_eq (tgt := 24) dX8_dirtStatement_10 (by decide) (by omega) (fun c10 => ?_) (fun c10 => ?_)
  · refine J_iconst dX8_dirtStatement_24 ?_
    exact V_iret dX8_dirtStatement_25 rfl rfl ⟨Nat.zero_le _, Nat.zero_le _⟩ ⟨rfl, _, rfl, Or.inr ⟨rfl, fun q => by first | exact absurd q.1 (ht7.elim (fun q => absurd q.1 (by omega)) (fun q => q.2)) | exact q.2.1 (by omega), _, _, _, hm⟩⟩
  · refine V_aload_n dX8_dirtStatement_13 rfl ?_
    refine V_get dX8_dirtStatement_14 fX8_16 hm.1 rfl ?_
    refine J_bipush dX8_dirtStatement_17 (by decide) ?_
    refine R_aldk_RD 8 dX8_dirtStatement_19 hm rfl (by decide) ?_
    refine J_iconst dX8_dirtStatement_20 ?_
    refine J_icmp_ne (tgt := 26) dX8_dirtStatement_21 (by decide) (by omega) (by omega) (fun c21 => ?_) (fun c21 => ?_)
    · obtain ⟨e, he⟩ : ∃ e : Nat, RD 8 = e := ⟨(RD 8).toNat, by omega⟩
      refine J_bipush dX8_dirtStatement_26 (by decide) ?_
      refine J_iconst dX8_dirtStatement_28 ?_
      refine V_aload_n dX8_dirtStatement_29 rfl ?_
      refine V_get dX8_dirtStatement_30 fX8_16 hm.1 rfl ?_
      refine J_bipush dX8_dirtStatement_33 (by decide) ?_
      refine R_aldk_RD 8 dX8_dirtStatement_35 hm rfl (by decide) ?_
      refine J_imul dX8_dirtStatement_36 ?_
      refine J_iadd dX8_dirtStatement_37 ?_
      refine V_istore_n dX8_dirtStatement_38 (Nat.le_of_ble_eq_true rfl) ?_
      refine V_aload_n dX8_dirtStatement_39 rfl ?_
      refine V_get dX8_dirtStatement_40 fX8_16 hm.1 rfl ?_
      refine V_iload_n dX8_dirtStatement_43 rfl ?_
      refine V_aload_n dX8_dirtStatement_44 rfl ?_
      refine V_get dX8_dirtStatement_45 fX8_67 hm.1 rfl ?_
      refine R_astk_RD (9 + 2 * e) dX8_dirtStatement_48 hm (by omega) (by omega) (fun h hm => ?_)
      refine V_aload_n dX8_dirtStatement_49 rfl ?_
      refine J_iconst dX8_dirtStatement_50 ?_
      refine J_bipush dX8_dirtStatement_51 (by decide) ?_
      refine J_bipush dX8_dirtStatement_53 (by decide) ?_
      refine V_callV (Y' := YX8_isNumber) dX8_dirtStatement_55 lX8_78 gX8_isNumber (m8_isNumber hT hl (by omega) (by omega) hm) hm.1 rfl rfl rfl (Nat.le_of_ble_eq_true rfl) ⟨Nat.zero_le _, Nat.zero_le _⟩ (fun v h1 sz1 hq => ?_)
      obtain ⟨t55, rfl, ht55, rfl, hm⟩ := hq
      have tr55 : t55 = 1 ∨ t55 = 0 := ht55.imp (fun q => q.1) (fun q => q.1)
      refine J_if_ne (tgt := 63) dX8_dirtStatement_58 (by decide) (by omega) (fun c58 => ?_) (fun c58 => ?_)
      · refine V_aload_n dX8_dirtStatement_63 rfl ?_
        refine V_get dX8_dirtStatement_64 fX8_16 hm.1 rfl ?_
        refine V_iload_n dX8_dirtStatement_67 rfl ?_
        refine J_iconst dX8_dirtStatement_68 ?_
        refine J_iadd dX8_dirtStatement_69 ?_
        refine V_aload_n dX8_dirtStatement_70 rfl ?_
        refine V_get dX8_dirtStatement_71 fX8_67 hm.1 rfl ?_
        refine R_astk_RD (10 + 2 * e) dX8_dirtStatement_74 hm (by omega) (by omega) (fun h hm => ?_)
        refine V_aload_n dX8_dirtStatement_75 rfl ?_
        refine V_get dX8_dirtStatement_76 fX8_16 hm.1 rfl ?_
        refine J_bipush dX8_dirtStatement_79 (by decide) ?_
        refine V_dup2 dX8_dirtStatement_81 rfl rfl ?_
        refine R_aldk_RD 8 dX8_dirtStatement_82 hm rfl (by decide) ?_
        have e2 : va_up (va_up RD (9 + 2 * e) (nmN T l sp)) (10 + 2 * e) (nmN T l (nmS T l sp)) 8 = RD 8 := (if_neg (by omega)).trans (if_neg (by omega))
        rw [e2]
        refine J_iconst dX8_dirtStatement_83 ?_
        refine J_iadd dX8_dirtStatement_84 ?_
        refine R_astk_RD 8 dX8_dirtStatement_85 hm rfl (by decide) (fun h hm => ?_)
        refine J_iconst dX8_dirtStatement_86 ?_
        exact V_iret dX8_dirtStatement_87 rfl rfl ⟨Nat.zero_le _, Nat.zero_le _⟩ ⟨rfl, _, rfl, Or.inl ⟨rfl, ⟨(ht7.elim (fun q => q.2) (fun q => absurd q.1 (by omega))), by omega, (ht55.elim (fun q => q.2) (fun q => absurd q.1 (by omega)))⟩, _, hm.eRD (fun j hj => by unfold adR; rw [he, Int.toNat_natCast])⟩⟩
      · refine J_iconst dX8_dirtStatement_61 ?_
        exact V_iret dX8_dirtStatement_62 rfl rfl ⟨Nat.zero_le _, Nat.zero_le _⟩ ⟨rfl, _, rfl, Or.inr ⟨rfl, fun q => absurd q.2.2 (ht55.elim (fun q => absurd q.1 (by omega)) (fun q => q.2)), _, _, _, hm⟩⟩
    · refine J_iconst dX8_dirtStatement_24 ?_
      exact V_iret dX8_dirtStatement_25 rfl rfl ⟨Nat.zero_le _, Nat.zero_le _⟩ ⟨rfl, _, rfl, Or.inr ⟨rfl, fun q => by first | exact absurd q.1 (ht7.elim (fun q => absurd q.1 (by omega)) (fun q => q.2)) | exact q.2.1 (by omega), _, _, _, hm⟩⟩
theorem st_def {x : Int} (h : ¬ (x < 100 ∨ 114 < x)) (h2 : ¬ x = 112 ∧ ¬ x = 105 ∧ ¬ x = 109 ∧ ¬ x = 114 ∧ ¬ x = 100) : (#[270, 275, 275, 275, 275, 110, 275, 275, 275, 163, 275, 275, 76, 275, 196] : Array Int)[(x - 100).toNat]? = some 275 := by
  obtain ⟨k, rfl, hk⟩ : ∃ k : Nat, x = 100 + k ∧ k < 15 := ⟨(x - 100).toNat, by omega, by omega⟩
  rw [show (100 + (k : Int) - 100).toNat = k by omega]
  match k, hk with
  | 0, _ => omega
  | 1, _ => rfl
  | 2, _ => rfl
  | 3, _ => rfl
  | 4, _ => rfl
  | 5, _ => omega
  | 6, _ => rfl
  | 7, _ => rfl
  | 8, _ => rfl
  | 9, _ => omega
  | 10, _ => rfl
  | 11, _ => rfl
  | 12, _ => omega
  | 13, _ => rfl
  | 14, _ => omega
set_option maxHeartbeats 4000000 in
set_option maxRecDepth 100000 in
theorem m8_statement {z : ZG} {d sz r n s : Nat} {g h : AH} {l sp nu rs rm sc mk km : Int} {T RA RD MA NW SD KP : Nat → Int} (hT : ∀ j, j < 200 → 0 ≤ T j ∧ T j ≤ 126) (hl : 0 ≤ l ∧ l ≤ 200) (h8 : 0 ≤ RD 8 ∧ RD 8 ≤ 4) (hrm : 0 ≤ rm ∧ rm ≤ 6) (hra : ∀ j : Nat, j < 6 → 0 ≤ RA j ∧ RA j ≤ 9999) (hsp : 0 ≤ sp ∧ sp ≤ 900) (hm : MS g r n s l sp nu rs rm sc mk km T RA RD MA NW SD KP h) : M z YX8_statement (d + 3) 0 0 [.ref r] h sz (fun w h' sz' => sz' = sz ∧ ∃ t : Int, w = some (.int (I t)) ∧ ((t = 1 ∧ ∃ u : RO, stF T l sp rs rm RA RD = some u ∧ ∃ nu2 : Int, MS g r n s l u.1 nu2 u.2.1 u.2.2.1 sc mk km T u.2.2.2.1 u.2.2.2.2 MA NW SD KP h') ∨ (t = 0 ∧ stF T l sp rs rm RA RD = none ∧ ∃ (sp2 nu2 : Int) (RD2 : Nat → Int), MS g r n s l sp2 nu2 rs rm sc mk km T RA RD2 MA NW SD KP h'))) := by
  refine M.of (by decide +kernel) (Nat.le_of_ble_eq_true rfl) ?_
  have hlr := lh_rg (l := l) (sp := sp) hT (by omega)
  have hn1 := nm_rg (T := T) (l := l) (sp := sp + 1)
  have hn2 := nm_rg (T := T) (l := l) (sp := nmS T l (sp + 1))
  have hLI : (I (lh T l sp)).toInt = lh T l sp := I_toInt (by omega)
  refine V_aload_n dX8_statement_0 rfl ?_
  refine V_callV (Y' := YX8_letterHere) dX8_statement_1 lX8_70 gX8_letterHere (m8_letterHere hm hl (by omega)) hm.1 rfl rfl rfl (Nat.le_of_ble_eq_true rfl) ⟨Nat.zero_le _, Nat.zero_le _⟩ (fun v h1 sz1 hq => ?_)
  obtain ⟨rfl, rfl, rfl⟩ := hq
  refine V_istore_n dX8_statement_4 (Nat.le_of_ble_eq_true rfl) ?_
  refine V_aload_n dX8_statement_5 rfl ?_
  refine V_dup dX8_statement_6 rfl ?_
  refine V_get dX8_statement_7 fX8_64 hm.1 rfl ?_
  refine J_iconst dX8_statement_10 ?_
  refine J_iadd dX8_statement_11 ?_
  refine R_put_2 dX8_statement_12 fX8_64 hm (fun h hm => ?_)
  refine V_iload_n dX8_statement_15 rfl ?_
  by_cases k112 : lh T l sp = 112
  · refine V_tableIn (tgt := 92) (off := 76) dX8_statement_16 (by rw [hLI]; omega) (by rw [hLI]; omega) (by rw [hLI, k112]; rfl) (by decide) ?_
    refine V_aload_n dX8_statement_92 rfl ?_
    refine J_bipush dX8_statement_93 (by decide) ?_
    refine J_bipush dX8_statement_95 (by decide) ?_
    refine J_bipush dX8_statement_97 (by decide) ?_
    refine V_callV (Y' := YX8_isNumber) dX8_statement_99 lX8_78 gX8_isNumber (m8_isNumber hT hl (by omega) (by omega) hm) hm.1 rfl rfl rfl (Nat.le_of_ble_eq_true rfl) ⟨Nat.zero_le _, Nat.zero_le _⟩ (fun v h1 sz1 hq => ?_)
    obtain ⟨t99, rfl, ht99, rfl, hm⟩ := hq
    have tr99 : t99 = 1 ∨ t99 = 0 := ht99.imp (fun q => q.1) (fun q => q.1)
    refine J_if_eq (tgt := 114) dX8_statement_102 (by decide) (by omega) (fun c102 => ?_) (fun c102 => ?_)
    · refine J_iconst dX8_statement_114 ?_
      exact V_iret dX8_statement_115 rfl rfl ⟨Nat.zero_le _, Nat.zero_le _⟩ ⟨rfl, _, rfl, Or.inr ⟨rfl, by unfold stF;  rw [cIf_p (show lh T l sp = 112 by omega)];  exact cIf_n (fun q => by first | exact absurd q.1 (ht99.elim (fun q => absurd q.1 (by omega)) (fun q => q.2)) | (have := q.2; omega)), _, _, _, hm⟩⟩
    · refine V_aload_n dX8_statement_105 rfl ?_
      refine V_get dX8_statement_106 fX8_67 hm.1 rfl ?_
      refine J_iconst dX8_statement_109 ?_
      refine J_irem dX8_statement_110 (by omega) (by omega) ?_
      refine J_if_eq (tgt := 116) dX8_statement_111 (by decide) (by omega) (fun c111 => ?_) (fun c111 => ?_)
      · refine V_aload_n dX8_statement_116 rfl ?_
        refine V_aload_n dX8_statement_117 rfl ?_
        refine V_get dX8_statement_118 fX8_67 hm.1 rfl ?_
        refine R_put_4 dX8_statement_121 fX8_34 hm (fun h hm => ?_)
        refine J_iconst dX8_statement_124 ?_
        exact V_iret dX8_statement_125 rfl rfl ⟨Nat.zero_le _, Nat.zero_le _⟩ ⟨rfl, _, rfl, Or.inl ⟨rfl, _, by unfold stF;  rw [cIf_p (show lh T l sp = 112 by omega)];  exact cIf_p ⟨(ht99.elim (fun q => q.2) (fun q => absurd q.1 (by omega))), by omega⟩, _, hm⟩⟩
      · refine J_iconst dX8_statement_114 ?_
        exact V_iret dX8_statement_115 rfl rfl ⟨Nat.zero_le _, Nat.zero_le _⟩ ⟨rfl, _, rfl, Or.inr ⟨rfl, by unfold stF;  rw [cIf_p (show lh T l sp = 112 by omega)];  exact cIf_n (fun q => by first | exact absurd q.1 (ht99.elim (fun q => absurd q.1 (by omega)) (fun q => q.2)) | (have := q.2; omega)), _, _, _, hm⟩⟩
  by_cases k105 : lh T l sp = 105
  · refine V_tableIn (tgt := 126) (off := 110) dX8_statement_16 (by rw [hLI]; omega) (by rw [hLI]; omega) (by rw [hLI, k105]; rfl) (by decide) ?_
    refine V_aload_n dX8_statement_126 rfl ?_
    refine J_bipush dX8_statement_127 (by decide) ?_
    refine J_bipush dX8_statement_129 (by decide) ?_
    refine J_bipush dX8_statement_131 (by decide) ?_
    refine V_callV (Y' := YX8_isNumber) dX8_statement_133 lX8_78 gX8_isNumber (m8_isNumber hT hl (by omega) (by omega) hm) hm.1 rfl rfl rfl (Nat.le_of_ble_eq_true rfl) ⟨Nat.zero_le _, Nat.zero_le _⟩ (fun v h1 sz1 hq => ?_)
    obtain ⟨t133, rfl, ht133, rfl, hm⟩ := hq
    have tr133 : t133 = 1 ∨ t133 = 0 := ht133.imp (fun q => q.1) (fun q => q.1)
    refine J_if_ne (tgt := 141) dX8_statement_136 (by decide) (by omega) (fun c136 => ?_) (fun c136 => ?_)
    · refine V_aload_n dX8_statement_141 rfl ?_
      refine V_get dX8_statement_142 fX8_16 hm.1 rfl ?_
      refine J_bipush dX8_statement_145 (by decide) ?_
      refine V_aload_n dX8_statement_147 rfl ?_
      refine V_get dX8_statement_148 fX8_67 hm.1 rfl ?_
      refine R_astk_RD 6 dX8_statement_151 hm rfl (by decide) (fun h hm => ?_)
      refine V_aload_n dX8_statement_152 rfl ?_
      refine J_iconst dX8_statement_153 ?_
      refine J_bipush dX8_statement_154 (by decide) ?_
      refine J_bipush dX8_statement_156 (by decide) ?_
      refine V_callV (Y' := YX8_isNumber) dX8_statement_158 lX8_78 gX8_isNumber (m8_isNumber hT hl (by omega) (by omega) hm) hm.1 rfl rfl rfl (Nat.le_of_ble_eq_true rfl) ⟨Nat.zero_le _, Nat.zero_le _⟩ (fun v h1 sz1 hq => ?_)
      obtain ⟨t158, rfl, ht158, rfl, hm⟩ := hq
      have tr158 : t158 = 1 ∨ t158 = 0 := ht158.imp (fun q => q.1) (fun q => q.1)
      refine J_if_ne (tgt := 166) dX8_statement_161 (by decide) (by omega) (fun c161 => ?_) (fun c161 => ?_)
      · refine V_aload_n dX8_statement_166 rfl ?_
        refine V_get dX8_statement_167 fX8_16 hm.1 rfl ?_
        refine J_bipush dX8_statement_170 (by decide) ?_
        refine V_aload_n dX8_statement_172 rfl ?_
        refine V_get dX8_statement_173 fX8_67 hm.1 rfl ?_
        refine R_astk_RD 7 dX8_statement_176 hm rfl (by decide) (fun h hm => ?_)
        refine J_iconst dX8_statement_177 ?_
        exact V_iret dX8_statement_178 rfl rfl ⟨Nat.zero_le _, Nat.zero_le _⟩ ⟨rfl, _, rfl, Or.inl ⟨rfl, _, by unfold stF; rw [cIf_n (show ¬ lh T l sp = 112 by omega)]; rw [cIf_p (show lh T l sp = 105 by omega)];  exact cIf_p ⟨(ht133.elim (fun q => q.2) (fun q => absurd q.1 (by omega))), (ht158.elim (fun q => q.2) (fun q => absurd q.1 (by omega)))⟩, _, hm⟩⟩
      · refine J_iconst dX8_statement_164 ?_
        exact V_iret dX8_statement_165 rfl rfl ⟨Nat.zero_le _, Nat.zero_le _⟩ ⟨rfl, _, rfl, Or.inr ⟨rfl, by unfold stF; rw [cIf_n (show ¬ lh T l sp = 112 by omega)]; rw [cIf_p (show lh T l sp = 105 by omega)];  exact cIf_n (fun q => absurd q.2 (ht158.elim (fun q => absurd q.1 (by omega)) (fun q => q.2))), _, _, _, hm⟩⟩
    · refine J_iconst dX8_statement_139 ?_
      exact V_iret dX8_statement_140 rfl rfl ⟨Nat.zero_le _, Nat.zero_le _⟩ ⟨rfl, _, rfl, Or.inr ⟨rfl, by unfold stF; rw [cIf_n (show ¬ lh T l sp = 112 by omega)]; rw [cIf_p (show lh T l sp = 105 by omega)];  exact cIf_n (fun q => absurd q.1 (ht133.elim (fun q => absurd q.1 (by omega)) (fun q => q.2))), _, _, _, hm⟩⟩
  by_cases k109 : lh T l sp = 109
  · refine V_tableIn (tgt := 179) (off := 163) dX8_statement_16 (by rw [hLI]; omega) (by rw [hLI]; omega) (by rw [hLI, k109]; rfl) (by decide) ?_
    refine V_aload_n dX8_statement_179 rfl ?_
    refine J_iconst dX8_statement_180 ?_
    refine J_iconst dX8_statement_181 ?_
    refine J_bipush dX8_statement_182 (by decide) ?_
    refine V_callV (Y' := YX8_isNumber) dX8_statement_184 lX8_78 gX8_isNumber (m8_isNumber hT hl (by omega) (by omega) hm) hm.1 rfl rfl rfl (Nat.le_of_ble_eq_true rfl) ⟨Nat.zero_le _, Nat.zero_le _⟩ (fun v h1 sz1 hq => ?_)
    obtain ⟨t184, rfl, ht184, rfl, hm⟩ := hq
    have tr184 : t184 = 1 ∨ t184 = 0 := ht184.imp (fun q => q.1) (fun q => q.1)
    refine J_if_eq (tgt := 198) dX8_statement_187 (by decide) (by omega) (fun c187 => ?_) (fun c187 => ?_)
    · refine J_iconst dX8_statement_198 ?_
      exact V_iret dX8_statement_199 rfl rfl ⟨Nat.zero_le _, Nat.zero_le _⟩ ⟨rfl, _, rfl, Or.inr ⟨rfl, by unfold stF; rw [cIf_n (show ¬ lh T l sp = 112 by omega)]; rw [cIf_n (show ¬ lh T l sp = 105 by omega)]; rw [cIf_p (show lh T l sp = 109 by omega)];  exact cIf_n (fun q => by first | exact absurd q.1 (ht184.elim (fun q => absurd q.1 (by omega)) (fun q => q.2)) | exact q.2 (by omega)), _, _, _, hm⟩⟩
    · refine V_aload_n dX8_statement_190 rfl ?_
      refine V_get dX8_statement_191 fX8_67 hm.1 rfl ?_
      refine J_iconst dX8_statement_194 ?_
      refine J_icmp_ne (tgt := 200) dX8_statement_195 (by decide) (by omega) (by omega) (fun c195 => ?_) (fun c195 => ?_)
      · refine V_aload_n dX8_statement_200 rfl ?_
        refine V_get dX8_statement_201 fX8_16 hm.1 rfl ?_
        refine J_iconst dX8_statement_204 ?_
        refine V_aload_n dX8_statement_205 rfl ?_
        refine V_get dX8_statement_206 fX8_67 hm.1 rfl ?_
        refine R_astk_RD 5 dX8_statement_209 hm rfl (by decide) (fun h hm => ?_)
        refine J_iconst dX8_statement_210 ?_
        exact V_iret dX8_statement_211 rfl rfl ⟨Nat.zero_le _, Nat.zero_le _⟩ ⟨rfl, _, rfl, Or.inl ⟨rfl, _, by unfold stF; rw [cIf_n (show ¬ lh T l sp = 112 by omega)]; rw [cIf_n (show ¬ lh T l sp = 105 by omega)]; rw [cIf_p (show lh T l sp = 109 by omega)];  exact cIf_p ⟨(ht184.elim (fun q => q.2) (fun q => absurd q.1 (by omega))), by omega⟩, _, hm⟩⟩
      · refine J_iconst dX8_statement_198 ?_
        exact V_iret dX8_statement_199 rfl rfl ⟨Nat.zero_le _, Nat.zero_le _⟩ ⟨rfl, _, rfl, Or.inr ⟨rfl, by unfold stF; rw [cIf_n (show ¬ lh T l sp = 112 by omega)]; rw [cIf_n (show ¬ lh T l sp = 105 by omega)]; rw [cIf_p (show lh T l sp = 109 by omega)];  exact cIf_n (fun q => by first | exact absurd q.1 (ht184.elim (fun q => absurd q.1 (by omega)) (fun q => q.2)) | exact q.2 (by omega)), _, _, _, hm⟩⟩
  by_cases k114 : lh T l sp = 114
  · refine V_tableIn (tgt := 212) (off := 196) dX8_statement_16 (by rw [hLI]; omega) (by rw [hLI]; omega) (by rw [hLI, k114]; rfl) (by decide) ?_
    refine V_aload_n dX8_statement_212 rfl ?_
    refine J_iconst dX8_statement_213 ?_
    refine J_sipush dX8_statement_214 (by decide) ?_
    refine J_bipush dX8_statement_217 (by decide) ?_
    refine V_callV (Y' := YX8_isNumber) dX8_statement_219 lX8_78 gX8_isNumber (m8_isNumber hT hl (by omega) (by omega) hm) hm.1 rfl rfl rfl (Nat.le_of_ble_eq_true rfl) ⟨Nat.zero_le _, Nat.zero_le _⟩ (fun v h1 sz1 hq => ?_)
    obtain ⟨t219, rfl, ht219, rfl, hm⟩ := hq
    have tr219 : t219 = 1 ∨ t219 = 0 := ht219.imp (fun q => q.1) (fun q => q.1)
    refine J_if_eq (tgt := 259) dX8_statement_222 (by decide) (by omega) (fun c222 => ?_) (fun c222 => ?_)
    · refine J_iconst dX8_statement_259 ?_
      exact V_iret dX8_statement_260 rfl rfl ⟨Nat.zero_le _, Nat.zero_le _⟩ ⟨rfl, _, rfl, Or.inr ⟨rfl, by unfold stF; rw [cIf_n (show ¬ lh T l sp = 112 by omega)]; rw [cIf_n (show ¬ lh T l sp = 105 by omega)]; rw [cIf_n (show ¬ lh T l sp = 109 by omega)]; rw [cIf_p (show lh T l sp = 114 by omega)];  exact cIf_n (fun q => by first | exact absurd q.1 (ht219.elim (fun q => absurd q.1 (by omega)) (fun q => q.2)) | exact q.2.1 (by omega) | exact q.2.2 ⟨by omega, by omega⟩), _, _, _, hm⟩⟩
    · refine V_aload_n dX8_statement_225 rfl ?_
      refine V_get dX8_statement_226 fX8_38 hm.1 rfl ?_
      refine J_bipush dX8_statement_229 (by decide) ?_
      refine J_icmp_eq (tgt := 259) dX8_statement_231 (by decide) (by omega) (by omega) (fun c231 => ?_) (fun c231 => ?_)
      · refine J_iconst dX8_statement_259 ?_
        exact V_iret dX8_statement_260 rfl rfl ⟨Nat.zero_le _, Nat.zero_le _⟩ ⟨rfl, _, rfl, Or.inr ⟨rfl, by unfold stF; rw [cIf_n (show ¬ lh T l sp = 112 by omega)]; rw [cIf_n (show ¬ lh T l sp = 105 by omega)]; rw [cIf_n (show ¬ lh T l sp = 109 by omega)]; rw [cIf_p (show lh T l sp = 114 by omega)];  exact cIf_n (fun q => by first | exact absurd q.1 (ht219.elim (fun q => absurd q.1 (by omega)) (fun q => q.2)) | exact q.2.1 (by omega) | exact q.2.2 ⟨by omega, by omega⟩), _, _, _, hm⟩⟩
      · refine V_aload_n dX8_statement_234 rfl ?_
        refine V_get dX8_statement_235 fX8_38 hm.1 rfl ?_
        refine J_if_le (tgt := 261) dX8_statement_238 (by decide) (by omega) (fun c238 => ?_) (fun c238 => ?_)
        · refine V_aload_n dX8_statement_261 rfl ?_
          refine V_get dX8_statement_262 fX8_13 hm.1 rfl ?_
          refine V_aload_n dX8_statement_265 rfl ?_
          refine V_get dX8_statement_266 fX8_38 hm.1 rfl ?_
          refine V_aload_n dX8_statement_269 rfl ?_
          refine V_get dX8_statement_270 fX8_67 hm.1 rfl ?_
          refine R_astk_RA rm.toNat dX8_statement_273 hm (by omega) (by omega) (fun h hm => ?_)
          refine V_aload_n dX8_statement_274 rfl ?_
          refine V_dup dX8_statement_275 rfl ?_
          refine V_get dX8_statement_276 fX8_38 hm.1 rfl ?_
          refine J_iconst dX8_statement_279 ?_
          refine J_iadd dX8_statement_280 ?_
          refine R_put_5 dX8_statement_281 fX8_38 hm (fun h hm => ?_)
          refine J_iconst dX8_statement_284 ?_
          exact V_iret dX8_statement_285 rfl rfl ⟨Nat.zero_le _, Nat.zero_le _⟩ ⟨rfl, _, rfl, Or.inl ⟨rfl, _, by unfold stF; rw [cIf_n (show ¬ lh T l sp = 112 by omega)]; rw [cIf_n (show ¬ lh T l sp = 105 by omega)]; rw [cIf_n (show ¬ lh T l sp = 109 by omega)]; rw [cIf_p (show lh T l sp = 114 by omega)];  exact cIf_p ⟨(ht219.elim (fun q => q.2) (fun q => absurd q.1 (by omega))), by omega, fun w => by omega⟩, _, hm⟩⟩
        · refine V_aload_n dX8_statement_241 rfl ?_
          refine V_get dX8_statement_242 fX8_67 hm.1 rfl ?_
          refine V_aload_n dX8_statement_245 rfl ?_
          refine V_get dX8_statement_246 fX8_13 hm.1 rfl ?_
          refine V_aload_n dX8_statement_249 rfl ?_
          refine V_get dX8_statement_250 fX8_38 hm.1 rfl ?_
          refine J_iconst dX8_statement_253 ?_
          refine J_isub dX8_statement_254 ?_
          refine R_ald_RA dX8_statement_255 hm (by omega) ?_
          have hra1 := hra (rm - 1).toNat (by omega)
          refine J_icmp_gt (tgt := 261) dX8_statement_256 (by decide) (by omega) (by omega) (fun c256 => ?_) (fun c256 => ?_)
          · refine V_aload_n dX8_statement_261 rfl ?_
            refine V_get dX8_statement_262 fX8_13 hm.1 rfl ?_
            refine V_aload_n dX8_statement_265 rfl ?_
            refine V_get dX8_statement_266 fX8_38 hm.1 rfl ?_
            refine V_aload_n dX8_statement_269 rfl ?_
            refine V_get dX8_statement_270 fX8_67 hm.1 rfl ?_
            refine R_astk_RA rm.toNat dX8_statement_273 hm (by omega) (by omega) (fun h hm => ?_)
            refine V_aload_n dX8_statement_274 rfl ?_
            refine V_dup dX8_statement_275 rfl ?_
            refine V_get dX8_statement_276 fX8_38 hm.1 rfl ?_
            refine J_iconst dX8_statement_279 ?_
            refine J_iadd dX8_statement_280 ?_
            refine R_put_5 dX8_statement_281 fX8_38 hm (fun h hm => ?_)
            refine J_iconst dX8_statement_284 ?_
            exact V_iret dX8_statement_285 rfl rfl ⟨Nat.zero_le _, Nat.zero_le _⟩ ⟨rfl, _, rfl, Or.inl ⟨rfl, _, by unfold stF; rw [cIf_n (show ¬ lh T l sp = 112 by omega)]; rw [cIf_n (show ¬ lh T l sp = 105 by omega)]; rw [cIf_n (show ¬ lh T l sp = 109 by omega)]; rw [cIf_p (show lh T l sp = 114 by omega)];  exact cIf_p ⟨(ht219.elim (fun q => q.2) (fun q => absurd q.1 (by omega))), by omega, fun w => by omega⟩, _, hm⟩⟩
          · refine J_iconst dX8_statement_259 ?_
            exact V_iret dX8_statement_260 rfl rfl ⟨Nat.zero_le _, Nat.zero_le _⟩ ⟨rfl, _, rfl, Or.inr ⟨rfl, by unfold stF; rw [cIf_n (show ¬ lh T l sp = 112 by omega)]; rw [cIf_n (show ¬ lh T l sp = 105 by omega)]; rw [cIf_n (show ¬ lh T l sp = 109 by omega)]; rw [cIf_p (show lh T l sp = 114 by omega)];  exact cIf_n (fun q => by first | exact absurd q.1 (ht219.elim (fun q => absurd q.1 (by omega)) (fun q => q.2)) | exact q.2.1 (by omega) | exact q.2.2 ⟨by omega, by omega⟩), _, _, _, hm⟩⟩
  by_cases k100 : lh T l sp = 100
  · refine V_tableIn (tgt := 286) (off := 270) dX8_statement_16 (by rw [hLI]; omega) (by rw [hLI]; omega) (by rw [hLI, k100]; rfl) (by decide) ?_
    refine V_aload_n dX8_statement_286 rfl ?_
    refine V_callV (Y' := YX8_dirtStatement) dX8_statement_287 lX8_82 gX8_dirtStatement (m8_dirtStatement hT hl h8 (by omega) hm) hm.1 rfl rfl rfl (Nat.le_of_ble_eq_true rfl) ⟨Nat.zero_le _, Nat.zero_le _⟩ (fun v h1 sz1 hq => ?_)
    obtain ⟨rfl, t, rfl, ht⟩ := hq
    rcases ht with ⟨rfl, hc, nu2, hm⟩ | ⟨rfl, hc, sp2, nu2, RD2, hm⟩
    · exact V_iret dX8_statement_290 rfl rfl ⟨Nat.zero_le _, Nat.zero_le _⟩ ⟨rfl, _, rfl, Or.inl ⟨rfl, _, by unfold stF; rw [cIf_n (show ¬ lh T l sp = 112 by omega)]; rw [cIf_n (show ¬ lh T l sp = 105 by omega)]; rw [cIf_n (show ¬ lh T l sp = 109 by omega)]; rw [cIf_n (show ¬ lh T l sp = 114 by omega)]; rw [cIf_p (show lh T l sp = 100 by omega)];  exact cIf_p hc, _, hm⟩⟩
    · exact V_iret dX8_statement_290 rfl rfl ⟨Nat.zero_le _, Nat.zero_le _⟩ ⟨rfl, _, rfl, Or.inr ⟨rfl, by unfold stF; rw [cIf_n (show ¬ lh T l sp = 112 by omega)]; rw [cIf_n (show ¬ lh T l sp = 105 by omega)]; rw [cIf_n (show ¬ lh T l sp = 109 by omega)]; rw [cIf_n (show ¬ lh T l sp = 114 by omega)]; rw [cIf_p (show lh T l sp = 100 by omega)];  exact cIf_n hc, _, _, _, hm⟩⟩
  by_cases kr : lh T l sp < 100 ∨ 114 < lh T l sp
  · refine V_tableOut (tgt := 291) dX8_statement_16 (by rw [hLI]; omega) (by decide) ?_
    refine J_iconst dX8_statement_291 ?_
    exact V_iret dX8_statement_292 rfl rfl ⟨Nat.zero_le _, Nat.zero_le _⟩ ⟨rfl, _, rfl, Or.inr ⟨rfl, by unfold stF; rw [cIf_n (show ¬ lh T l sp = 112 by omega)]; rw [cIf_n (show ¬ lh T l sp = 105 by omega)]; rw [cIf_n (show ¬ lh T l sp = 109 by omega)]; rw [cIf_n (show ¬ lh T l sp = 114 by omega)]; rw [cIf_n (show ¬ lh T l sp = 100 by omega)], _, _, _, hm⟩⟩
  · refine V_tableIn (tgt := 291) (off := 275) dX8_statement_16 (by rw [hLI]; omega) (by rw [hLI]; omega) (by rw [hLI]; exact st_def (by omega) (by omega)) (by decide) ?_
    refine J_iconst dX8_statement_291 ?_
    exact V_iret dX8_statement_292 rfl rfl ⟨Nat.zero_le _, Nat.zero_le _⟩ ⟨rfl, _, rfl, Or.inr ⟨rfl, by unfold stF; rw [cIf_n (show ¬ lh T l sp = 112 by omega)]; rw [cIf_n (show ¬ lh T l sp = 105 by omega)]; rw [cIf_n (show ¬ lh T l sp = 109 by omega)]; rw [cIf_n (show ¬ lh T l sp = 114 by omega)]; rw [cIf_n (show ¬ lh T l sp = 100 by omega)], _, _, _, hm⟩⟩
/-- the whole text from a spot on: where the first invalid statement begins, or -4; and what was read -/
noncomputable def rdF (T : Nat → Int) (l : Int) : Nat → RO → Int × RO
  | 0, u => (-4, u)
  | f + 1, u => if u.1 < l then (match stF T l u.1 u.2.1 u.2.2.1 u.2.2.2.1 u.2.2.2.2 with
    | none => (u.1, u)
    | some v => rdF T l f v) else (-4, u)
theorem rdF_s {T : Nat → Int} {l : Int} {f : Nat} {u : RO} : rdF T l (f + 1) u = if u.1 < l then (match stF T l u.1 u.2.1 u.2.2.1 u.2.2.2.1 u.2.2.2.2 with
    | none => (u.1, u)
    | some v => rdF T l f v) else (-4, u) := rfl
/-- what was read is in order -/
def roK (u : RO) : Prop := (u.2.1 = 0 ∨ (8 ≤ u.2.1 ∧ u.2.1 ≤ 80)) ∧ (0 ≤ u.2.2.1 ∧ u.2.2.1 ≤ 6) ∧ (∀ j : Nat, j < 6 → 0 ≤ u.2.2.2.1 j ∧ u.2.2.2.1 j ≤ 9999) ∧ rok u.2.2.2.2
theorem rok_put {N : Nat → Int} {k : Nat} {x : Int} (h : rok N) (hk : (k = 5 ∧ (x = 1 ∨ x = 2 ∨ x = 4)) ∨ (k = 6 ∧ 8 ≤ x ∧ x ≤ 80) ∨ (k = 7 ∧ 0 ≤ x ∧ x ≤ 79) ∨ (k = 17 ∧ 0 ≤ x ∧ x ≤ 8)) : rok (va_up N k x) := by
  obtain ⟨h0, h2, h5, h6, h7, h8, h17, hd, he⟩ := h
  have e : ∀ j, j ≠ k → va_up N k x j = N j := fun j hj => if_neg hj
  have e1 : va_up N k x k = x := if_pos rfl
  refine ⟨by rw [e 0 (by omega)]; exact h0, by rw [e 2 (by omega)]; exact h2, ?_, ?_, ?_, by rw [e 8 (by omega)]; exact h8, ?_, fun q hq => by rw [e _ (by omega), e _ (by omega)]; exact hd q hq, fun q hq => by rw [e _ (by omega)]; exact he q hq⟩
  · by_cases q : k = 5
    · subst q; rw [e1]; omega
    · rw [e 5 (by omega)]; exact h5
  · by_cases q : k = 6
    · subst q; rw [e1]; omega
    · rw [e 6 (by omega)]; exact h6
  · by_cases q : k = 7
    · subst q; rw [e1]; omega
    · rw [e 7 (by omega)]; exact h7
  · by_cases q : k = 17
    · subst q; rw [e1]; omega
    · rw [e 17 (by omega)]; exact h17
theorem rok_adR {N : Nat → Int} {k : Nat} {x y : Int} (h : rok N) (hk : k ≤ 3) (hx : 0 ≤ x ∧ x ≤ 9999) (hy : 1 ≤ y ∧ y ≤ 99) : rok (adR N k x y) := by
  obtain ⟨h0, h2, h5, h6, h7, h8, h17, hd, he⟩ := h
  have e : ∀ j, j ≠ 8 → j ≠ 9 + 2 * k → j ≠ 10 + 2 * k → adR N k x y j = N j := fun j a b c => (if_neg a).trans ((if_neg c).trans (if_neg b))
  refine ⟨by rw [e 0 (by omega) (by omega) (by omega)]; exact h0, by rw [e 2 (by omega) (by omega) (by omega)]; exact h2, by rw [e 5 (by omega) (by omega) (by omega)]; exact h5, by rw [e 6 (by omega) (by omega) (by omega)]; exact h6, by rw [e 7 (by omega) (by omega) (by omega)]; exact h7, ⟨by show 0 ≤ (k : Int) + 1; omega, by show (k : Int) + 1 ≤ 4; omega⟩, by rw [e 17 (by omega) (by omega) (by omega)]; exact h17, fun q hq => ?_, fun q hq => by rw [e _ (by omega) (by omega) (by omega)]; exact he q hq⟩
  by_cases c : q = k
  · subst c
    have a1 : adR N q x y (9 + 2 * q) = x := (if_neg (by omega)).trans ((if_neg (by omega)).trans (if_pos rfl))
    have a2 : adR N q x y (10 + 2 * q) = y := (if_neg (by omega)).trans (if_pos rfl)
    rw [a1, a2]; omega
  · rw [e _ (by omega) (by omega) (by omega), e _ (by omega) (by omega) (by omega)]; exact hd q hq
theorem stF_ok {T : Nat → Int} {l sp rs rm : Int} {RA RD : Nat → Int} {u : RO} (hk : roK (sp, rs, rm, RA, RD)) (h : stF T l sp rs rm RA RD = some u) : roK u ∧ sp + 2 ≤ u.1 ∧ u.1 ≤ sp + 11 := by
  obtain ⟨k1, k2, k3, k4⟩ := hk
  dsimp only at k1 k2 k3 k4
  have hn1 := nm_rg (T := T) (l := l) (sp := sp + 1)
  have hn2 := nm_rg (T := T) (l := l) (sp := nmS T l (sp + 1))
  unfold stF at h
  by_cases a : lh T l sp = 112
  · rw [cIf_p a] at h
    by_cases c : nmO T l (sp + 1) 8 80 59 ∧ nmN T l (sp + 1) % 4 = 0
    · rw [cIf_p c] at h; cases h
      have := c.1.2.1
      exact ⟨⟨Or.inr (by dsimp only; omega), k2, k3, k4⟩, by dsimp only; omega, by dsimp only; omega⟩
    · rw [cIf_n c] at h; cases h
  rw [cIf_n a] at h
  by_cases a : lh T l sp = 105
  · rw [cIf_p a] at h
    by_cases c : nmO T l (sp + 1) 8 80 44 ∧ nmO T l (nmS T l (sp + 1)) 0 79 59
    · rw [cIf_p c] at h; cases h
      have c1 := c.1.2.1
      have c2 := c.2.2.1
      exact ⟨⟨k1, k2, k3, rok_put (rok_put k4 (by omega)) (by omega)⟩, by dsimp only; omega, by dsimp only; omega⟩
    · rw [cIf_n c] at h; cases h
  rw [cIf_n a] at h
  by_cases a : lh T l sp = 109
  · rw [cIf_p a] at h
    by_cases c : nmO T l (sp + 1) 1 4 59 ∧ ¬ nmN T l (sp + 1) = 3
    · rw [cIf_p c] at h; cases h
      have c1 := c.1.2.1
      have c2 := c.2
      exact ⟨⟨k1, k2, k3, rok_put k4 (by omega)⟩, by dsimp only; omega, by dsimp only; omega⟩
    · rw [cIf_n c] at h; cases h
  rw [cIf_n a] at h
  by_cases a : lh T l sp = 114
  · rw [cIf_p a] at h
    by_cases c : nmO T l (sp + 1) 0 9999 59 ∧ ¬ rm = 6 ∧ ¬ (0 < rm ∧ nmN T l (sp + 1) ≤ RA (rm - 1).toNat)
    · rw [cIf_p c] at h; cases h
      have c1 := c.1.2.1
      have c2 := c.2.1
      refine ⟨⟨k1, by dsimp only; omega, fun j hj => ?_, k4⟩, by dsimp only; omega, by dsimp only; omega⟩
      dsimp only [va_up]
      split
      · omega
      · exact k3 j hj
    · rw [cIf_n c] at h; cases h
  rw [cIf_n a] at h
  by_cases a : lh T l sp = 100
  · rw [cIf_p a] at h
    by_cases c : nmO T l (sp + 1) 0 9999 44 ∧ ¬ RD 8 = 4 ∧ nmO T l (nmS T l (sp + 1)) 1 99 59
    · rw [cIf_p c] at h; cases h
      have c1 := c.1.2.1
      have c2 := c.2.2.2.1
      have c3 := c.2.1
      have h8 := k4.2.2.2.2.2.1
      exact ⟨⟨k1, k2, k3, rok_adR k4 (by omega) (by omega) (by omega)⟩, by dsimp only; omega, by dsimp only; omega⟩
    · rw [cIf_n c] at h; cases h
  rw [cIf_n a] at h
  cases h
theorem rok_rd0 : rok rd0 := by
  refine ⟨by decide, by decide, by decide, by decide, by decide, by decide, by decide, ?_, ?_⟩
  · intro k hk
    match k, hk with
    | 0, _ => decide
    | 1, _ => decide
    | 2, _ => decide
    | 3, _ => decide
  · intro k hk
    match k, hk with
    | 0, _ => decide
    | 1, _ => decide
    | 2, _ => decide
    | 3, _ => decide
    | 4, _ => decide
    | 5, _ => decide
    | 6, _ => decide
    | 7, _ => decide
set_option maxHeartbeats 4000000 in
set_option maxRecDepth 100000 in
theorem l8_readAll_9 {z : ZG} {d sz r n s : Nat} {g : AH} {l  sc mk km : Int} {T  MA NW SD KP : Nat → Int} (hT : ∀ j, j < 200 → 0 ≤ T j ∧ T j ≤ 126) (hl : 0 ≤ l ∧ l ≤ 200) : ∀ (f : Nat) (u : RO) (nu : Int) (h : AH) (o1 : Option Value), (0 ≤ u.1 ∧ u.1 ≤ 300) → 200 - u.1 < f → roK u → MS g r n s l u.1 nu u.2.1 u.2.2.1 sc mk km T u.2.2.2.1 u.2.2.2.2 MA NW SD KP h → V z YX8_readAll (zroom (d + 4) 0 0) (fun w h' sz' => sz' = sz ∧ w = some (.int (I (rdF T l f u).1)) ∧ (((rdF T l f u).1 = -4 ∧ roK (rdF T l f u).2 ∧ ∃ nu2 : Int, MS g r n s l (rdF T l f u).2.1 nu2 (rdF T l f u).2.2.1 (rdF T l f u).2.2.2.1 sc mk km T (rdF T l f u).2.2.2.2.1 (rdF T l f u).2.2.2.2.2 MA NW SD KP h') ∨ (¬ (rdF T l f u).1 = -4 ∧ ∃ (sp2 nu2 rs2 rm2 : Int) (RA2 RD2 : Nat → Int), (∀ j : Nat, j < 6 → 0 ≤ RA2 j ∧ RA2 j ≤ 9999) ∧ MS g r n s l sp2 nu2 rs2 rm2 sc mk km T RA2 RD2 MA NW SD KP h'))) 9 [some (.ref r), o1] [] h sz 0 0 := by
  intro f
  induction f with
  | zero => intro u nu h o1 h1 h2 hk hm; 
            refine V_aload_n dX8_readAll_9 rfl ?_
            refine V_get dX8_readAll_10 fX8_64 hm.1 rfl ?_
            refine V_aload_n dX8_readAll_13 rfl ?_
            refine V_get dX8_readAll_14 fX8_61 hm.1 rfl ?_
            refine J_icmp_ge (tgt := 37) dX8_readAll_17 (by decide) (by omega) (by omega) (fun c17 => ?_) (fun c17 => ?_)
            · refine J_bipush dX8_readAll_37 (by decide) ?_
              exact V_iret dX8_readAll_39 rfl rfl ⟨Nat.zero_le _, Nat.zero_le _⟩ ⟨rfl, rfl, Or.inl ⟨rfl, hk, _, hm⟩⟩
            · exfalso; omega
  | succ f ih =>
    intro u nu h o1 h1 h2 hk hm
    refine V_aload_n dX8_readAll_9 rfl ?_
    refine V_get dX8_readAll_10 fX8_64 hm.1 rfl ?_
    refine V_aload_n dX8_readAll_13 rfl ?_
    refine V_get dX8_readAll_14 fX8_61 hm.1 rfl ?_
    refine J_icmp_ge (tgt := 37) dX8_readAll_17 (by decide) (by omega) (by omega) (fun c17 => ?_) (fun c17 => ?_)
    · have e9 : rdF T l (f + 1) u = (-4, u) := by rw [rdF_s, if_neg (by omega)]
      rw [e9]
      refine J_bipush dX8_readAll_37 (by decide) ?_
      exact V_iret dX8_readAll_39 rfl rfl ⟨Nat.zero_le _, Nat.zero_le _⟩ ⟨rfl, rfl, Or.inl ⟨rfl, hk, _, hm⟩⟩
    · refine V_aload_n dX8_readAll_20 rfl ?_
      refine V_get dX8_readAll_21 fX8_64 hm.1 rfl ?_
      refine V_istore_n dX8_readAll_24 (Nat.le_of_ble_eq_true rfl) ?_
      refine V_aload_n dX8_readAll_25 rfl ?_
      refine V_callV (Y' := YX8_statement) dX8_readAll_26 lX8_86 gX8_statement (m8_statement hT hl hk.2.2.2.2.2.2.2.2.1 hk.2.1 hk.2.2.1 (by omega) hm) hm.1 rfl rfl rfl (Nat.le_of_ble_eq_true rfl) ⟨Nat.zero_le _, Nat.zero_le _⟩ (fun v h1 sz1 hq => ?_)
      obtain ⟨rfl, t, rfl, ht⟩ := hq
      have tr : t = 1 ∨ t = 0 := ht.imp (fun q => q.1) (fun q => q.1)
      refine J_if_ne (tgt := 34) dX8_readAll_29 (by decide) (by omega) (fun c29 => ?_) (fun c29 => ?_)
      · refine V_goto (tgt := 9) dX8_readAll_34 (by decide) ?_
        rcases ht with ⟨_, v, hv, nu2, hm⟩ | ⟨q, _⟩
        · have hok := stF_ok (u := v) hk hv
          have e9 : rdF T l (f + 1) u = rdF T l f v := by rw [rdF_s, if_pos (by omega), hv]
          rw [e9]
          exact ih v nu2 _ _ (by omega) (by omega) hok.1 hm
        · exfalso; omega
      · rcases ht with ⟨q, _⟩ | ⟨_, hv, sp2, nu2, RD2, hm⟩
        · exfalso; omega
        · have e9 : rdF T l (f + 1) u = (u.1, u) := by rw [rdF_s, if_pos (by omega), hv]
          rw [e9]
          refine V_iload_n dX8_readAll_32 rfl ?_
          exact V_iret dX8_readAll_33 rfl rfl ⟨Nat.zero_le _, Nat.zero_le _⟩ ⟨rfl, rfl, Or.inr ⟨by dsimp only; omega, _, _, _, _, _, _, hk.2.2.1, hm⟩⟩
set_option maxHeartbeats 4000000 in
set_option maxRecDepth 100000 in
theorem m8_readAll {z : ZG} {d sz r n s : Nat} {g h : AH} {l sp nu rs rm sc mk km : Int} {T RA RD MA NW SD KP : Nat → Int} (hT : ∀ j, j < 200 → 0 ≤ T j ∧ T j ≤ 126) (hl : 0 ≤ l ∧ l ≤ 200) (hra : ∀ j : Nat, j < 6 → 0 ≤ RA j ∧ RA j ≤ 9999) (hm : MS g r n s l sp nu rs rm sc mk km T RA RD MA NW SD KP h) : M z YX8_readAll (d + 4) 0 0 [.ref r] h sz (fun w h' sz' => sz' = sz ∧ w = some (.int (I (rdF T l 201 (0, 0, 0, RA, rd0)).1)) ∧ (((rdF T l 201 (0, 0, 0, RA, rd0)).1 = -4 ∧ roK (rdF T l 201 (0, 0, 0, RA, rd0)).2 ∧ ∃ nu2 : Int, MS g r n s l (rdF T l 201 (0, 0, 0, RA, rd0)).2.1 nu2 (rdF T l 201 (0, 0, 0, RA, rd0)).2.2.1 (rdF T l 201 (0, 0, 0, RA, rd0)).2.2.2.1 sc mk km T (rdF T l 201 (0, 0, 0, RA, rd0)).2.2.2.2.1 (rdF T l 201 (0, 0, 0, RA, rd0)).2.2.2.2.2 MA NW SD KP h') ∨ (¬ (rdF T l 201 (0, 0, 0, RA, rd0)).1 = -4 ∧ ∃ (sp2 nu2 rs2 rm2 : Int) (RA2 RD2 : Nat → Int), (∀ j : Nat, j < 6 → 0 ≤ RA2 j ∧ RA2 j ≤ 9999) ∧ MS g r n s l sp2 nu2 rs2 rm2 sc mk km T RA2 RD2 MA NW SD KP h'))) := by
  refine M.of (by decide +kernel) (Nat.le_of_ble_eq_true rfl) ?_
  refine V_aload_n dX8_readAll_0 rfl ?_
  refine V_callV (Y' := YX8_beginRead) dX8_readAll_1 lX8_31 gX8_beginRead (m8_beginRead hm) hm.1 rfl rfl rfl (Nat.le_of_ble_eq_true rfl) ⟨Nat.zero_le _, Nat.zero_le _⟩ (fun v h1 sz1 hq => ?_)
  obtain ⟨rfl, rfl, hm⟩ := hq
  refine V_aload_n dX8_readAll_4 rfl ?_
  refine J_iconst dX8_readAll_5 ?_
  refine R_put_2 dX8_readAll_6 fX8_64 hm (fun h hm => ?_)
  exact l8_readAll_9 hT hl 201 (0, 0, 0, RA, rd0) _ _ _ (by dsimp only; omega) (by dsimp only; omega) ⟨Or.inl rfl, by dsimp only; omega, hra, rok_rd0⟩ hm
set_option maxHeartbeats 4000000 in
set_option maxRecDepth 100000 in
theorem m8_firstError {z : ZG} {d sz r n s : Nat} {g h : AH} {l sp nu rs rm sc mk km : Int} {T RA RD MA NW SD KP : Nat → Int} (hT : ∀ j, j < 200 → 0 ≤ T j ∧ T j ≤ 126) (hl : 0 ≤ l ∧ l ≤ 200) (hra : ∀ j : Nat, j < 6 → 0 ≤ RA j ∧ RA j ≤ 9999) (hm : MS g r n s l sp nu rs rm sc mk km T RA RD MA NW SD KP h) : M z YX8_firstError (d + 5) 0 0 [.ref r] h sz (fun w h' sz' => sz' = sz ∧ w = some (.int (I (rdF T l 201 (0, 0, 0, RA, rd0)).1)) ∧ (((rdF T l 201 (0, 0, 0, RA, rd0)).1 = -4 ∧ roK (rdF T l 201 (0, 0, 0, RA, rd0)).2 ∧ ∃ nu2 : Int, MS g r n s l (rdF T l 201 (0, 0, 0, RA, rd0)).2.1 nu2 (rdF T l 201 (0, 0, 0, RA, rd0)).2.2.1 (rdF T l 201 (0, 0, 0, RA, rd0)).2.2.2.1 sc mk km T (rdF T l 201 (0, 0, 0, RA, rd0)).2.2.2.2.1 (rdF T l 201 (0, 0, 0, RA, rd0)).2.2.2.2.2 MA NW SD KP h') ∨ (¬ (rdF T l 201 (0, 0, 0, RA, rd0)).1 = -4 ∧ ∃ (sp2 nu2 rs2 rm2 : Int) (RA2 RD2 : Nat → Int), (∀ j : Nat, j < 6 → 0 ≤ RA2 j ∧ RA2 j ≤ 9999) ∧ MS g r n s l sp2 nu2 rs2 rm2 sc mk km T RA2 RD2 MA NW SD KP h'))) := by
  refine M.of (by decide +kernel) (Nat.le_of_ble_eq_true rfl) ?_
  refine V_aload_n dX8_firstError_0 rfl ?_
  refine V_callV (Y' := YX8_readAll) dX8_firstError_1 lX8_89 gX8_readAll (m8_readAll hT hl hra hm) hm.1 rfl rfl rfl (Nat.le_of_ble_eq_true rfl) ⟨Nat.zero_le _, Nat.zero_le _⟩ (fun v h1 sz1 hq => ?_)
  obtain ⟨rfl, rfl, hm⟩ := hq
  exact V_iret dX8_firstError_4 rfl rfl ⟨Nat.zero_le _, Nat.zero_le _⟩ ⟨rfl, rfl, hm⟩
theorem rdF_rg {T : Nat → Int} {l : Int} (hl : l ≤ 200) : ∀ (f : Nat) (u : RO), (0 ≤ u.1 ∧ u.1 ≤ 300) → roK u → -4 ≤ (rdF T l f u).1 ∧ (rdF T l f u).1 ≤ 200 := by
  intro f
  induction f with
  | zero => intro u h1 h2; exact ⟨Int.le_refl _, by show (-4 : Int) ≤ 200; omega⟩
  | succ f ih =>
    intro u h1 h2
    rw [rdF_s]
    by_cases a : u.1 < l
    · rw [if_pos a]
      cases e : stF T l u.1 u.2.1 u.2.2.1 u.2.2.2.1 u.2.2.2.2 with
      | none => exact ⟨by show -4 ≤ u.1; omega, by show u.1 ≤ 200; omega⟩
      | some v =>
        have := stF_ok (u := v) h2 e
        exact ih v (by omega) this.1
    · rw [if_neg a]; exact ⟨Int.le_refl _, by show (-4 : Int) ≤ 200; omega⟩
set_option maxHeartbeats 4000000 in
set_option maxRecDepth 100000 in
theorem m8_configure {z : ZG} {d sz r n s : Nat} {g h : AH} {l sp nu rs rm sc mk km : Int} {T RA RD MA NW SD KP : Nat → Int} (hT : ∀ j, j < 200 → 0 ≤ T j ∧ T j ≤ 126) (hl : 0 ≤ l ∧ l ≤ 200) (hra : ∀ j : Nat, j < 6 → 0 ≤ RA j ∧ RA j ≤ 9999) (hm : MS g r n s l sp nu rs rm sc mk km T RA RD MA NW SD KP h) : M z YX8_configure (d + 5) 0 0 [.ref r] h sz (fun w h' sz' => sz' = sz ∧ ((¬ ((rdF T l 201 (0, 0, 0, RA, rd0)).1 = -4 ∧ ¬ (rdF T l 201 (0, 0, 0, RA, rd0)).2.2.1 = 0) ∧ w = some (.int (I (-2))) ∧ ∃ (sp2 nu2 rs2 rm2 : Int) (RA2 RD2 : Nat → Int), (∀ j : Nat, j < 6 → 0 ≤ RA2 j ∧ RA2 j ≤ 9999) ∧ MS g r n s l sp2 nu2 rs2 rm2 sc mk km T RA2 RD2 MA NW SD KP h') ∨ (((rdF T l 201 (0, 0, 0, RA, rd0)).1 = -4 ∧ ¬ (rdF T l 201 (0, 0, 0, RA, rd0)).2.2.1 = 0) ∧ roK (rdF T l 201 (0, 0, 0, RA, rd0)).2 ∧ w = some (.int (I (rdF T l 201 (0, 0, 0, RA, rd0)).2.2.2.1)) ∧ ∃ nu2 : Int, MS g r n s l (rdF T l 201 (0, 0, 0, RA, rd0)).2.1 nu2 (rdF T l 201 (0, 0, 0, RA, rd0)).2.2.1 (rdF T l 201 (0, 0, 0, RA, rd0)).2.2.2.1 (rdF T l 201 (0, 0, 0, RA, rd0)).2.2.1 (rdF T l 201 (0, 0, 0, RA, rd0)).2.2.2.1 0 T (rdF T l 201 (0, 0, 0, RA, rd0)).2.2.2.2.1 (rdF T l 201 (0, 0, 0, RA, rd0)).2.2.2.2.2 (rdF T l 201 (0, 0, 0, RA, rd0)).2.2.2.2.1 (rdF T l 201 (0, 0, 0, RA, rd0)).2.2.2.2.2 SD KP h'))) := by
  refine M.of (by decide +kernel) (Nat.le_of_ble_eq_true rfl) ?_
  have hrg := rdF_rg (T := T) hl.2 201 (0, 0, 0, RA, rd0) (by dsimp only; omega) ⟨Or.inl rfl, by dsimp only; omega, hra, rok_rd0⟩
  refine V_aload_n dX8_configure_0 rfl ?_
  refine V_callV (Y' := YX8_readAll) dX8_configure_1 lX8_89 gX8_readAll (m8_readAll hT hl hra hm) hm.1 rfl rfl rfl (Nat.le_of_ble_eq_true rfl) ⟨Nat.zero_le _, Nat.zero_le _⟩ (fun v h1 sz1 hq => ?_)
  obtain ⟨rfl, rfl, hm⟩ := hq
  refine J_bipush dX8_configure_4 (by decide) ?_
  refine J_icmp_ne (tgt := 16) dX8_configure_6 (by decide) (by omega) (by omega) (fun c6 => ?_) (fun c6 => ?_)
  · rcases hm with ⟨q, _⟩ | ⟨_, sp2, nu2, rs2, rm2, RA2, RD2, hr2, hm⟩
    · exact absurd q c6
    · refine J_bipush dX8_configure_16 (by decide) ?_
      exact V_iret dX8_configure_18 rfl rfl ⟨Nat.zero_le _, Nat.zero_le _⟩ ⟨rfl, Or.inl ⟨fun w => c6 w.1, rfl, _, _, _, _, _, _, hr2, hm⟩⟩
  · rcases hm with ⟨_, hko, nu2, hm⟩ | ⟨q, _⟩
    · have hk1 := hko.1
      refine V_aload_n dX8_configure_9 rfl ?_
      refine V_get dX8_configure_10 fX8_34 hm.1 rfl ?_
      refine J_if_ne (tgt := 19) dX8_configure_13 (by decide) (by omega) (fun c13 => ?_) (fun c13 => ?_)
      · refine V_aload_n dX8_configure_19 rfl ?_
        refine V_callV (Y' := YX8_takeRead) dX8_configure_20 lX8_41 gX8_takeRead (m8_takeRead hm) hm.1 rfl rfl rfl (Nat.le_of_ble_eq_true rfl) ⟨Nat.zero_le _, Nat.zero_le _⟩ (fun v h1 sz1 hq => ?_)
        obtain ⟨rfl, rfl, hm⟩ := hq
        refine V_aload_n dX8_configure_23 rfl ?_
        refine V_get dX8_configure_24 fX8_47 hm.1 rfl ?_
        exact V_iret dX8_configure_27 rfl rfl ⟨Nat.zero_le _, Nat.zero_le _⟩ ⟨rfl, Or.inr ⟨by omega, hko, rfl, _, hm⟩⟩
      · refine J_bipush dX8_configure_16 (by decide) ?_
        exact V_iret dX8_configure_18 rfl rfl ⟨Nat.zero_le _, Nat.zero_le _⟩ ⟨rfl, Or.inl ⟨by omega, rfl, _, _, _, _, _, _, hko.2.2.1, hm⟩⟩
    · exact absurd c6 q
end
section
/-! THE REFERENCE: a new one -/
def ra0 (j : Nat) : Int := if j = 0 then 400 else if j = 1 then 1000 else if j = 2 then 1740 else 0
def nw0 (j : Nat) : Int := if j = 5 then 4 else if j = 6 then 22 else if j = 7 then 3 else if j = 8 then 1 else if j = 9 then 660 else if j = 10 then 9 else 0
theorem rok_nw0 : rok nw0 := by
  refine ⟨by decide, by decide, by decide, by decide, by decide, by decide, by decide, ?_, ?_⟩
  · intro k hk
    match k, hk with
    | 0, _ => decide
    | 1, _ => decide
    | 2, _ => decide
    | 3, _ => decide
  · intro k hk
    match k, hk with
    | 0, _ => decide
    | 1, _ => decide
    | 2, _ => decide
    | 3, _ => decide
    | 4, _ => decide
    | 5, _ => decide
    | 6, _ => decide
    | 7, _ => decide
theorem ra0_rg : ∀ j : Nat, j < 6 → 0 ≤ ra0 j ∧ ra0 j ≤ 9999 := by
  intro j hj
  match j, hj with
  | 0, _ => decide
  | 1, _ => decide
  | 2, _ => decide
  | 3, _ => decide
  | 4, _ => decide
  | 5, _ => decide
set_option maxHeartbeats 4000000 in
set_option maxRecDepth 100000 in
theorem m8_init {z : ZG} {d r : Nat} {g h : AH} (hg : ∀ x, x < r → h x = g x) (hc : h r = some (.inl (8, [.null, .int 0, .int 0, .int 0, .int 0, .int 0, .null, .null, .int 0, .int 0, .null, .null, .null, .null, .int 0]))) : M z YX8_init (d + 1) 7 590 [.ref r] h (r + 1) (fun w h' sz' => w = none ∧ sz' = r + 8 ∧ MS g r (r + 5) (r + 6) 0 0 0 20 3 20 3 0 (fun _ => 0) ra0 nw0 ra0 nw0 (fun _ => 0) (fun _ => 0) h') := by
  refine M.of (by decide +kernel) (Nat.le_of_ble_eq_true rfl) ?_
  refine V_aload_n dX8_init_0 rfl ?_
  refine V_obj dX8_init_1 oX8_1 (Nat.le_of_ble_eq_true rfl) ?_
  refine V_aload_n dX8_init_4 rfl ?_
  refine J_sipush dX8_init_5 (by decide) ?_
  refine V_newi (N := 200) dX8_init_8 (by decide) (by decide) (by decide) ⟨Nat.le_of_ble_eq_true rfl, Nat.le_of_ble_eq_true rfl⟩ ?_
  have hc0 := (hset_n (h := h) (c := (.inr (200, .inl (fun _ => 0)) : AC)) (show r ≠ r + 1 by omega)).trans hc
  refine V_putF dX8_init_10 fX8_7 tX8_0 rfl (fun C T N q => by cases q; rfl) hc0 (Nat.le_of_ble_eq_true rfl) rfl rfl ?_
  have hcp0 := hset_s (h := hset h (r + 1) (.inr (200, .inl (fun _ => 0)))) (a := r) (c := (.inl (8, ([.null, .int 0, .int 0, .int 0, .int 0, .int 0, .null, .null, .int 0, .int 0, .null, .null, .null, .null, .int 0]).set 0 (.ref (r + 1))) : AC))
  refine V_aload_n dX8_init_13 rfl ?_
  refine J_bipush dX8_init_14 (by decide) ?_
  refine V_newi (N := 6) dX8_init_16 (by decide) (by decide) (by decide) ⟨Nat.le_of_ble_eq_true rfl, Nat.le_of_ble_eq_true rfl⟩ ?_
  have hc1 := (hset_n (h := (hset (hset h (r + 1) (.inr (200, .inl (fun _ => 0)))) r (.inl (8, ([.null, .int 0, .int 0, .int 0, .int 0, .int 0, .null, .null, .int 0, .int 0, .null, .null, .null, .null, .int 0]).set 0 (.ref (r + 1)))))) (c := (.inr (6, .inl (fun _ => 0)) : AC)) (show r ≠ r + 2 by omega)).trans hcp0
  refine V_putF dX8_init_18 fX8_13 tX8_6 rfl (fun C T N q => by cases q; rfl) hc1 (Nat.le_of_ble_eq_true rfl) rfl rfl ?_
  have hcp1 := hset_s (h := hset (hset (hset h (r + 1) (.inr (200, .inl (fun _ => 0)))) r (.inl (8, ([.null, .int 0, .int 0, .int 0, .int 0, .int 0, .null, .null, .int 0, .int 0, .null, .null, .null, .null, .int 0]).set 0 (.ref (r + 1))))) (r + 2) (.inr (6, .inl (fun _ => 0)))) (a := r) (c := (.inl (8, (([.null, .int 0, .int 0, .int 0, .int 0, .int 0, .null, .null, .int 0, .int 0, .null, .null, .null, .null, .int 0]).set 0 (.ref (r + 1))).set 6 (.ref (r + 2))) : AC))
  refine V_aload_n dX8_init_21 rfl ?_
  refine J_bipush dX8_init_22 (by decide) ?_
  refine V_newi (N := 42) dX8_init_24 (by decide) (by decide) (by decide) ⟨Nat.le_of_ble_eq_true rfl, Nat.le_of_ble_eq_true rfl⟩ ?_
  have hc2 := (hset_n (h := (hset (hset (hset (hset h (r + 1) (.inr (200, .inl (fun _ => 0)))) r (.inl (8, ([.null, .int 0, .int 0, .int 0, .int 0, .int 0, .null, .null, .int 0, .int 0, .null, .null, .null, .null, .int 0]).set 0 (.ref (r + 1))))) (r + 2) (.inr (6, .inl (fun _ => 0)))) r (.inl (8, (([.null, .int 0, .int 0, .int 0, .int 0, .int 0, .null, .null, .int 0, .int 0, .null, .null, .null, .null, .int 0]).set 0 (.ref (r + 1))).set 6 (.ref (r + 2)))))) (c := (.inr (42, .inl (fun _ => 0)) : AC)) (show r ≠ r + 3 by omega)).trans hcp1
  refine V_putF dX8_init_26 fX8_16 tX8_7 rfl (fun C T N q => by cases q; rfl) hc2 (Nat.le_of_ble_eq_true rfl) rfl rfl ?_
  have hcp2 := hset_s (h := hset (hset (hset (hset (hset h (r + 1) (.inr (200, .inl (fun _ => 0)))) r (.inl (8, ([.null, .int 0, .int 0, .int 0, .int 0, .int 0, .null, .null, .int 0, .int 0, .null, .null, .null, .null, .int 0]).set 0 (.ref (r + 1))))) (r + 2) (.inr (6, .inl (fun _ => 0)))) r (.inl (8, (([.null, .int 0, .int 0, .int 0, .int 0, .int 0, .null, .null, .int 0, .int 0, .null, .null, .null, .null, .int 0]).set 0 (.ref (r + 1))).set 6 (.ref (r + 2))))) (r + 3) (.inr (42, .inl (fun _ => 0)))) (a := r) (c := (.inl (8, ((([.null, .int 0, .int 0, .int 0, .int 0, .int 0, .null, .null, .int 0, .int 0, .null, .null, .null, .null, .int 0]).set 0 (.ref (r + 1))).set 6 (.ref (r + 2))).set 7 (.ref (r + 3))) : AC))
  refine V_aload_n dX8_init_29 rfl ?_
  refine J_bipush dX8_init_30 (by decide) ?_
  refine V_newi (N := 6) dX8_init_32 (by decide) (by decide) (by decide) ⟨Nat.le_of_ble_eq_true rfl, Nat.le_of_ble_eq_true rfl⟩ ?_
  have hc3 := (hset_n (h := (hset (hset (hset (hset (hset (hset h (r + 1) (.inr (200, .inl (fun _ => 0)))) r (.inl (8, ([.null, .int 0, .int 0, .int 0, .int 0, .int 0, .null, .null, .int 0, .int 0, .null, .null, .null, .null, .int 0]).set 0 (.ref (r + 1))))) (r + 2) (.inr (6, .inl (fun _ => 0)))) r (.inl (8, (([.null, .int 0, .int 0, .int 0, .int 0, .int 0, .null, .null, .int 0, .int 0, .null, .null, .null, .null, .int 0]).set 0 (.ref (r + 1))).set 6 (.ref (r + 2))))) (r + 3) (.inr (42, .inl (fun _ => 0)))) r (.inl (8, ((([.null, .int 0, .int 0, .int 0, .int 0, .int 0, .null, .null, .int 0, .int 0, .null, .null, .null, .null, .int 0]).set 0 (.ref (r + 1))).set 6 (.ref (r + 2))).set 7 (.ref (r + 3)))))) (c := (.inr (6, .inl (fun _ => 0)) : AC)) (show r ≠ r + 4 by omega)).trans hcp2
  refine V_putF dX8_init_34 fX8_19 tX8_10 rfl (fun C T N q => by cases q; rfl) hc3 (Nat.le_of_ble_eq_true rfl) rfl rfl ?_
  have hcp3 := hset_s (h := hset (hset (hset (hset (hset (hset (hset h (r + 1) (.inr (200, .inl (fun _ => 0)))) r (.inl (8, ([.null, .int 0, .int 0, .int 0, .int 0, .int 0, .null, .null, .int 0, .int 0, .null, .null, .null, .null, .int 0]).set 0 (.ref (r + 1))))) (r + 2) (.inr (6, .inl (fun _ => 0)))) r (.inl (8, (([.null, .int 0, .int 0, .int 0, .int 0, .int 0, .null, .null, .int 0, .int 0, .null, .null, .null, .null, .int 0]).set 0 (.ref (r + 1))).set 6 (.ref (r + 2))))) (r + 3) (.inr (42, .inl (fun _ => 0)))) r (.inl (8, ((([.null, .int 0, .int 0, .int 0, .int 0, .int 0, .null, .null, .int 0, .int 0, .null, .null, .null, .null, .int 0]).set 0 (.ref (r + 1))).set 6 (.ref (r + 2))).set 7 (.ref (r + 3))))) (r + 4) (.inr (6, .inl (fun _ => 0)))) (a := r) (c := (.inl (8, (((([.null, .int 0, .int 0, .int 0, .int 0, .int 0, .null, .null, .int 0, .int 0, .null, .null, .null, .null, .int 0]).set 0 (.ref (r + 1))).set 6 (.ref (r + 2))).set 7 (.ref (r + 3))).set 10 (.ref (r + 4))) : AC))
  refine V_aload_n dX8_init_37 rfl ?_
  refine J_bipush dX8_init_38 (by decide) ?_
  refine V_newi (N := 42) dX8_init_40 (by decide) (by decide) (by decide) ⟨Nat.le_of_ble_eq_true rfl, Nat.le_of_ble_eq_true rfl⟩ ?_
  have hc4 := (hset_n (h := (hset (hset (hset (hset (hset (hset (hset (hset h (r + 1) (.inr (200, .inl (fun _ => 0)))) r (.inl (8, ([.null, .int 0, .int 0, .int 0, .int 0, .int 0, .null, .null, .int 0, .int 0, .null, .null, .null, .null, .int 0]).set 0 (.ref (r + 1))))) (r + 2) (.inr (6, .inl (fun _ => 0)))) r (.inl (8, (([.null, .int 0, .int 0, .int 0, .int 0, .int 0, .null, .null, .int 0, .int 0, .null, .null, .null, .null, .int 0]).set 0 (.ref (r + 1))).set 6 (.ref (r + 2))))) (r + 3) (.inr (42, .inl (fun _ => 0)))) r (.inl (8, ((([.null, .int 0, .int 0, .int 0, .int 0, .int 0, .null, .null, .int 0, .int 0, .null, .null, .null, .null, .int 0]).set 0 (.ref (r + 1))).set 6 (.ref (r + 2))).set 7 (.ref (r + 3))))) (r + 4) (.inr (6, .inl (fun _ => 0)))) r (.inl (8, (((([.null, .int 0, .int 0, .int 0, .int 0, .int 0, .null, .null, .int 0, .int 0, .null, .null, .null, .null, .int 0]).set 0 (.ref (r + 1))).set 6 (.ref (r + 2))).set 7 (.ref (r + 3))).set 10 (.ref (r + 4)))))) (c := (.inr (42, .inl (fun _ => 0)) : AC)) (show r ≠ r + 5 by omega)).trans hcp3
  refine V_put dX8_init_42 fX8_22 tX8_11 hc4 (Nat.le_of_ble_eq_true rfl) rfl rfl ?_
  have hcp4 := hset_s (h := hset (hset (hset (hset (hset (hset (hset (hset (hset h (r + 1) (.inr (200, .inl (fun _ => 0)))) r (.inl (8, ([.null, .int 0, .int 0, .int 0, .int 0, .int 0, .null, .null, .int 0, .int 0, .null, .null, .null, .null, .int 0]).set 0 (.ref (r + 1))))) (r + 2) (.inr (6, .inl (fun _ => 0)))) r (.inl (8, (([.null, .int 0, .int 0, .int 0, .int 0, .int 0, .null, .null, .int 0, .int 0, .null, .null, .null, .null, .int 0]).set 0 (.ref (r + 1))).set 6 (.ref (r + 2))))) (r + 3) (.inr (42, .inl (fun _ => 0)))) r (.inl (8, ((([.null, .int 0, .int 0, .int 0, .int 0, .int 0, .null, .null, .int 0, .int 0, .null, .null, .null, .null, .int 0]).set 0 (.ref (r + 1))).set 6 (.ref (r + 2))).set 7 (.ref (r + 3))))) (r + 4) (.inr (6, .inl (fun _ => 0)))) r (.inl (8, (((([.null, .int 0, .int 0, .int 0, .int 0, .int 0, .null, .null, .int 0, .int 0, .null, .null, .null, .null, .int 0]).set 0 (.ref (r + 1))).set 6 (.ref (r + 2))).set 7 (.ref (r + 3))).set 10 (.ref (r + 4))))) (r + 5) (.inr (42, .inl (fun _ => 0)))) (a := r) (c := (.inl (8, ((((([.null, .int 0, .int 0, .int 0, .int 0, .int 0, .null, .null, .int 0, .int 0, .null, .null, .null, .null, .int 0]).set 0 (.ref (r + 1))).set 6 (.ref (r + 2))).set 7 (.ref (r + 3))).set 10 (.ref (r + 4))).set 11 (.ref (r + 5))) : AC))
  refine V_aload_n dX8_init_45 rfl ?_
  refine J_bipush dX8_init_46 (by decide) ?_
  refine V_newi (N := 42) dX8_init_48 (by decide) (by decide) (by decide) ⟨Nat.le_of_ble_eq_true rfl, Nat.le_of_ble_eq_true rfl⟩ ?_
  have hc5 := (hset_n (h := (hset (hset (hset (hset (hset (hset (hset (hset (hset (hset h (r + 1) (.inr (200, .inl (fun _ => 0)))) r (.inl (8, ([.null, .int 0, .int 0, .int 0, .int 0, .int 0, .null, .null, .int 0, .int 0, .null, .null, .null, .null, .int 0]).set 0 (.ref (r + 1))))) (r + 2) (.inr (6, .inl (fun _ => 0)))) r (.inl (8, (([.null, .int 0, .int 0, .int 0, .int 0, .int 0, .null, .null, .int 0, .int 0, .null, .null, .null, .null, .int 0]).set 0 (.ref (r + 1))).set 6 (.ref (r + 2))))) (r + 3) (.inr (42, .inl (fun _ => 0)))) r (.inl (8, ((([.null, .int 0, .int 0, .int 0, .int 0, .int 0, .null, .null, .int 0, .int 0, .null, .null, .null, .null, .int 0]).set 0 (.ref (r + 1))).set 6 (.ref (r + 2))).set 7 (.ref (r + 3))))) (r + 4) (.inr (6, .inl (fun _ => 0)))) r (.inl (8, (((([.null, .int 0, .int 0, .int 0, .int 0, .int 0, .null, .null, .int 0, .int 0, .null, .null, .null, .null, .int 0]).set 0 (.ref (r + 1))).set 6 (.ref (r + 2))).set 7 (.ref (r + 3))).set 10 (.ref (r + 4))))) (r + 5) (.inr (42, .inl (fun _ => 0)))) r (.inl (8, ((((([.null, .int 0, .int 0, .int 0, .int 0, .int 0, .null, .null, .int 0, .int 0, .null, .null, .null, .null, .int 0]).set 0 (.ref (r + 1))).set 6 (.ref (r + 2))).set 7 (.ref (r + 3))).set 10 (.ref (r + 4))).set 11 (.ref (r + 5)))))) (c := (.inr (42, .inl (fun _ => 0)) : AC)) (show r ≠ r + 6 by omega)).trans hcp4
  refine V_put dX8_init_50 fX8_25 tX8_12 hc5 (Nat.le_of_ble_eq_true rfl) rfl rfl ?_
  have hcp5 := hset_s (h := hset (hset (hset (hset (hset (hset (hset (hset (hset (hset (hset h (r + 1) (.inr (200, .inl (fun _ => 0)))) r (.inl (8, ([.null, .int 0, .int 0, .int 0, .int 0, .int 0, .null, .null, .int 0, .int 0, .null, .null, .null, .null, .int 0]).set 0 (.ref (r + 1))))) (r + 2) (.inr (6, .inl (fun _ => 0)))) r (.inl (8, (([.null, .int 0, .int 0, .int 0, .int 0, .int 0, .null, .null, .int 0, .int 0, .null, .null, .null, .null, .int 0]).set 0 (.ref (r + 1))).set 6 (.ref (r + 2))))) (r + 3) (.inr (42, .inl (fun _ => 0)))) r (.inl (8, ((([.null, .int 0, .int 0, .int 0, .int 0, .int 0, .null, .null, .int 0, .int 0, .null, .null, .null, .null, .int 0]).set 0 (.ref (r + 1))).set 6 (.ref (r + 2))).set 7 (.ref (r + 3))))) (r + 4) (.inr (6, .inl (fun _ => 0)))) r (.inl (8, (((([.null, .int 0, .int 0, .int 0, .int 0, .int 0, .null, .null, .int 0, .int 0, .null, .null, .null, .null, .int 0]).set 0 (.ref (r + 1))).set 6 (.ref (r + 2))).set 7 (.ref (r + 3))).set 10 (.ref (r + 4))))) (r + 5) (.inr (42, .inl (fun _ => 0)))) r (.inl (8, ((((([.null, .int 0, .int 0, .int 0, .int 0, .int 0, .null, .null, .int 0, .int 0, .null, .null, .null, .null, .int 0]).set 0 (.ref (r + 1))).set 6 (.ref (r + 2))).set 7 (.ref (r + 3))).set 10 (.ref (r + 4))).set 11 (.ref (r + 5))))) (r + 6) (.inr (42, .inl (fun _ => 0)))) (a := r) (c := (.inl (8, (((((([.null, .int 0, .int 0, .int 0, .int 0, .int 0, .null, .null, .int 0, .int 0, .null, .null, .null, .null, .int 0]).set 0 (.ref (r + 1))).set 6 (.ref (r + 2))).set 7 (.ref (r + 3))).set 10 (.ref (r + 4))).set 11 (.ref (r + 5))).set 12 (.ref (r + 6))) : AC))
  refine V_aload_n dX8_init_53 rfl ?_
  refine J_sipush dX8_init_54 (by decide) ?_
  refine V_newi (N := 252) dX8_init_57 (by decide) (by decide) (by decide) ⟨Nat.le_of_ble_eq_true rfl, Nat.le_of_ble_eq_true rfl⟩ ?_
  have hc6 := (hset_n (h := (hset (hset (hset (hset (hset (hset (hset (hset (hset (hset (hset (hset h (r + 1) (.inr (200, .inl (fun _ => 0)))) r (.inl (8, ([.null, .int 0, .int 0, .int 0, .int 0, .int 0, .null, .null, .int 0, .int 0, .null, .null, .null, .null, .int 0]).set 0 (.ref (r + 1))))) (r + 2) (.inr (6, .inl (fun _ => 0)))) r (.inl (8, (([.null, .int 0, .int 0, .int 0, .int 0, .int 0, .null, .null, .int 0, .int 0, .null, .null, .null, .null, .int 0]).set 0 (.ref (r + 1))).set 6 (.ref (r + 2))))) (r + 3) (.inr (42, .inl (fun _ => 0)))) r (.inl (8, ((([.null, .int 0, .int 0, .int 0, .int 0, .int 0, .null, .null, .int 0, .int 0, .null, .null, .null, .null, .int 0]).set 0 (.ref (r + 1))).set 6 (.ref (r + 2))).set 7 (.ref (r + 3))))) (r + 4) (.inr (6, .inl (fun _ => 0)))) r (.inl (8, (((([.null, .int 0, .int 0, .int 0, .int 0, .int 0, .null, .null, .int 0, .int 0, .null, .null, .null, .null, .int 0]).set 0 (.ref (r + 1))).set 6 (.ref (r + 2))).set 7 (.ref (r + 3))).set 10 (.ref (r + 4))))) (r + 5) (.inr (42, .inl (fun _ => 0)))) r (.inl (8, ((((([.null, .int 0, .int 0, .int 0, .int 0, .int 0, .null, .null, .int 0, .int 0, .null, .null, .null, .null, .int 0]).set 0 (.ref (r + 1))).set 6 (.ref (r + 2))).set 7 (.ref (r + 3))).set 10 (.ref (r + 4))).set 11 (.ref (r + 5))))) (r + 6) (.inr (42, .inl (fun _ => 0)))) r (.inl (8, (((((([.null, .int 0, .int 0, .int 0, .int 0, .int 0, .null, .null, .int 0, .int 0, .null, .null, .null, .null, .int 0]).set 0 (.ref (r + 1))).set 6 (.ref (r + 2))).set 7 (.ref (r + 3))).set 10 (.ref (r + 4))).set 11 (.ref (r + 5))).set 12 (.ref (r + 6)))))) (c := (.inr (252, .inl (fun _ => 0)) : AC)) (show r ≠ r + 7 by omega)).trans hcp5
  refine V_putF dX8_init_59 fX8_28 tX8_13 rfl (fun C T N q => by cases q; rfl) hc6 (Nat.le_of_ble_eq_true rfl) rfl rfl ?_
  have hcp6 := hset_s (h := hset (hset (hset (hset (hset (hset (hset (hset (hset (hset (hset (hset (hset h (r + 1) (.inr (200, .inl (fun _ => 0)))) r (.inl (8, ([.null, .int 0, .int 0, .int 0, .int 0, .int 0, .null, .null, .int 0, .int 0, .null, .null, .null, .null, .int 0]).set 0 (.ref (r + 1))))) (r + 2) (.inr (6, .inl (fun _ => 0)))) r (.inl (8, (([.null, .int 0, .int 0, .int 0, .int 0, .int 0, .null, .null, .int 0, .int 0, .null, .null, .null, .null, .int 0]).set 0 (.ref (r + 1))).set 6 (.ref (r + 2))))) (r + 3) (.inr (42, .inl (fun _ => 0)))) r (.inl (8, ((([.null, .int 0, .int 0, .int 0, .int 0, .int 0, .null, .null, .int 0, .int 0, .null, .null, .null, .null, .int 0]).set 0 (.ref (r + 1))).set 6 (.ref (r + 2))).set 7 (.ref (r + 3))))) (r + 4) (.inr (6, .inl (fun _ => 0)))) r (.inl (8, (((([.null, .int 0, .int 0, .int 0, .int 0, .int 0, .null, .null, .int 0, .int 0, .null, .null, .null, .null, .int 0]).set 0 (.ref (r + 1))).set 6 (.ref (r + 2))).set 7 (.ref (r + 3))).set 10 (.ref (r + 4))))) (r + 5) (.inr (42, .inl (fun _ => 0)))) r (.inl (8, ((((([.null, .int 0, .int 0, .int 0, .int 0, .int 0, .null, .null, .int 0, .int 0, .null, .null, .null, .null, .int 0]).set 0 (.ref (r + 1))).set 6 (.ref (r + 2))).set 7 (.ref (r + 3))).set 10 (.ref (r + 4))).set 11 (.ref (r + 5))))) (r + 6) (.inr (42, .inl (fun _ => 0)))) r (.inl (8, (((((([.null, .int 0, .int 0, .int 0, .int 0, .int 0, .null, .null, .int 0, .int 0, .null, .null, .null, .null, .int 0]).set 0 (.ref (r + 1))).set 6 (.ref (r + 2))).set 7 (.ref (r + 3))).set 10 (.ref (r + 4))).set 11 (.ref (r + 5))).set 12 (.ref (r + 6))))) (r + 7) (.inr (252, .inl (fun _ => 0)))) (a := r) (c := (.inl (8, ((((((([.null, .int 0, .int 0, .int 0, .int 0, .int 0, .null, .null, .int 0, .int 0, .null, .null, .null, .null, .int 0]).set 0 (.ref (r + 1))).set 6 (.ref (r + 2))).set 7 (.ref (r + 3))).set 10 (.ref (r + 4))).set 11 (.ref (r + 5))).set 12 (.ref (r + 6))).set 13 (.ref (r + 7))) : AC))
  generalize hHe : (hset (hset (hset (hset (hset (hset (hset (hset (hset (hset (hset (hset (hset (hset h (r + 1) (.inr (200, .inl (fun _ => 0)))) r (.inl (8, ([.null, .int 0, .int 0, .int 0, .int 0, .int 0, .null, .null, .int 0, .int 0, .null, .null, .null, .null, .int 0]).set 0 (.ref (r + 1))))) (r + 2) (.inr (6, .inl (fun _ => 0)))) r (.inl (8, (([.null, .int 0, .int 0, .int 0, .int 0, .int 0, .null, .null, .int 0, .int 0, .null, .null, .null, .null, .int 0]).set 0 (.ref (r + 1))).set 6 (.ref (r + 2))))) (r + 3) (.inr (42, .inl (fun _ => 0)))) r (.inl (8, ((([.null, .int 0, .int 0, .int 0, .int 0, .int 0, .null, .null, .int 0, .int 0, .null, .null, .null, .null, .int 0]).set 0 (.ref (r + 1))).set 6 (.ref (r + 2))).set 7 (.ref (r + 3))))) (r + 4) (.inr (6, .inl (fun _ => 0)))) r (.inl (8, (((([.null, .int 0, .int 0, .int 0, .int 0, .int 0, .null, .null, .int 0, .int 0, .null, .null, .null, .null, .int 0]).set 0 (.ref (r + 1))).set 6 (.ref (r + 2))).set 7 (.ref (r + 3))).set 10 (.ref (r + 4))))) (r + 5) (.inr (42, .inl (fun _ => 0)))) r (.inl (8, ((((([.null, .int 0, .int 0, .int 0, .int 0, .int 0, .null, .null, .int 0, .int 0, .null, .null, .null, .null, .int 0]).set 0 (.ref (r + 1))).set 6 (.ref (r + 2))).set 7 (.ref (r + 3))).set 10 (.ref (r + 4))).set 11 (.ref (r + 5))))) (r + 6) (.inr (42, .inl (fun _ => 0)))) r (.inl (8, (((((([.null, .int 0, .int 0, .int 0, .int 0, .int 0, .null, .null, .int 0, .int 0, .null, .null, .null, .null, .int 0]).set 0 (.ref (r + 1))).set 6 (.ref (r + 2))).set 7 (.ref (r + 3))).set 10 (.ref (r + 4))).set 11 (.ref (r + 5))).set 12 (.ref (r + 6))))) (r + 7) (.inr (252, .inl (fun _ => 0)))) r (.inl (8, ((((((([.null, .int 0, .int 0, .int 0, .int 0, .int 0, .null, .null, .int 0, .int 0, .null, .null, .null, .null, .int 0]).set 0 (.ref (r + 1))).set 6 (.ref (r + 2))).set 7 (.ref (r + 3))).set 10 (.ref (r + 4))).set 11 (.ref (r + 5))).set 12 (.ref (r + 6))).set 13 (.ref (r + 7))))) = hh at *
  have hm : MS g r (r + 5) (r + 6) 0 0 0 0 0 0 0 0 (fun _ => 0) (fun _ => 0) (fun _ => 0) (fun _ => 0) (fun _ => 0) (fun _ => 0) (fun _ => 0) hh := by
    subst hHe
    refine ⟨hset_s, ⟨?_, ?_, ?_, ?_, ?_, ?_, ?_⟩, Or.inl ⟨rfl, rfl⟩, fun x hx => ?_⟩
    · exact ⟨fun _ => 0, by simp [hset], fun _ _ => rfl⟩
    · exact ⟨fun _ => 0, by simp [hset], fun _ _ => rfl⟩
    · exact ⟨fun _ => 0, by simp [hset], fun _ _ => rfl⟩
    · exact ⟨fun _ => 0, by simp [hset], fun _ _ => rfl⟩
    · exact ⟨fun _ => 0, by simp [hset], fun _ _ => rfl⟩
    · exact ⟨fun _ => 0, by simp [hset], fun _ _ => rfl⟩
    · exact ⟨fun _ => 0, by simp [hset], fun _ _ => rfl⟩
    · have e : ∀ q, r ≤ q → x ≠ q := fun q hq => by omega
      simp only [hset, if_neg (e r (by omega)), if_neg (e (r + 1) (by omega)), if_neg (e (r + 2) (by omega)), if_neg (e (r + 3) (by omega)), if_neg (e (r + 4) (by omega)), if_neg (e (r + 5) (by omega)), if_neg (e (r + 6) (by omega)), if_neg (e (r + 7) (by omega))]
      exact hg x hx
  refine V_aload_n dX8_init_62 rfl ?_
  refine V_callV (Y' := YX8_beginRead) dX8_init_63 lX8_31 gX8_beginRead (m8_beginRead hm) hm.1 rfl rfl rfl (Nat.le_of_ble_eq_true rfl) ⟨Nat.le_of_ble_eq_true rfl, Nat.le_of_ble_eq_true rfl⟩ (fun v h1 sz1 hq => ?_)
  obtain ⟨rfl, rfl, hm⟩ := hq
  refine V_aload_n dX8_init_66 rfl ?_
  refine J_bipush dX8_init_67 (by decide) ?_
  refine R_put_4 dX8_init_69 fX8_34 hm (fun h hm => ?_)
  refine V_aload_n dX8_init_72 rfl ?_
  refine J_iconst dX8_init_73 ?_
  refine R_put_5 dX8_init_74 fX8_38 hm (fun h hm => ?_)
  refine V_aload_n dX8_init_77 rfl ?_
  refine V_get dX8_init_78 fX8_13 hm.1 rfl ?_
  refine J_iconst dX8_init_81 ?_
  refine J_sipush dX8_init_82 (by decide) ?_
  refine R_astk_RA 0 dX8_init_85 hm rfl (by decide) (fun h hm => ?_)
  refine V_aload_n dX8_init_86 rfl ?_
  refine V_get dX8_init_87 fX8_13 hm.1 rfl ?_
  refine J_iconst dX8_init_90 ?_
  refine J_sipush dX8_init_91 (by decide) ?_
  refine R_astk_RA 1 dX8_init_94 hm rfl (by decide) (fun h hm => ?_)
  refine V_aload_n dX8_init_95 rfl ?_
  refine V_get dX8_init_96 fX8_13 hm.1 rfl ?_
  refine J_iconst dX8_init_99 ?_
  refine J_sipush dX8_init_100 (by decide) ?_
  refine R_astk_RA 2 dX8_init_103 hm rfl (by decide) (fun h hm => ?_)
  refine V_aload_n dX8_init_104 rfl ?_
  refine V_get dX8_init_105 fX8_16 hm.1 rfl ?_
  refine J_bipush dX8_init_108 (by decide) ?_
  refine J_iconst dX8_init_110 ?_
  refine R_astk_RD 7 dX8_init_111 hm rfl (by decide) (fun h hm => ?_)
  refine V_aload_n dX8_init_112 rfl ?_
  refine V_get dX8_init_113 fX8_16 hm.1 rfl ?_
  refine J_bipush dX8_init_116 (by decide) ?_
  refine J_iconst dX8_init_118 ?_
  refine R_astk_RD 8 dX8_init_119 hm rfl (by decide) (fun h hm => ?_)
  refine V_aload_n dX8_init_120 rfl ?_
  refine V_get dX8_init_121 fX8_16 hm.1 rfl ?_
  refine J_bipush dX8_init_124 (by decide) ?_
  refine J_sipush dX8_init_126 (by decide) ?_
  refine R_astk_RD 9 dX8_init_129 hm rfl (by decide) (fun h hm => ?_)
  refine V_aload_n dX8_init_130 rfl ?_
  refine V_get dX8_init_131 fX8_16 hm.1 rfl ?_
  refine J_bipush dX8_init_134 (by decide) ?_
  refine J_bipush dX8_init_136 (by decide) ?_
  refine R_astk_RD 10 dX8_init_138 hm rfl (by decide) (fun h hm => ?_)
  refine V_aload_n dX8_init_139 rfl ?_
  refine V_callV (Y' := YX8_takeRead) dX8_init_140 lX8_41 gX8_takeRead (m8_takeRead hm) hm.1 rfl rfl rfl (Nat.le_of_ble_eq_true rfl) ⟨Nat.le_of_ble_eq_true rfl, Nat.le_of_ble_eq_true rfl⟩ (fun v h1 sz1 hq => ?_)
  obtain ⟨rfl, rfl, hm⟩ := hq
  refine V_ret dX8_init_143 rfl ⟨Nat.le_of_ble_eq_true rfl, Nat.le_of_ble_eq_true rfl⟩ ⟨rfl, rfl, ?_⟩
  have e1 : ∀ j, j < 6 → va_up (va_up (va_up (fun _ => (0 : Int)) 0 400) 1 1000) 2 1740 j = ra0 j := by
    intro j hj
    match j, hj with
    | 0, _ => rfl
    | 1, _ => rfl
    | 2, _ => rfl
    | 3, _ => rfl
    | 4, _ => rfl
    | 5, _ => rfl
  have e2 : ∀ j, j < 42 → va_up (va_up (va_up (va_up rd0 7 3) 8 1) 9 660) 10 9 j = nw0 j := by
    intro j hj
    simp only [va_up, rd0, nw0]
    (repeat' split) <;> first | rfl | omega
  exact (((hm.eRA e1).eMA e1).eRD e2).eNW e2
end
