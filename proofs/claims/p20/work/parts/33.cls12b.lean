set_option maxHeartbeats 4000000 in
set_option maxRecDepth 100000 in
theorem l7_rs_ok {z : ZG} {d sz s : Nat} {h : AH} {tn mn pt hn : Int} {TX MK N : Nat → Int} (hE : EN h s tn TX mn MK pt hn N) (rt : 0 ≤ tn ∧ tn ≤ 200) (rx : ∀ j : Nat, j < 200 → 0 ≤ TX j ∧ TX j ≤ 126) {sp rs rm : Int} {RA RD : Nat → Int} (hsp : 0 ≤ sp ∧ sp ≤ 300) (hrm : 0 ≤ rm ∧ rm ≤ 6) (h8 : 0 ≤ RD 8 ∧ RD 8 ≤ 4) (hra : ∀ j : Nat, j < 6 → 0 ≤ RA j ∧ RA j ≤ 9999) (hD : DRa h 3 rs rm RA RD) {n1 n2 e : Int} {o6 : Option Value} (hlr : 0 ≤ lh TX tn sp ∧ lh TX tn sp ≤ 126) (hn1 : 0 ≤ n1 ∧ n1 ≤ 9999) (hn2 : 0 ≤ n2 ∧ n2 ≤ 9999) (he : 0 ≤ e ∧ e ≤ 10000) (hst : stF TX tn sp rs rm RA RD = (tkF (lh TX tn sp) n1 n2 rs rm RA RD).map (fun u => (e + 1, u.1, u.2.1, u.2.2.1, u.2.2.2))) : V z YX7_readStatement (zroom (d + 6) 0 0) (fun w h' sz' => sz' = sz ∧ fr h h' 3 11 ∧ ((∃ u : RO, stF TX tn sp rs rm RA RD = some u ∧ w = some (.int (I u.1)) ∧ DRa h' 3 u.2.1 u.2.2.1 u.2.2.2.1 u.2.2.2.2) ∨ (stF TX tn sp rs rm RA RD = none ∧ w = some (.int (I (-1))) ∧ ∃ (rs2 : Int) (RD2 : Nat → Int), (0 ≤ RD2 8 ∧ RD2 8 ≤ 4) ∧ DRa h' 3 rs2 rm RA RD2))) 114 [some (.ref 0), some (.int (I sp)), some (.int (I (lh TX tn sp))), some (.int (I n1)), some (.int (I e)), some (.int (I n2)), o6] [.int (I 1)] h sz 0 0 := by
  refine V_istore dX7_readStatement_114 (Nat.le_of_ble_eq_true rfl) ?_
  refine V_iload dX7_readStatement_116 rfl ?_
  refine J_if_eq (tgt := 142) dX7_readStatement_118 (by decide) (by omega) (fun c => absurd c (by decide)) (fun c => ?_)
  refine V_aload_n dX7_readStatement_121 rfl ?_
  refine V_get dX7_readStatement_122 fX7_21 hE.1 rfl ?_
  refine V_iload_n dX7_readStatement_125 rfl ?_
  refine V_iload_n dX7_readStatement_126 rfl ?_
  refine V_iload dX7_readStatement_127 rfl ?_
  refine V_callV (Y' := YX5_take) dX7_readStatement_129 lX7_105 gX5_take (m5_take (by omega) (by omega) (by omega) hrm h8 hra hD) hD.1 rfl rfl rfl (Nat.le_of_ble_eq_true rfl) ⟨Nat.zero_le _, Nat.zero_le _⟩ (fun v h1 sz1 hq => ?_)
  obtain ⟨rfl, hf, t, rfl, ht⟩ := hq
  rcases ht with ⟨rfl, u, hu, hD2⟩ | ⟨rfl, hu, rs2, RD2, h82, hD2⟩
  · refine J_if_eq (tgt := 142) dX7_readStatement_132 (by decide) (by omega) (fun c => absurd c (by decide)) (fun c => ?_)
    refine V_iload dX7_readStatement_135 rfl ?_
    refine J_iconst dX7_readStatement_137 ?_
    refine J_iadd dX7_readStatement_138 ?_
    refine V_goto (tgt := 143) dX7_readStatement_139 (by decide) ?_
    exact V_iret dX7_readStatement_143 rfl rfl ⟨Nat.zero_le _, Nat.zero_le _⟩ ⟨rfl, hf, Or.inl ⟨_, hst.trans (by rw [hu]; rfl), rfl, hD2⟩⟩
  · refine J_if_eq (tgt := 142) dX7_readStatement_132 (by decide) (by omega) (fun c => ?_) (fun c => absurd rfl c)
    refine J_iconst dX7_readStatement_142 ?_
    exact V_iret dX7_readStatement_143 rfl rfl ⟨Nat.zero_le _, Nat.zero_le _⟩ ⟨rfl, hf, Or.inr ⟨hst.trans (by rw [hu]; rfl), rfl, _, _, h82, hD2⟩⟩
set_option maxHeartbeats 4000000 in
set_option maxRecDepth 100000 in
theorem l7_rs_no {z : ZG} {d sz s : Nat} {h : AH} {tn mn pt hn : Int} {TX MK N : Nat → Int} (hE : EN h s tn TX mn MK pt hn N) (rt : 0 ≤ tn ∧ tn ≤ 200) (rx : ∀ j : Nat, j < 200 → 0 ≤ TX j ∧ TX j ≤ 126) {sp rs rm : Int} {RA RD : Nat → Int} (hsp : 0 ≤ sp ∧ sp ≤ 300) (hrm : 0 ≤ rm ∧ rm ≤ 6) (h8 : 0 ≤ RD 8 ∧ RD 8 ≤ 4) (hra : ∀ j : Nat, j < 6 → 0 ≤ RA j ∧ RA j ≤ 9999) (hD : DRa h 3 rs rm RA RD) {n1 n2 e : Int} {o6 : Option Value} (hst : stF TX tn sp rs rm RA RD = none) : V z YX7_readStatement (zroom (d + 6) 0 0) (fun w h' sz' => sz' = sz ∧ fr h h' 3 11 ∧ ((∃ u : RO, stF TX tn sp rs rm RA RD = some u ∧ w = some (.int (I u.1)) ∧ DRa h' 3 u.2.1 u.2.2.1 u.2.2.2.1 u.2.2.2.2) ∨ (stF TX tn sp rs rm RA RD = none ∧ w = some (.int (I (-1))) ∧ ∃ (rs2 : Int) (RD2 : Nat → Int), (0 ≤ RD2 8 ∧ RD2 8 ≤ 4) ∧ DRa h' 3 rs2 rm RA RD2))) 114 [some (.ref 0), some (.int (I sp)), some (.int (I (lh TX tn sp))), some (.int (I n1)), some (.int (I e)), some (.int (I n2)), o6] [.int (I 0)] h sz 0 0 := by
  refine V_istore dX7_readStatement_114 (Nat.le_of_ble_eq_true rfl) ?_
  refine V_iload dX7_readStatement_116 rfl ?_
  refine J_if_eq (tgt := 142) dX7_readStatement_118 (by decide) (by omega) (fun c => ?_) (fun c => absurd rfl c)
  refine J_iconst dX7_readStatement_142 ?_
  exact V_iret dX7_readStatement_143 rfl rfl ⟨Nat.zero_le _, Nat.zero_le _⟩ ⟨rfl, fr.rf, Or.inr ⟨hst, rfl, _, _, h8, hD⟩⟩
set_option maxHeartbeats 4000000 in
set_option maxRecDepth 100000 in
theorem m7_readStatement {z : ZG} {d sz s : Nat} {h : AH} {tn mn pt hn : Int} {TX MK N : Nat → Int} (hE : EN h s tn TX mn MK pt hn N) (rt : 0 ≤ tn ∧ tn ≤ 200) (rx : ∀ j : Nat, j < 200 → 0 ≤ TX j ∧ TX j ≤ 126) {sp rs rm : Int} {RA RD : Nat → Int} (hsp : 0 ≤ sp ∧ sp ≤ 300) (hrm : 0 ≤ rm ∧ rm ≤ 6) (h8 : 0 ≤ RD 8 ∧ RD 8 ≤ 4) (hra : ∀ j : Nat, j < 6 → 0 ≤ RA j ∧ RA j ≤ 9999) (hD : DRa h 3 rs rm RA RD) : M z YX7_readStatement (d + 6) 0 0 [.ref 0, .int (I sp)] h sz (fun w h' sz' => sz' = sz ∧ fr h h' 3 11 ∧ ((∃ u : RO, stF TX tn sp rs rm RA RD = some u ∧ w = some (.int (I u.1)) ∧ DRa h' 3 u.2.1 u.2.2.1 u.2.2.2.1 u.2.2.2.2) ∨ (stF TX tn sp rs rm RA RD = none ∧ w = some (.int (I (-1))) ∧ ∃ (rs2 : Int) (RD2 : Nat → Int), (0 ≤ RD2 8 ∧ RD2 8 ≤ 4) ∧ DRa h' 3 rs2 rm RA RD2))) := by
  refine M.of (by decide +kernel) (Nat.le_of_ble_eq_true rfl) ?_
  refine V_aload_n dX7_readStatement_0 rfl ?_
  refine V_get dX7_readStatement_1 fX7_14 hE.1 rfl ?_
  refine V_iload_n dX7_readStatement_4 rfl ?_
  refine V_callV (Y' := YX4_intAt) dX7_readStatement_5 lX7_96 gX4_intAt (m4_intAt (by decide) rt hE.t (by omega)) hE.t.c rfl rfl rfl (Nat.le_of_ble_eq_true rfl) ⟨Nat.zero_le _, Nat.zero_le _⟩ (fun v h1 sz1 hq => ?_)
  obtain ⟨rfl, rfl, rfl⟩ := hq
  rw [rat_lh (by omega)]
  have hl5 := lh_rg (T := TX) (l := tn) (sp := sp) rx (by omega)
  refine V_istore_n dX7_readStatement_8 (Nat.le_of_ble_eq_true rfl) ?_
  refine V_aload_n dX7_readStatement_9 rfl ?_
  refine V_iload_n dX7_readStatement_10 rfl ?_
  refine J_iconst dX7_readStatement_11 ?_
  refine J_iadd dX7_readStatement_12 ?_
  refine V_callV (Y' := YX7_numberAt) dX7_readStatement_13 lX7_99 gX7_numberAt (m7_numberAt hE rt rx (by omega)) hE.1 rfl rfl rfl (Nat.le_of_ble_eq_true rfl) ⟨Nat.zero_le _, Nat.zero_le _⟩ (fun v h1 sz1 hq => ?_)
  obtain ⟨rfl, rfl, rfl⟩ := hq
  refine V_istore_n dX7_readStatement_16 (Nat.le_of_ble_eq_true rfl) ?_
  have hn1 := num_rg (T := TX) (l := tn) (p := sp + 1)
  refine V_iload_n dX7_readStatement_17 rfl ?_
  refine J_iconst dX7_readStatement_18 ?_
  refine J_iadd dX7_readStatement_19 ?_
  refine V_aload_n dX7_readStatement_20 rfl ?_
  refine V_iload_n dX7_readStatement_21 rfl ?_
  refine J_iconst dX7_readStatement_22 ?_
  refine J_iadd dX7_readStatement_23 ?_
  refine V_callV (Y' := YX7_digitsFrom) dX7_readStatement_24 lX7_102 gX7_digitsFrom (m7_digitsFrom hE rt rx (by omega)) hE.1 rfl rfl rfl (Nat.le_of_ble_eq_true rfl) ⟨Nat.zero_le _, Nat.zero_le _⟩ (fun v h1 sz1 hq => ?_)
  obtain ⟨rfl, rfl, rfl⟩ := hq
  have hd1 := dcn_le (T := TX) (l := tn) 200 (sp + 1)
  refine J_iadd dX7_readStatement_27 ?_
  refine V_istore dX7_readStatement_28 (Nat.le_of_ble_eq_true rfl) ?_
  refine J_iconst dX7_readStatement_30 ?_
  refine V_istore dX7_readStatement_31 (Nat.le_of_ble_eq_true rfl) ?_
  refine V_iload_n dX7_readStatement_33 rfl ?_
  refine J_bipush dX7_readStatement_34 (by decide) ?_
  refine J_icmp_eq (tgt := 45) dX7_readStatement_36 (by decide) (by omega) (by omega) (fun c36 => ?_) (fun c36 => ?_)
  · refine V_aload_n dX7_readStatement_45 rfl ?_
    refine V_get dX7_readStatement_46 fX7_14 hE.1 rfl ?_
    refine V_iload dX7_readStatement_49 rfl ?_
    refine V_callV (Y' := YX4_intAt) dX7_readStatement_51 lX7_96 gX4_intAt (m4_intAt (by decide) rt hE.t (by omega)) hE.t.c rfl rfl rfl (Nat.le_of_ble_eq_true rfl) ⟨Nat.zero_le _, Nat.zero_le _⟩ (fun v h1 sz1 hq => ?_)
    obtain ⟨rfl, rfl, rfl⟩ := hq
    rw [rat_lh (by omega)]
    have hl51 := lh_rg (T := TX) (l := tn) (sp := sp + 1 + (dcn TX tn 200 (sp + 1) : Int)) rx (by omega)
    refine J_bipush dX7_readStatement_54 (by decide) ?_
    refine J_icmp_eq (tgt := 61) dX7_readStatement_56 (by decide) (by omega) (by omega) (fun c56 => ?_) (fun c56 => ?_)
    · refine V_aload_n dX7_readStatement_61 rfl ?_
      refine V_iload dX7_readStatement_62 rfl ?_
      refine J_iconst dX7_readStatement_64 ?_
      refine J_iadd dX7_readStatement_65 ?_
      refine V_callV (Y' := YX7_numberAt) dX7_readStatement_66 lX7_99 gX7_numberAt (m7_numberAt hE rt rx (by omega)) hE.1 rfl rfl rfl (Nat.le_of_ble_eq_true rfl) ⟨Nat.zero_le _, Nat.zero_le _⟩ (fun v h1 sz1 hq => ?_)
      obtain ⟨rfl, rfl, rfl⟩ := hq
      refine V_istore dX7_readStatement_69 (Nat.le_of_ble_eq_true rfl) ?_
      have hn2 := num_rg (T := TX) (l := tn) (p := sp + 1 + (dcn TX tn 200 (sp + 1) : Int) + 1)
      refine V_iload dX7_readStatement_71 rfl ?_
      refine J_iconst dX7_readStatement_73 ?_
      refine J_iadd dX7_readStatement_74 ?_
      refine V_aload_n dX7_readStatement_75 rfl ?_
      refine V_iload dX7_readStatement_76 rfl ?_
      refine J_iconst dX7_readStatement_78 ?_
      refine J_iadd dX7_readStatement_79 ?_
      refine V_callV (Y' := YX7_digitsFrom) dX7_readStatement_80 lX7_102 gX7_digitsFrom (m7_digitsFrom hE rt rx (by omega)) hE.1 rfl rfl rfl (Nat.le_of_ble_eq_true rfl) ⟨Nat.zero_le _, Nat.zero_le _⟩ (fun v h1 sz1 hq => ?_)
      obtain ⟨rfl, rfl, rfl⟩ := hq
      have hd2 := dcn_le (T := TX) (l := tn) 200 (sp + 1 + (dcn TX tn 200 (sp + 1) : Int) + 1)
      refine J_iadd dX7_readStatement_83 ?_
      refine V_istore dX7_readStatement_84 (Nat.le_of_ble_eq_true rfl) ?_
      refine V_iload_n dX7_readStatement_86 rfl ?_
      refine J_if_lt (tgt := 113) dX7_readStatement_87 (by decide) (by omega) (fun c87 => ?_) (fun c87 => ?_)
      · refine J_iconst dX7_readStatement_113 ?_
        first | exact l7_rs_no hE rt rx hsp hrm h8 hra hD (st_no1 (by omega) (by omega)) | exact l7_rs_no hE rt rx hsp hrm h8 hra hD (st_no2 (by omega) (by omega)) | exact l7_rs_ok hE rt rx hsp hrm h8 hra hD hl5 (by omega) (by omega) (by omega) (st_f1 (by omega) (by omega) (by omega) hrm) | exact l7_rs_ok hE rt rx hsp hrm h8 hra hD hl5 (by omega) (by omega) (by omega) (st_f2 (by omega) (by omega) (by omega) (by omega) (by omega) h8)
      · refine V_iload dX7_readStatement_90 rfl ?_
        refine J_if_lt (tgt := 113) dX7_readStatement_92 (by decide) (by omega) (fun c92 => ?_) (fun c92 => ?_)
        · refine J_iconst dX7_readStatement_113 ?_
          first | exact l7_rs_no hE rt rx hsp hrm h8 hra hD (st_no1 (by omega) (by omega)) | exact l7_rs_no hE rt rx hsp hrm h8 hra hD (st_no2 (by omega) (by omega)) | exact l7_rs_ok hE rt rx hsp hrm h8 hra hD hl5 (by omega) (by omega) (by omega) (st_f1 (by omega) (by omega) (by omega) hrm) | exact l7_rs_ok hE rt rx hsp hrm h8 hra hD hl5 (by omega) (by omega) (by omega) (st_f2 (by omega) (by omega) (by omega) (by omega) (by omega) h8)
        · refine V_aload_n dX7_readStatement_95 rfl ?_
          refine V_get dX7_readStatement_96 fX7_14 hE.1 rfl ?_
          refine V_iload dX7_readStatement_99 rfl ?_
          refine V_callV (Y' := YX4_intAt) dX7_readStatement_101 lX7_96 gX4_intAt (m4_intAt (by decide) rt hE.t (by omega)) hE.t.c rfl rfl rfl (Nat.le_of_ble_eq_true rfl) ⟨Nat.zero_le _, Nat.zero_le _⟩ (fun v h1 sz1 hq => ?_)
          obtain ⟨rfl, rfl, rfl⟩ := hq
          rw [rat_lh (by omega)]
          have hl101a := lh_rg (T := TX) (l := tn) (sp := sp + 1 + (dcn TX tn 200 (sp + 1) : Int)) rx (by omega)
          have hl101b := lh_rg (T := TX) (l := tn) (sp := sp + 1 + (dcn TX tn 200 (sp + 1) : Int) + 1 + (dcn TX tn 200 (sp + 1 + (dcn TX tn 200 (sp + 1) : Int) + 1) : Int)) rx (by omega)
          refine J_bipush dX7_readStatement_104 (by decide) ?_
          refine J_icmp_ne (tgt := 113) dX7_readStatement_106 (by decide) (by omega) (by omega) (fun c106 => ?_) (fun c106 => ?_)
          · refine J_iconst dX7_readStatement_113 ?_
            first | exact l7_rs_no hE rt rx hsp hrm h8 hra hD (st_no1 (by omega) (by omega)) | exact l7_rs_no hE rt rx hsp hrm h8 hra hD (st_no2 (by omega) (by omega)) | exact l7_rs_ok hE rt rx hsp hrm h8 hra hD hl5 (by omega) (by omega) (by omega) (st_f1 (by omega) (by omega) (by omega) hrm) | exact l7_rs_ok hE rt rx hsp hrm h8 hra hD hl5 (by omega) (by omega) (by omega) (st_f2 (by omega) (by omega) (by omega) (by omega) (by omega) h8)
          · refine J_iconst dX7_readStatement_109 ?_
            refine V_goto (tgt := 114) dX7_readStatement_110 (by decide) ?_
            first | exact l7_rs_no hE rt rx hsp hrm h8 hra hD (st_no1 (by omega) (by omega)) | exact l7_rs_no hE rt rx hsp hrm h8 hra hD (st_no2 (by omega) (by omega)) | exact l7_rs_ok hE rt rx hsp hrm h8 hra hD hl5 (by omega) (by omega) (by omega) (st_f1 (by omega) (by omega) (by omega) hrm) | exact l7_rs_ok hE rt rx hsp hrm h8 hra hD hl5 (by omega) (by omega) (by omega) (st_f2 (by omega) (by omega) (by omega) (by omega) (by omega) h8)
    · refine J_iconst dX7_readStatement_59 ?_
      exact V_iret dX7_readStatement_60 rfl rfl ⟨Nat.zero_le _, Nat.zero_le _⟩ ⟨rfl, fr.rf, Or.inr ⟨st_no2 (by omega) (by omega), rfl, _, _, h8, hD⟩⟩
  · refine V_iload_n dX7_readStatement_39 rfl ?_
    refine J_bipush dX7_readStatement_40 (by decide) ?_
    refine J_icmp_ne (tgt := 86) dX7_readStatement_42 (by decide) (by omega) (by omega) (fun c42 => ?_) (fun c42 => ?_)
    · refine V_iload_n dX7_readStatement_86 rfl ?_
      refine J_if_lt (tgt := 113) dX7_readStatement_87 (by decide) (by omega) (fun c87 => ?_) (fun c87 => ?_)
      · refine J_iconst dX7_readStatement_113 ?_
        first | exact l7_rs_no hE rt rx hsp hrm h8 hra hD (st_no1 (by omega) (by omega)) | exact l7_rs_no hE rt rx hsp hrm h8 hra hD (st_no2 (by omega) (by omega)) | exact l7_rs_ok hE rt rx hsp hrm h8 hra hD hl5 (by omega) (by omega) (by omega) (st_f1 (by omega) (by omega) (by omega) hrm) | exact l7_rs_ok hE rt rx hsp hrm h8 hra hD hl5 (by omega) (by omega) (by omega) (st_f2 (by omega) (by omega) (by omega) (by omega) (by omega) h8)
      · refine V_iload dX7_readStatement_90 rfl ?_
        refine J_if_lt (tgt := 113) dX7_readStatement_92 (by decide) (by omega) (fun c92 => ?_) (fun c92 => ?_)
        · refine J_iconst dX7_readStatement_113 ?_
          first | exact l7_rs_no hE rt rx hsp hrm h8 hra hD (st_no1 (by omega) (by omega)) | exact l7_rs_no hE rt rx hsp hrm h8 hra hD (st_no2 (by omega) (by omega)) | exact l7_rs_ok hE rt rx hsp hrm h8 hra hD hl5 (by omega) (by omega) (by omega) (st_f1 (by omega) (by omega) (by omega) hrm) | exact l7_rs_ok hE rt rx hsp hrm h8 hra hD hl5 (by omega) (by omega) (by omega) (st_f2 (by omega) (by omega) (by omega) (by omega) (by omega) h8)
        · refine V_aload_n dX7_readStatement_95 rfl ?_
          refine V_get dX7_readStatement_96 fX7_14 hE.1 rfl ?_
          refine V_iload dX7_readStatement_99 rfl ?_
          refine V_callV (Y' := YX4_intAt) dX7_readStatement_101 lX7_96 gX4_intAt (m4_intAt (by decide) rt hE.t (by omega)) hE.t.c rfl rfl rfl (Nat.le_of_ble_eq_true rfl) ⟨Nat.zero_le _, Nat.zero_le _⟩ (fun v h1 sz1 hq => ?_)
          obtain ⟨rfl, rfl, rfl⟩ := hq
          rw [rat_lh (by omega)]
          have hl101a := lh_rg (T := TX) (l := tn) (sp := sp + 1 + (dcn TX tn 200 (sp + 1) : Int)) rx (by omega)
          have hl101b := lh_rg (T := TX) (l := tn) (sp := sp + 1 + (dcn TX tn 200 (sp + 1) : Int) + 1 + (dcn TX tn 200 (sp + 1 + (dcn TX tn 200 (sp + 1) : Int) + 1) : Int)) rx (by omega)
          refine J_bipush dX7_readStatement_104 (by decide) ?_
          refine J_icmp_ne (tgt := 113) dX7_readStatement_106 (by decide) (by omega) (by omega) (fun c106 => ?_) (fun c106 => ?_)
          · refine J_iconst dX7_readStatement_113 ?_
            first | exact l7_rs_no hE rt rx hsp hrm h8 hra hD (st_no1 (by omega) (by omega)) | exact l7_rs_no hE rt rx hsp hrm h8 hra hD (st_no2 (by omega) (by omega)) | exact l7_rs_ok hE rt rx hsp hrm h8 hra hD hl5 (by omega) (by omega) (by omega) (st_f1 (by omega) (by omega) (by omega) hrm) | exact l7_rs_ok hE rt rx hsp hrm h8 hra hD hl5 (by omega) (by omega) (by omega) (st_f2 (by omega) (by omega) (by omega) (by omega) (by omega) h8)
          · refine J_iconst dX7_readStatement_109 ?_
            refine V_goto (tgt := 114) dX7_readStatement_110 (by decide) ?_
            first | exact l7_rs_no hE rt rx hsp hrm h8 hra hD (st_no1 (by omega) (by omega)) | exact l7_rs_no hE rt rx hsp hrm h8 hra hD (st_no2 (by omega) (by omega)) | exact l7_rs_ok hE rt rx hsp hrm h8 hra hD hl5 (by omega) (by omega) (by omega) (st_f1 (by omega) (by omega) (by omega) hrm) | exact l7_rs_ok hE rt rx hsp hrm h8 hra hD hl5 (by omega) (by omega) (by omega) (st_f2 (by omega) (by omega) (by omega) (by omega) (by omega) h8)
    · refine V_aload_n dX7_readStatement_45 rfl ?_
      refine V_get dX7_readStatement_46 fX7_14 hE.1 rfl ?_
      refine V_iload dX7_readStatement_49 rfl ?_
      refine V_callV (Y' := YX4_intAt) dX7_readStatement_51 lX7_96 gX4_intAt (m4_intAt (by decide) rt hE.t (by omega)) hE.t.c rfl rfl rfl (Nat.le_of_ble_eq_true rfl) ⟨Nat.zero_le _, Nat.zero_le _⟩ (fun v h1 sz1 hq => ?_)
      obtain ⟨rfl, rfl, rfl⟩ := hq
      rw [rat_lh (by omega)]
      have hl51 := lh_rg (T := TX) (l := tn) (sp := sp + 1 + (dcn TX tn 200 (sp + 1) : Int)) rx (by omega)
      refine J_bipush dX7_readStatement_54 (by decide) ?_
      refine J_icmp_eq (tgt := 61) dX7_readStatement_56 (by decide) (by omega) (by omega) (fun c56 => ?_) (fun c56 => ?_)
      · refine V_aload_n dX7_readStatement_61 rfl ?_
        refine V_iload dX7_readStatement_62 rfl ?_
        refine J_iconst dX7_readStatement_64 ?_
        refine J_iadd dX7_readStatement_65 ?_
        refine V_callV (Y' := YX7_numberAt) dX7_readStatement_66 lX7_99 gX7_numberAt (m7_numberAt hE rt rx (by omega)) hE.1 rfl rfl rfl (Nat.le_of_ble_eq_true rfl) ⟨Nat.zero_le _, Nat.zero_le _⟩ (fun v h1 sz1 hq => ?_)
        obtain ⟨rfl, rfl, rfl⟩ := hq
        refine V_istore dX7_readStatement_69 (Nat.le_of_ble_eq_true rfl) ?_
        have hn2 := num_rg (T := TX) (l := tn) (p := sp + 1 + (dcn TX tn 200 (sp + 1) : Int) + 1)
        refine V_iload dX7_readStatement_71 rfl ?_
        refine J_iconst dX7_readStatement_73 ?_
        refine J_iadd dX7_readStatement_74 ?_
        refine V_aload_n dX7_readStatement_75 rfl ?_
        refine V_iload dX7_readStatement_76 rfl ?_
        refine J_iconst dX7_readStatement_78 ?_
        refine J_iadd dX7_readStatement_79 ?_
        refine V_callV (Y' := YX7_digitsFrom) dX7_readStatement_80 lX7_102 gX7_digitsFrom (m7_digitsFrom hE rt rx (by omega)) hE.1 rfl rfl rfl (Nat.le_of_ble_eq_true rfl) ⟨Nat.zero_le _, Nat.zero_le _⟩ (fun v h1 sz1 hq => ?_)
        obtain ⟨rfl, rfl, rfl⟩ := hq
        have hd2 := dcn_le (T := TX) (l := tn) 200 (sp + 1 + (dcn TX tn 200 (sp + 1) : Int) + 1)
        refine J_iadd dX7_readStatement_83 ?_
        refine V_istore dX7_readStatement_84 (Nat.le_of_ble_eq_true rfl) ?_
        refine V_iload_n dX7_readStatement_86 rfl ?_
        refine J_if_lt (tgt := 113) dX7_readStatement_87 (by decide) (by omega) (fun c87 => ?_) (fun c87 => ?_)
        · refine J_iconst dX7_readStatement_113 ?_
          first | exact l7_rs_no hE rt rx hsp hrm h8 hra hD (st_no1 (by omega) (by omega)) | exact l7_rs_no hE rt rx hsp hrm h8 hra hD (st_no2 (by omega) (by omega)) | exact l7_rs_ok hE rt rx hsp hrm h8 hra hD hl5 (by omega) (by omega) (by omega) (st_f1 (by omega) (by omega) (by omega) hrm) | exact l7_rs_ok hE rt rx hsp hrm h8 hra hD hl5 (by omega) (by omega) (by omega) (st_f2 (by omega) (by omega) (by omega) (by omega) (by omega) h8)
        · refine V_iload dX7_readStatement_90 rfl ?_
          refine J_if_lt (tgt := 113) dX7_readStatement_92 (by decide) (by omega) (fun c92 => ?_) (fun c92 => ?_)
          · refine J_iconst dX7_readStatement_113 ?_
            first | exact l7_rs_no hE rt rx hsp hrm h8 hra hD (st_no1 (by omega) (by omega)) | exact l7_rs_no hE rt rx hsp hrm h8 hra hD (st_no2 (by omega) (by omega)) | exact l7_rs_ok hE rt rx hsp hrm h8 hra hD hl5 (by omega) (by omega) (by omega) (st_f1 (by omega) (by omega) (by omega) hrm) | exact l7_rs_ok hE rt rx hsp hrm h8 hra hD hl5 (by omega) (by omega) (by omega) (st_f2 (by omega) (by omega) (by omega) (by omega) (by omega) h8)
          · refine V_aload_n dX7_readStatement_95 rfl ?_
            refine V_get dX7_readStatement_96 fX7_14 hE.1 rfl ?_
            refine V_iload dX7_readStatement_99 rfl ?_
            refine V_callV (Y' := YX4_intAt) dX7_readStatement_101 lX7_96 gX4_intAt (m4_intAt (by decide) rt hE.t (by omega)) hE.t.c rfl rfl rfl (Nat.le_of_ble_eq_true rfl) ⟨Nat.zero_le _, Nat.zero_le _⟩ (fun v h1 sz1 hq => ?_)
            obtain ⟨rfl, rfl, rfl⟩ := hq
            rw [rat_lh (by omega)]
            have hl101a := lh_rg (T := TX) (l := tn) (sp := sp + 1 + (dcn TX tn 200 (sp + 1) : Int)) rx (by omega)
            have hl101b := lh_rg (T := TX) (l := tn) (sp := sp + 1 + (dcn TX tn 200 (sp + 1) : Int) + 1 + (dcn TX tn 200 (sp + 1 + (dcn TX tn 200 (sp + 1) : Int) + 1) : Int)) rx (by omega)
            refine J_bipush dX7_readStatement_104 (by decide) ?_
            refine J_icmp_ne (tgt := 113) dX7_readStatement_106 (by decide) (by omega) (by omega) (fun c106 => ?_) (fun c106 => ?_)
            · refine J_iconst dX7_readStatement_113 ?_
              first | exact l7_rs_no hE rt rx hsp hrm h8 hra hD (st_no1 (by omega) (by omega)) | exact l7_rs_no hE rt rx hsp hrm h8 hra hD (st_no2 (by omega) (by omega)) | exact l7_rs_ok hE rt rx hsp hrm h8 hra hD hl5 (by omega) (by omega) (by omega) (st_f1 (by omega) (by omega) (by omega) hrm) | exact l7_rs_ok hE rt rx hsp hrm h8 hra hD hl5 (by omega) (by omega) (by omega) (st_f2 (by omega) (by omega) (by omega) (by omega) (by omega) h8)
            · refine J_iconst dX7_readStatement_109 ?_
              refine V_goto (tgt := 114) dX7_readStatement_110 (by decide) ?_
              first | exact l7_rs_no hE rt rx hsp hrm h8 hra hD (st_no1 (by omega) (by omega)) | exact l7_rs_no hE rt rx hsp hrm h8 hra hD (st_no2 (by omega) (by omega)) | exact l7_rs_ok hE rt rx hsp hrm h8 hra hD hl5 (by omega) (by omega) (by omega) (st_f1 (by omega) (by omega) (by omega) hrm) | exact l7_rs_ok hE rt rx hsp hrm h8 hra hD hl5 (by omega) (by omega) (by omega) (st_f2 (by omega) (by omega) (by omega) (by omega) (by omega) h8)
      · refine J_iconst dX7_readStatement_59 ?_
        exact V_iret dX7_readStatement_60 rfl rfl ⟨Nat.zero_le _, Nat.zero_le _⟩ ⟨rfl, fr.rf, Or.inr ⟨st_no2 (by omega) (by omega), rfl, _, _, h8, hD⟩⟩
theorem rdF_end {T : Nat → Int} {l : Int} {u : RO} (h : ¬ u.1 < l) : ∀ {f : Nat}, rdF T l f u = (-4, u) := by
  intro f
  cases f with
  | zero => rfl
  | succ f => rw [rdF_s, if_neg h]
set_option maxHeartbeats 4000000 in
set_option maxRecDepth 100000 in
theorem l7_rd_11 {z : ZG} {d sz s : Nat} {h0 : AH} {tn mn pt hn : Int} {TX MK N : Nat → Int} (rt : 0 ≤ tn ∧ tn ≤ 200) (rx : ∀ j : Nat, j < 200 → 0 ≤ TX j ∧ TX j ≤ 126) : ∀ (fu : Nat) (u : RO) (n : Nat) (h : AH) (o3 : Option Value), (n ≤ u.1 ∧ u.1 ≤ 300) → 200 - u.1 < fu → (n : Int) ≤ 300 → roK u → fr h0 h 3 11 → EN h s tn TX mn MK pt hn N → DRa h 3 u.2.1 u.2.2.1 u.2.2.2.1 u.2.2.2.2 → V z YX7_readSetup (zroom (d + 7) 0 0) (fun w h' sz' => sz' = sz ∧ fr h0 h' 3 11 ∧ w = some (.int (I (rdF TX tn fu u).1)) ∧ (((rdF TX tn fu u).1 = -4 ∧ roK (rdF TX tn fu u).2 ∧ DRa h' 3 (rdF TX tn fu u).2.2.1 (rdF TX tn fu u).2.2.2.1 (rdF TX tn fu u).2.2.2.2.1 (rdF TX tn fu u).2.2.2.2.2) ∨ (¬ (rdF TX tn fu u).1 = -4 ∧ DX h'))) 11 [some (.ref 0), some (.int (I u.1)), some (.int (I (n : Int))), o3] [] h sz 0 0 := by
  intro fu
  induction fu with
  | zero =>
    intro u n h o3 h1 h2 h3 hk hF hE hD
    refine V_iload_n dX7_readSetup_11 rfl ?_
    refine J_sipush dX7_readSetup_12 (by decide) ?_
    refine J_icmp_ge (tgt := 49) dX7_readSetup_15 (by decide) (by omega) (by omega) (fun c15 => ?_) (fun c15 => ?_)
    · refine J_bipush dX7_readSetup_49 (by decide) ?_
      exact V_iret dX7_readSetup_51 rfl rfl ⟨Nat.zero_le _, Nat.zero_le _⟩ ⟨rfl, hF, by rw [rdF_end (by omega)], Or.inl ⟨by rw [rdF_end (by omega)], by rw [rdF_end (by omega)]; exact hk, by rw [rdF_end (by omega)]; exact hD⟩⟩
    · refine V_iload_n dX7_readSetup_18 rfl ?_
      refine V_aload_n dX7_readSetup_19 rfl ?_
      refine V_get dX7_readSetup_20 fX7_14 hE.1 rfl ?_
      refine V_callV (Y' := YX4_size) dX7_readSetup_23 lX7_82 gX4_size (m4_size (by decide) rt hE.t) hE.t.c rfl rfl rfl (Nat.le_of_ble_eq_true rfl) ⟨Nat.zero_le _, Nat.zero_le _⟩ (fun v h1 sz1 hq => ?_)
      obtain ⟨rfl, rfl, rfl⟩ := hq
      refine J_icmp_ge (tgt := 49) dX7_readSetup_26 (by decide) (by omega) (by omega) (fun c26 => ?_) (fun c26 => ?_)
      · refine J_bipush dX7_readSetup_49 (by decide) ?_
        exact V_iret dX7_readSetup_51 rfl rfl ⟨Nat.zero_le _, Nat.zero_le _⟩ ⟨rfl, hF, by rw [rdF_end (by omega)], Or.inl ⟨by rw [rdF_end (by omega)], by rw [rdF_end (by omega)]; exact hk, by rw [rdF_end (by omega)]; exact hD⟩⟩
      · exfalso
        omega
  | succ fu ih =>
    intro u n h o3 h1 h2 h3 hk hF hE hD
    refine V_iload_n dX7_readSetup_11 rfl ?_
    refine J_sipush dX7_readSetup_12 (by decide) ?_
    refine J_icmp_ge (tgt := 49) dX7_readSetup_15 (by decide) (by omega) (by omega) (fun c15 => ?_) (fun c15 => ?_)
    · refine J_bipush dX7_readSetup_49 (by decide) ?_
      exact V_iret dX7_readSetup_51 rfl rfl ⟨Nat.zero_le _, Nat.zero_le _⟩ ⟨rfl, hF, by rw [rdF_end (by omega)], Or.inl ⟨by rw [rdF_end (by omega)], by rw [rdF_end (by omega)]; exact hk, by rw [rdF_end (by omega)]; exact hD⟩⟩
    · refine V_iload_n dX7_readSetup_18 rfl ?_
      refine V_aload_n dX7_readSetup_19 rfl ?_
      refine V_get dX7_readSetup_20 fX7_14 hE.1 rfl ?_
      refine V_callV (Y' := YX4_size) dX7_readSetup_23 lX7_82 gX4_size (m4_size (by decide) rt hE.t) hE.t.c rfl rfl rfl (Nat.le_of_ble_eq_true rfl) ⟨Nat.zero_le _, Nat.zero_le _⟩ (fun v h1 sz1 hq => ?_)
      obtain ⟨rfl, rfl, rfl⟩ := hq
      refine J_icmp_ge (tgt := 49) dX7_readSetup_26 (by decide) (by omega) (by omega) (fun c26 => ?_) (fun c26 => ?_)
      · refine J_bipush dX7_readSetup_49 (by decide) ?_
        exact V_iret dX7_readSetup_51 rfl rfl ⟨Nat.zero_le _, Nat.zero_le _⟩ ⟨rfl, hF, by rw [rdF_end (by omega)], Or.inl ⟨by rw [rdF_end (by omega)], by rw [rdF_end (by omega)]; exact hk, by rw [rdF_end (by omega)]; exact hD⟩⟩
      · refine V_aload_n dX7_readSetup_29 rfl ?_
        refine V_iload_n dX7_readSetup_30 rfl ?_
        refine V_callV (Y' := YX7_readStatement) dX7_readSetup_31 lX7_92 gX7_readStatement (m7_readStatement hE rt rx (by omega) hk.2.1 (rok8 hk.2.2.2) hk.2.2.1 hD) hE.1 rfl rfl rfl (Nat.le_of_ble_eq_true rfl) ⟨Nat.zero_le _, Nat.zero_le _⟩ (fun v h1 sz1 hq => ?_)
        obtain ⟨rfl, hf, ht⟩ := hq
        have hF := hF.then hf
        rcases ht with ⟨u2, hu, rfl, hD2⟩ | ⟨hu, rfl, rs2, RD2, h82, hD2⟩
        · obtain ⟨hk2, ua, ub⟩ := stF_ok hk hu
          have hE := hE.setD hf ⟨_, _, _, _, hk2.2.1, rok8 hk2.2.2.2, hk2.2.2.1, hD2⟩
          refine V_istore_n dX7_readSetup_34 (Nat.le_of_ble_eq_true rfl) ?_
          refine V_iload_n dX7_readSetup_35 rfl ?_
          refine J_if_ge (tgt := 41) dX7_readSetup_36 (by decide) (by omega) (fun c36 => ?_) (fun c36 => by exfalso; omega)
          refine V_iload_n dX7_readSetup_41 rfl ?_
          refine V_istore_n dX7_readSetup_42 (Nat.le_of_ble_eq_true rfl) ?_
          refine J_iinc dX7_readSetup_43 rfl ?_
          refine V_goto (tgt := 11) dX7_readSetup_46 (by decide) ?_
          rw [show ((n : Int) + 1) = ((n + 1 : Nat) : Int) by omega]
          have e : rdF TX tn (fu + 1) u = rdF TX tn fu u2 := by rw [rdF_s, if_pos (by omega), hu]
          rw [e]
          exact ih u2 (n + 1) _ _ (by omega) (by omega) (by omega) hk2 hF hE hD2
        · have hE := hE.setD hf ⟨_, _, _, _, hk.2.1, h82, hk.2.2.1, hD2⟩
          refine V_istore_n dX7_readSetup_34 (Nat.le_of_ble_eq_true rfl) ?_
          refine V_iload_n dX7_readSetup_35 rfl ?_
          refine J_if_ge (tgt := 41) dX7_readSetup_36 (by decide) (by omega) (fun c36 => by exfalso; omega) (fun c36 => ?_)
          refine V_iload_n dX7_readSetup_39 rfl ?_
          have e : rdF TX tn (fu + 1) u = (u.1, u) := by rw [rdF_s, if_pos (by omega), hu]
          rw [e]
          exact V_iret dX7_readSetup_40 rfl rfl ⟨Nat.zero_le _, Nat.zero_le _⟩ ⟨rfl, hF, rfl, Or.inr ⟨by show ¬ u.1 = -4; omega, hE.d⟩⟩
set_option maxHeartbeats 4000000 in
set_option maxRecDepth 100000 in
theorem m7_readSetup {z : ZG} {d sz s : Nat} {h : AH} {tn mn pt hn : Int} {TX MK N : Nat → Int} (hE : EN h s tn TX mn MK pt hn N) (rt : 0 ≤ tn ∧ tn ≤ 200) (rx : ∀ j : Nat, j < 200 → 0 ≤ TX j ∧ TX j ≤ 126) {RA : Nat → Int} (hra : ∀ j : Nat, j < 6 → 0 ≤ RA j ∧ RA j ≤ 9999) : M z YX7_readSetup (d + 7) 0 0 [.ref 0] h sz (fun w h' sz' => sz' = sz ∧ fr h h' 3 11 ∧ w = some (.int (I (rdF TX tn 201 (0, 0, 0, RA, rd0)).1)) ∧ (((rdF TX tn 201 (0, 0, 0, RA, rd0)).1 = -4 ∧ roK (rdF TX tn 201 (0, 0, 0, RA, rd0)).2 ∧ DRa h' 3 (rdF TX tn 201 (0, 0, 0, RA, rd0)).2.2.1 (rdF TX tn 201 (0, 0, 0, RA, rd0)).2.2.2.1 (rdF TX tn 201 (0, 0, 0, RA, rd0)).2.2.2.2.1 (rdF TX tn 201 (0, 0, 0, RA, rd0)).2.2.2.2.2) ∨ (¬ (rdF TX tn 201 (0, 0, 0, RA, rd0)).1 = -4 ∧ DX h'))) := by
  refine M.of (by decide +kernel) (Nat.le_of_ble_eq_true rfl) ?_
  obtain ⟨drs, drm, dRA, dRD, dra, drb, drc, hSU⟩ := hE.d
  refine V_aload_n dX7_readSetup_0 rfl ?_
  refine V_get dX7_readSetup_1 fX7_21 hE.1 rfl ?_
  refine V_callV (Y' := YX5_reset) dX7_readSetup_4 lX7_89 gX5_reset (m5_reset dra drb hSU) hSU.1 rfl rfl rfl (Nat.le_of_ble_eq_true rfl) ⟨Nat.zero_le _, Nat.zero_le _⟩ (fun v h1 sz1 hq => ?_)
  obtain ⟨rfl, rfl, hf, hSU2⟩ := hq
  have hD : DRa h1 3 0 0 RA rd0 := ⟨hSU2.1, hSU2.2.1.to (fun j hj => by omega), hSU2.2.2.1, hSU2.2.2.2.1.to (fun j hj => by omega), hSU2.2.2.2.2.to (fun j hj => by omega)⟩
  have hk : roK (0, 0, 0, RA, rd0) := ⟨Or.inl rfl, ⟨Int.le_refl _, show (0 : Int) ≤ 6 by decide⟩, hra, rok_rd0⟩
  have hE := hE.setD hf ⟨_, _, _, _, hk.2.1, rok8 rok_rd0, hra, hD⟩
  refine J_iconst dX7_readSetup_7 ?_
  refine V_istore_n dX7_readSetup_8 (Nat.le_of_ble_eq_true rfl) ?_
  refine J_iconst dX7_readSetup_9 ?_
  refine V_istore_n dX7_readSetup_10 (Nat.le_of_ble_eq_true rfl) ?_
  exact l7_rd_11 rt rx 201 (0, 0, 0, RA, rd0) 0 _ _ ⟨Int.le_refl _, show (0 : Int) ≤ 300 by decide⟩ (show (200 : Int) - 0 < ((201 : Nat) : Int) by decide) (by decide) hk hf hE hD
