/-! THE CLASS: a setup taken over; what is told of the fringes -/
section Enc4
variable {h h2 : AH} {s : Nat} {tn mn pt hn v mn2 : Int} {TX MK N MK2 RD : Nat → Int}
theorem EN.putP (x : EN h s tn TX mn MK pt hn N) (hx : OB h 0 7 ([.ref 1, .ref 3, .ref 11, .ref 13, .ref 99, .ref s, .int (I pt)].set 6 (.int (I v))) h2) : EN h2 s tn TX mn MK v hn N := by
  obtain ⟨h1, h3, h4, h5, h6, ⟨q, c, m, hq, h7⟩, h8, h9⟩ := x
  obtain ⟨s1, s2, s3⟩ := id h9
  exact ⟨hx.1, h3.kept (hx.2 _ (by omega)) (hx.2 _ (by omega)), h4.kept (fun q q1 q2 => hx.2 q (by omega)), h5.kept (hx.2 _ (by omega)) (hx.2 _ (by omega)), h6.kept (fun q hq => hx.2 q (by omega)), ⟨q, c, m, hq, (hx.2 99 (by omega)).trans h7⟩, h8.kept (fun q q1 q2 => hx.2 q (by omega)), h9⟩
theorem EN.setM (x : EN h s tn TX mn MK pt hn N) (f : fr h h2 11 13) (r : RW h2 11 6 mn2 MK2) : EN h2 s tn TX mn2 MK2 pt hn N := by
  obtain ⟨h1, h3, h4, h5, h6, ⟨q, c, m, hq, h7⟩, h8, h9⟩ := x
  obtain ⟨s1, s2, s3⟩ := id h9
  exact ⟨(f 0 (by omega)).trans h1, h3.kept (f _ (by omega)) (f _ (by omega)), h4.kept (fun q q1 q2 => f q (by omega)), r, h6.kept (fun q hq => f q (by omega)), ⟨q, c, m, hq, (f 99 (by omega)).trans h7⟩, h8.kept (fun q q1 q2 => f q (by omega)), h9⟩
theorem EN.forget (x : EN h s tn TX mn MK pt hn N) (f : ∀ q : Nat, q ≠ 13 → q ≠ 14 → h2 q = h q) (r : HI h2 s 0) : EN h2 s tn TX mn MK pt 0 N := by
  obtain ⟨h1, h3, h4, h5, h6, ⟨q, c, m, hq, h7⟩, h8, h9⟩ := x
  obtain ⟨s1, s2, s3⟩ := id h9
  exact ⟨(f 0 (by omega) (by omega)).trans h1, h3.kept (f _ (by omega) (by omega)) (f _ (by omega) (by omega)), h4.kept (fun q q1 q2 => f q (by omega) (by omega)), h5.kept (f _ (by omega) (by omega)) (f _ (by omega) (by omega)), r, ⟨q, c, m, hq, (f 99 (by omega) (by omega)).trans h7⟩, h8.kept (fun q q1 q2 => f q (by omega) (by omega)), h9⟩
/-- the row that a setup read begins with -/
def stN (RD : Nat → Int) : Nat → Int := suN (RD 6) (RD 7) (RD 5) (RD 8) (dS RD) (dL RD)
theorem stN_eq (j : Nat) : stN RD j = if 5 ≤ j ∧ j < 17 then RD j else 0 := by
  unfold stN suN dS dL
  by_cases a5 : j = 5
  · subst a5; rfl
  by_cases a6 : j = 6
  · subst a6; rfl
  by_cases a7 : j = 7
  · subst a7; rfl
  by_cases a8 : j = 8
  · subst a8; rfl
  rw [if_neg a5, if_neg a6, if_neg a7, if_neg a8]
  by_cases a : 9 ≤ j ∧ j < 17
  · rw [if_pos a, show (if 5 ≤ j ∧ j < 17 then RD j else 0) = RD j from if_pos (by omega)]
    by_cases q : (j - 9) % 2 = 0
    · rw [if_pos q]; congr 1; omega
    · rw [if_neg q]; congr 1; omega
  · rw [if_neg a, if_neg (by omega)]
theorem rok_stN (h : rok RD) : rok (stN RD) := by
  obtain ⟨h0, h2, h5, h6, h7, h8, h17, hd, he⟩ := h
  have e := fun j => stN_eq (RD := RD) j
  refine ⟨by rw [e, if_neg (by omega)]; decide, by rw [e, if_neg (by omega)]; decide, by rw [e, if_pos (by omega)]; exact h5, by rw [e, if_pos (by omega)]; exact h6, by rw [e, if_pos (by omega)]; exact h7, by rw [e, if_pos (by omega)]; exact h8, by rw [e, if_neg (by omega)]; decide, fun k hk => ?_, fun k hk => ?_⟩
  · rw [e, e, if_pos (by omega), if_pos (by omega)]; exact hd k hk
  · rw [e, if_neg (by omega)]; decide
end Enc4
set_option maxHeartbeats 4000000 in
set_option maxRecDepth 100000 in
theorem m7_startFromDraft {z : ZG} {d sz s : Nat} {h : AH} {tn mn pt hn rs rm : Int} {TX MK N RA RD : Nat → Int} (hE : EN h s tn TX mn MK pt hn N) (h17 : 0 ≤ N 17 ∧ N 17 ≤ 8) (h8 : 0 ≤ N 8 ∧ N 8 ≤ 4) (hrm : 0 ≤ rm ∧ rm ≤ 6) (hd8 : 0 ≤ RD 8 ∧ RD 8 ≤ 4) (hD : DRa h 3 rs rm RA RD) : M z YX7_startFromDraft (d + 5) 0 0 [.ref 0] h sz (fun w h' sz' => w = none ∧ sz' = sz ∧ fr h h' 0 114 ∧ EN h' s tn TX rm RA rs 0 (stN RD)) := by
  refine M.of (by decide +kernel) (Nat.le_of_ble_eq_true rfl) ?_
  have hF : fr h h 0 114 := fr.rf
  refine V_aload_n dX7_startFromDraft_0 rfl ?_
  refine V_aload_n dX7_startFromDraft_1 rfl ?_
  refine V_get dX7_startFromDraft_2 fX7_21 hE.1 rfl ?_
  refine V_getN dX7_startFromDraft_5 fX7_85 hD.1 rfl ?_
  refine RO_put dX7_startFromDraft_8 fX7_108 tX7_6 (OB.mk hE.1) (Nat.le_of_ble_eq_true rfl) rfl rfl (fun h2 hx => ?_)
  have hF := hF.then (hx.fr.up (by omega))
  have hE := hE.putP hx
  have hD := hD.kept (h2 := h2) (fun q q1 q2 => hx.2 q (by omega))
  refine V_aload_n dX7_startFromDraft_11 rfl ?_
  refine V_get dX7_startFromDraft_12 fX7_25 hE.1 rfl ?_
  refine V_aload_n dX7_startFromDraft_15 rfl ?_
  refine V_get dX7_startFromDraft_16 fX7_21 hE.1 rfl ?_
  refine V_getN dX7_startFromDraft_19 fX7_109 hD.1 rfl ?_
  refine V_callV (Y' := YX4_copyFrom) dX7_startFromDraft_22 lX7_110 gX4_copyFrom (m4_copyFrom (by decide) (by omega) hrm hE.m hD.2.1) hE.m.c rfl rfl rfl (Nat.le_of_ble_eq_true rfl) ⟨Nat.zero_le _, Nat.zero_le _⟩ (fun v h1 sz1 hq => ?_)
  obtain ⟨rfl, rfl, hf, hr⟩ := hq
  have hF := hF.then (hf.up (by omega))
  have hE := hE.setM hf hr
  have hD := hD.kept (h2 := h1) (fun q q1 q2 => hf q (by omega))
  refine V_aload_n dX7_startFromDraft_25 rfl ?_
  refine V_get dX7_startFromDraft_26 fX7_45 hE.1 rfl ?_
  refine V_aload_n dX7_startFromDraft_29 rfl ?_
  refine V_get dX7_startFromDraft_30 fX7_21 hE.1 rfl ?_
  refine V_callV (Y' := YX6_startFrom) dX7_startFromDraft_33 lX7_114 gX6_startFrom (m6_startFrom (by have := hE.sb.1; omega) h17 h8 hd8 hE.n hD) hE.n.1 rfl rfl rfl (Nat.le_of_ble_eq_true rfl) ⟨Nat.zero_le _, Nat.zero_le _⟩ (fun v h1 sz1 hq => ?_)
  obtain ⟨rfl, rfl, hf, hc⟩ := hq
  have hF := hF.then (hf.up (by have := hE.sb.2.2; omega))
  have hE := hE.setN (N2 := stN RD) hf hc
  refine V_aload_n dX7_startFromDraft_36 rfl ?_
  refine V_get dX7_startFromDraft_37 fX7_31 hE.1 rfl ?_
  refine V_callV (Y' := YX2_forgetAll) dX7_startFromDraft_40 lX7_118 gX2_forgetAll (m2_forgetAll hE.hi) hE.hi.c rfl rfl rfl (Nat.le_of_ble_eq_true rfl) ⟨Nat.zero_le _, Nat.zero_le _⟩ (fun v h1 sz1 hq => ?_)
  obtain ⟨rfl, rfl, hf, hi⟩ := hq
  have hF := hF.then (show fr _ _ 0 114 from fun q hq => hf q (by omega) (by omega))
  have hE := hE.forget hf hi
  exact V_ret dX7_startFromDraft_43 rfl ⟨Nat.zero_le _, Nat.zero_le _⟩ ⟨rfl, rfl, hF, hE⟩
set_option maxHeartbeats 4000000 in
set_option maxRecDepth 100000 in
theorem m7_firstError {z : ZG} {d sz s : Nat} {h : AH} {tn mn pt hn : Int} {TX MK N : Nat → Int} (hE : EN h s tn TX mn MK pt hn N) (rt : 0 ≤ tn ∧ tn ≤ 200) (rx : ∀ j : Nat, j < 200 → 0 ≤ TX j ∧ TX j ≤ 126) {RA : Nat → Int} (hra : ∀ j : Nat, j < 6 → 0 ≤ RA j ∧ RA j ≤ 9999) : M z YX7_firstError (d + 8) 0 0 [.ref 0] h sz (fun w h' sz' => sz' = sz ∧ fr h h' 0 114 ∧ w = some (.int (I (rdF TX tn 201 (0, 0, 0, RA, rd0)).1)) ∧ EN h' s tn TX mn MK pt hn N) := by
  refine M.of (by decide +kernel) (Nat.le_of_ble_eq_true rfl) ?_
  refine V_aload_n dX7_firstError_0 rfl ?_
  refine V_callV (Y' := YX7_readSetup) dX7_firstError_1 lX7_65 gX7_readSetup (m7_readSetup hE rt rx hra) hE.1 rfl rfl rfl (Nat.le_of_ble_eq_true rfl) ⟨Nat.zero_le _, Nat.zero_le _⟩ (fun v h1 sz1 hq => ?_)
  obtain ⟨rfl, hf, rfl, hq⟩ := hq
  have hdx : DX h1 := hq.elim (fun q => ⟨_, _, _, _, q.2.1.2.1, rok8 q.2.1.2.2.2, q.2.1.2.2.1, q.2.2⟩) (fun q => q.2)
  exact V_iret dX7_firstError_4 rfl rfl ⟨Nat.zero_le _, Nat.zero_le _⟩ ⟨rfl, hf.up (by omega), rfl, hE.setD hf hdx⟩
set_option maxHeartbeats 4000000 in
set_option maxRecDepth 100000 in
theorem m7_configure {z : ZG} {d sz s : Nat} {h : AH} {tn mn pt hn : Int} {TX MK N : Nat → Int} (hE : EN h s tn TX mn MK pt hn N) (rt : 0 ≤ tn ∧ tn ≤ 200) (rx : ∀ j : Nat, j < 200 → 0 ≤ TX j ∧ TX j ≤ 126) (h17 : 0 ≤ N 17 ∧ N 17 ≤ 8) (h8 : 0 ≤ N 8 ∧ N 8 ≤ 4) {RA : Nat → Int} (hra : ∀ j : Nat, j < 6 → 0 ≤ RA j ∧ RA j ≤ 9999) : M z YX7_configure (d + 8) 0 0 [.ref 0] h sz (fun w h' sz' => sz' = sz ∧ fr h h' 0 114 ∧ ((¬ ((rdF TX tn 201 (0, 0, 0, RA, rd0)).1 = -4 ∧ ¬ (rdF TX tn 201 (0, 0, 0, RA, rd0)).2.2.1 = 0) ∧ w = some (.int (I (-2))) ∧ EN h' s tn TX mn MK pt hn N) ∨ (((rdF TX tn 201 (0, 0, 0, RA, rd0)).1 = -4 ∧ ¬ (rdF TX tn 201 (0, 0, 0, RA, rd0)).2.2.1 = 0) ∧ roK (rdF TX tn 201 (0, 0, 0, RA, rd0)).2 ∧ w = some (.int (I (rdF TX tn 201 (0, 0, 0, RA, rd0)).2.2.2.1)) ∧ EN h' s tn TX (rdF TX tn 201 (0, 0, 0, RA, rd0)).2.2.2.1 (rdF TX tn 201 (0, 0, 0, RA, rd0)).2.2.2.2.1 (rdF TX tn 201 (0, 0, 0, RA, rd0)).2.2.1 0 (stN (rdF TX tn 201 (0, 0, 0, RA, rd0)).2.2.2.2.2)))) := by
  refine M.of (by decide +kernel) (Nat.le_of_ble_eq_true rfl) ?_
  have hrg := rdF_rg (T := TX) (l := tn) rt.2 201 (0, 0, 0, RA, rd0) ⟨Int.le_refl _, show (0 : Int) ≤ 300 by decide⟩ ⟨Or.inl rfl, ⟨Int.le_refl _, show (0 : Int) ≤ 6 by decide⟩, hra, rok_rd0⟩
  refine V_aload_n dX7_configure_0 rfl ?_
  refine V_callV (Y' := YX7_readSetup) dX7_configure_1 lX7_65 gX7_readSetup (m7_readSetup hE rt rx hra) hE.1 rfl rfl rfl (Nat.le_of_ble_eq_true rfl) ⟨Nat.zero_le _, Nat.zero_le _⟩ (fun v h1 sz1 hq => ?_)
  obtain ⟨rfl, hf, rfl, hq⟩ := hq
  refine J_bipush dX7_configure_4 (by decide) ?_
  refine J_icmp_ne (tgt := 19) dX7_configure_6 (by decide) (by omega) (by omega) (fun c6 => ?_) (fun c6 => ?_)
  · rcases hq with ⟨q, _⟩ | ⟨_, hdx⟩
    · exact absurd q c6
    · have hE := hE.setD hf hdx
      refine J_bipush dX7_configure_19 (by decide) ?_
      exact V_iret dX7_configure_21 rfl rfl ⟨Nat.zero_le _, Nat.zero_le _⟩ ⟨rfl, hf.up (by omega), Or.inl ⟨fun w => c6 w.1, rfl, hE⟩⟩
  · rcases hq with ⟨_, hk, hD⟩ | ⟨q, _⟩
    · have hE := hE.setD hf ⟨_, _, _, _, hk.2.1, rok8 hk.2.2.2, hk.2.2.1, hD⟩
      have hk1 := hk.1
      refine V_aload_n dX7_configure_9 rfl ?_
      refine V_get dX7_configure_10 fX7_21 hE.1 rfl ?_
      refine V_getN dX7_configure_13 fX7_85 hD.1 rfl ?_
      refine J_if_ne (tgt := 22) dX7_configure_16 (by decide) (by omega) (fun c16 => ?_) (fun c16 => ?_)
      · refine V_aload_n dX7_configure_22 rfl ?_
        refine V_callV (Y' := YX7_startFromDraft) dX7_configure_23 lX7_68 gX7_startFromDraft (m7_startFromDraft hE h17 h8 hk.2.1 (rok8 hk.2.2.2) hD) hE.1 rfl rfl rfl (Nat.le_of_ble_eq_true rfl) ⟨Nat.zero_le _, Nat.zero_le _⟩ (fun v h2 sz2 hq => ?_)
        obtain ⟨rfl, rfl, hf2, hE⟩ := hq
        refine V_aload_n dX7_configure_26 rfl ?_
        refine V_get dX7_configure_27 fX7_25 hE.1 rfl ?_
        refine V_callV (Y' := YX4_size) dX7_configure_30 lX7_82 gX4_size (m4_size (by decide) hk.2.1 hE.m) hE.m.c rfl rfl rfl (Nat.le_of_ble_eq_true rfl) ⟨Nat.zero_le _, Nat.zero_le _⟩ (fun v h3 sz3 hq => ?_)
        obtain ⟨rfl, rfl, rfl⟩ := hq
        exact V_iret dX7_configure_33 rfl rfl ⟨Nat.zero_le _, Nat.zero_le _⟩ ⟨rfl, (hf.up (by omega)).then hf2, Or.inr ⟨⟨c6, c16⟩, hk, rfl, hE⟩⟩
      · refine J_bipush dX7_configure_19 (by decide) ?_
        exact V_iret dX7_configure_21 rfl rfl ⟨Nat.zero_le _, Nat.zero_le _⟩ ⟨rfl, hf.up (by omega), Or.inl ⟨fun w => w.2 c16, rfl, hE⟩⟩
    · exact absurd c6 q
set_option maxHeartbeats 4000000 in
set_option maxRecDepth 100000 in
theorem l7_bc_5 {z : ZG} {d sz s : Nat} {h : AH} {tn mn pt hn : Int} {TX MK N : Nat → Int} (hE : EN h s tn TX mn MK pt hn N) (hR : ER tn TX mn MK pt hn N) {a : Int} {wd : Nat} (ha : 0 ≤ a ∧ a ≤ 2000) (hw : wd ≤ 1000) : ∀ (fu k : Nat), k ≤ wd → wd - k < fu → V z YX7_brightCells (zroom (d + 2) 0 0) (fun w h' sz' => w = some (.int (I (brs pt N a wd))) ∧ h' = h ∧ sz' = sz) 5 [some (.ref 0), some (.int (I a)), some (.int (I (wd : Int))), some (.int (I (brs pt N a k))), some (.int (I (a + (k : Int))))] [] h sz 0 0 := by
  obtain ⟨rt, rx, rm, rmk, rp, rh, rn⟩ := hR
  intro fu
  induction fu with
  | zero => intro k h1 h2; omega
  | succ fu ih =>
    intro k h1 h2
    refine V_iload dX7_brightCells_5 rfl ?_
    refine V_iload_n dX7_brightCells_7 rfl ?_
    refine V_iload_n dX7_brightCells_8 rfl ?_
    refine J_iadd dX7_brightCells_9 ?_
    refine J_icmp_ge (tgt := 65) dX7_brightCells_10 (by decide) (by omega) (by omega) (fun c10 => ?_) (fun c10 => ?_)
    · refine V_iload_n dX7_brightCells_65 rfl ?_
      exact V_iret dX7_brightCells_66 rfl rfl ⟨Nat.zero_le _, Nat.zero_le _⟩ ⟨by rw [show wd = k by omega], rfl, rfl⟩
    · have h0 := rn.1
      have h6 := rn.2.2.2.1
      have h7 := rn.2.2.2.2.1
      have hbr := brs_rg (sc := pt) (N := N) (a := a) k
      refine V_aload_n dX7_brightCells_13 rfl ?_
      refine V_get dX7_brightCells_14 fX7_45 hE.1 rfl ?_
      refine V_getN dX7_brightCells_17 fX7_135 hE.n.1 rfl ?_
      refine V_iload dX7_brightCells_20 rfl ?_
      refine J_iadd dX7_brightCells_22 ?_
      refine V_aload_n dX7_brightCells_23 rfl ?_
      refine V_get dX7_brightCells_24 fX7_108 hE.1 rfl ?_
      refine V_callS (Y' := YX7_isClear) dX7_brightCells_27 lX7_298 gX7_isClear (m7_isClear (by omega) (by omega)) rfl rfl (Nat.le_of_ble_eq_true rfl) ⟨Nat.zero_le _, Nat.zero_le _⟩ (fun v h1 sz1 hq => ?_)
      obtain ⟨t27, rfl, ht27, rfl, rfl⟩ := hq
      refine J_if_eq (tgt := 59) dX7_brightCells_30 (by decide) (by omega) (fun c30 => ?_) (fun c30 => ?_)
      · refine J_iinc dX7_brightCells_59 rfl ?_
        refine V_goto (tgt := 5) dX7_brightCells_62 (by decide) ?_
        rw [show a + (k : Int) + 1 = a + ((k + 1 : Nat) : Int) by omega]
        first | (rw [show brs pt N a k = brs pt N a (k + 1) by rw [brs_s]; unfold brt; rw [if_neg (by omega), Int.add_zero]]; exact ih (k + 1) (by omega) (by omega)) | (rw [show brs pt N a k + 1 = brs pt N a (k + 1) by rw [brs_s]; unfold brt; rw [if_pos (by omega)]]; exact ih (k + 1) (by omega) (by omega))
      · refine V_iload dX7_brightCells_33 rfl ?_
        refine V_aload_n dX7_brightCells_35 rfl ?_
        refine V_get dX7_brightCells_36 fX7_45 hE.1 rfl ?_
        refine V_getN dX7_brightCells_39 fX7_175 hE.n.1 rfl ?_
        refine J_iadd dX7_brightCells_42 ?_
        refine V_aload_n dX7_brightCells_43 rfl ?_
        refine V_get dX7_brightCells_44 fX7_45 hE.1 rfl ?_
        refine V_getN dX7_brightCells_47 fX7_172 hE.n.1 rfl ?_
        refine V_callS (Y' := YX7_isClear) dX7_brightCells_50 lX7_298 gX7_isClear (m7_isClear (by omega) (by omega)) rfl rfl (Nat.le_of_ble_eq_true rfl) ⟨Nat.zero_le _, Nat.zero_le _⟩ (fun v h1 sz1 hq => ?_)
        obtain ⟨t50, rfl, ht50, rfl, rfl⟩ := hq
        refine J_if_eq (tgt := 59) dX7_brightCells_53 (by decide) (by omega) (fun c53 => ?_) (fun c53 => ?_)
        · refine J_iinc dX7_brightCells_59 rfl ?_
          refine V_goto (tgt := 5) dX7_brightCells_62 (by decide) ?_
          rw [show a + (k : Int) + 1 = a + ((k + 1 : Nat) : Int) by omega]
          first | (rw [show brs pt N a k = brs pt N a (k + 1) by rw [brs_s]; unfold brt; rw [if_neg (by omega), Int.add_zero]]; exact ih (k + 1) (by omega) (by omega)) | (rw [show brs pt N a k + 1 = brs pt N a (k + 1) by rw [brs_s]; unfold brt; rw [if_pos (by omega)]]; exact ih (k + 1) (by omega) (by omega))
        · refine J_iinc dX7_brightCells_56 rfl ?_
          refine J_iinc dX7_brightCells_59 rfl ?_
          refine V_goto (tgt := 5) dX7_brightCells_62 (by decide) ?_
          rw [show a + (k : Int) + 1 = a + ((k + 1 : Nat) : Int) by omega]
          first | (rw [show brs pt N a k = brs pt N a (k + 1) by rw [brs_s]; unfold brt; rw [if_neg (by omega), Int.add_zero]]; exact ih (k + 1) (by omega) (by omega)) | (rw [show brs pt N a k + 1 = brs pt N a (k + 1) by rw [brs_s]; unfold brt; rw [if_pos (by omega)]]; exact ih (k + 1) (by omega) (by omega))
set_option maxHeartbeats 4000000 in
set_option maxRecDepth 100000 in
theorem m7_brightCells {z : ZG} {d sz s : Nat} {h : AH} {tn mn pt hn : Int} {TX MK N : Nat → Int} (hE : EN h s tn TX mn MK pt hn N) (hR : ER tn TX mn MK pt hn N) {a : Int} {wd : Nat} (ha : 0 ≤ a ∧ a ≤ 2000) (hw : wd ≤ 1000) : M z YX7_brightCells (d + 2) 0 0 [.ref 0, .int (I a), .int (I (wd : Int))] h sz (fun w h' sz' => w = some (.int (I (brs pt N a wd))) ∧ h' = h ∧ sz' = sz) := by
  refine M.of (by decide +kernel) (Nat.le_of_ble_eq_true rfl) ?_
  obtain ⟨rt, rx, rm, rmk, rp, rh, rn⟩ := hR
  refine J_iconst dX7_brightCells_0 ?_
  refine V_istore_n dX7_brightCells_1 (Nat.le_of_ble_eq_true rfl) ?_
  refine V_iload_n dX7_brightCells_2 rfl ?_
  refine V_istore dX7_brightCells_3 (Nat.le_of_ble_eq_true rfl) ?_
  have := l7_bc_5 (d := d) (sz := sz) (z := z) hE ⟨rt, rx, rm, rmk, rp, rh, rn⟩ ha hw (wd + 1) 0 (by omega) (by omega)
  rw [show a + ((0 : Nat) : Int) = a by omega] at this
  exact this
set_option maxHeartbeats 4000000 in
set_option maxRecDepth 100000 in
theorem m7_brightness {z : ZG} {d sz s : Nat} {h : AH} {tn mn pt hn : Int} {TX MK N : Nat → Int} (hE : EN h s tn TX mn MK pt hn N) (hR : ER tn TX mn MK pt hn N) {a wd : Int} (hva : -2147483648 ≤ a ∧ a < 2147483648) (hvwd : -2147483648 ≤ wd ∧ wd < 2147483648) : M z YX7_brightness (d + 3) 0 0 [.ref 0, .int (I a), .int (I wd)] h sz (fun w h' sz' => ∃ v : Int, w = some (.int (I v)) ∧ ((v = brs pt N a wd.toNat ∧ (0 ≤ a ∧ a ≤ 999) ∧ 1 ≤ wd ∧ wd ≤ 200) ∨ (v = -1 ∧ ¬ ((0 ≤ a ∧ a ≤ 999) ∧ 1 ≤ wd ∧ wd ≤ 200))) ∧ h' = h ∧ sz' = sz) := by
  refine M.of (by decide +kernel) (Nat.le_of_ble_eq_true rfl) ?_
  obtain ⟨rt, rx, rm, rmk, rp, rh, rn⟩ := hR
  refine V_iload_n dX7_brightness_0 rfl ?_
  refine J_iconst dX7_brightness_1 ?_
  refine J_sipush dX7_brightness_2 (by decide) ?_
  refine V_callS (Y' := YX7_within) dX7_brightness_5 lX7_74 gX7_within (m7_within (by omega) (by omega) (by omega)) rfl rfl (Nat.le_of_ble_eq_true rfl) ⟨Nat.zero_le _, Nat.zero_le _⟩ (fun v h1 sz1 hq => ?_)
  obtain ⟨t5, rfl, ht5, rfl, rfl⟩ := hq
  refine J_if_eq (tgt := 22) dX7_brightness_8 (by decide) (by omega) (fun c8 => ?_) (fun c8 => ?_)
  · refine J_iconst dX7_brightness_22 ?_
    exact V_iret dX7_brightness_23 rfl rfl ⟨Nat.zero_le _, Nat.zero_le _⟩ ⟨_, rfl, by omega, rfl, rfl⟩
  · refine V_iload_n dX7_brightness_11 rfl ?_
    refine J_iconst dX7_brightness_12 ?_
    refine J_sipush dX7_brightness_13 (by decide) ?_
    refine V_callS (Y' := YX7_within) dX7_brightness_16 lX7_74 gX7_within (m7_within (by omega) (by omega) (by omega)) rfl rfl (Nat.le_of_ble_eq_true rfl) ⟨Nat.zero_le _, Nat.zero_le _⟩ (fun v h1 sz1 hq => ?_)
    obtain ⟨t16, rfl, ht16, rfl, rfl⟩ := hq
    refine J_if_ne (tgt := 24) dX7_brightness_19 (by decide) (by omega) (fun c19 => ?_) (fun c19 => ?_)
    · refine V_aload_n dX7_brightness_24 rfl ?_
      refine V_iload_n dX7_brightness_25 rfl ?_
      refine V_iload_n dX7_brightness_26 rfl ?_
      refine V_top (b := ((wd.toNat : Nat) : Int)) (by omega) ?_
      refine V_callV (Y' := YX7_brightCells) dX7_brightness_27 lX7_286 gX7_brightCells (m7_brightCells (wd := wd.toNat) hE ⟨rt, rx, rm, rmk, rp, rh, rn⟩ (by omega) (by omega)) hE.1 rfl rfl rfl (Nat.le_of_ble_eq_true rfl) ⟨Nat.zero_le _, Nat.zero_le _⟩ (fun v h1 sz1 hq => ?_)
      obtain ⟨rfl, rfl, rfl⟩ := hq
      exact V_iret dX7_brightness_30 rfl rfl ⟨Nat.zero_le _, Nat.zero_le _⟩ ⟨_, rfl, by omega, rfl, rfl⟩
    · refine J_iconst dX7_brightness_22 ?_
      exact V_iret dX7_brightness_23 rfl rfl ⟨Nat.zero_le _, Nat.zero_le _⟩ ⟨_, rfl, by omega, rfl, rfl⟩
theorem brs_sl {sc : Int} {N : Nat → Int} {a : Int} : ∀ k : Nat, brs sc N (a + 1) k = brs sc N a k + brt sc N (a + k) - brt sc N a := by
  intro k
  induction k with
  | zero => show (0 : Int) = 0 + brt sc N (a + ((0 : Nat) : Int)) - brt sc N a; rw [show a + ((0 : Nat) : Int) = a by omega]; omega
  | succ k ih =>
    rw [brs_s, brs_s, ih, show a + 1 + (k : Int) = a + ((k + 1 : Nat) : Int) by omega]
    omega
theorem brs_1 {sc : Int} {N : Nat → Int} {a : Int} : brs sc N a 1 = brt sc N a := by
  show (0 : Int) + brt sc N (a + ((0 : Nat) : Int)) = _
  rw [show a + ((0 : Nat) : Int) = a by omega]; omega
set_option maxHeartbeats 4000000 in
set_option maxRecDepth 100000 in
theorem l7_bs_28 {z : ZG} {d sz s : Nat} {h : AH} {tn mn pt hn : Int} {TX MK N : Nat → Int} (hE : EN h s tn TX mn MK pt hn N) (hR : ER tn TX mn MK pt hn N) {wd : Nat} (hw : 1 ≤ wd ∧ wd ≤ 200) : ∀ (fu k : Nat) (br most best : Int), 1 ≤ k → k ≤ 200 → 200 - k < fu → br = brs pt N ((k : Int) - 1) wd → best = (bb pt N wd k).1 → most = (bb pt N wd k).2 → V z YX7_brightestStart (zroom (d + 3) 0 0) (fun w h' sz' => w = some (.int (I (bb pt N wd 200).1)) ∧ h' = h ∧ sz' = sz) 28 [some (.ref 0), some (.int (I (wd : Int))), some (.int (I br)), some (.int (I most)), some (.int (I best)), some (.int (I (k : Int)))] [] h sz 0 0 := by
  obtain ⟨rt, rx, rm, rmk, rp, rh, rn⟩ := hR
  intro fu
  induction fu with
  | zero => intro k br most best h1 h2 h3; omega
  | succ fu ih =>
    intro k br most best h1 h2 h3 hbr hbest hmost
    refine V_iload dX7_brightestStart_28 rfl ?_
    refine J_sipush dX7_brightestStart_30 (by decide) ?_
    refine J_icmp_gt (tgt := 77) dX7_brightestStart_33 (by decide) (by omega) (by omega) (fun c33 => ?_) (fun c33 => ?_)
    · refine V_iload dX7_brightestStart_77 rfl ?_
      exact V_iret dX7_brightestStart_79 rfl rfl ⟨Nat.zero_le _, Nat.zero_le _⟩ ⟨by rw [hbest, show k = 200 by omega], rfl, rfl⟩
    · have hb1 := brs_rg (sc := pt) (N := N) (a := (k : Int) - 1) wd
      have hsl := brs_sl (sc := pt) (N := N) (a := (k : Int) - 1) wd
      rw [show (k : Int) - 1 + 1 = (k : Int) by omega, show (k : Int) - 1 + (wd : Int) = (k : Int) + (wd : Int) - 1 by omega] at hsl
      have hb2 := brs_rg (sc := pt) (N := N) (a := (k : Int)) wd
      have hbb := bb_rg (sc := pt) (N := N) (wd := wd) k
      refine V_iload_n dX7_brightestStart_36 rfl ?_
      refine V_aload_n dX7_brightestStart_37 rfl ?_
      refine V_iload dX7_brightestStart_38 rfl ?_
      refine V_iload_n dX7_brightestStart_40 rfl ?_
      refine J_iadd dX7_brightestStart_41 ?_
      refine J_iconst dX7_brightestStart_42 ?_
      refine J_isub dX7_brightestStart_43 ?_
      refine J_iconst dX7_brightestStart_44 ?_
      refine V_callV (Y' := YX7_brightCells) dX7_brightestStart_45 lX7_286 gX7_brightCells (m7_brightCells (wd := 1) hE ⟨rt, rx, rm, rmk, rp, rh, rn⟩ (by omega) (by omega)) hE.1 rfl rfl rfl (Nat.le_of_ble_eq_true rfl) ⟨Nat.zero_le _, Nat.zero_le _⟩ (fun v h1 sz1 hq => ?_)
      obtain ⟨rfl, rfl, rfl⟩ := hq
      rw [brs_1]
      refine V_aload_n dX7_brightestStart_48 rfl ?_
      refine V_iload dX7_brightestStart_49 rfl ?_
      refine J_iconst dX7_brightestStart_51 ?_
      refine J_isub dX7_brightestStart_52 ?_
      refine J_iconst dX7_brightestStart_53 ?_
      refine V_callV (Y' := YX7_brightCells) dX7_brightestStart_54 lX7_286 gX7_brightCells (m7_brightCells (wd := 1) hE ⟨rt, rx, rm, rmk, rp, rh, rn⟩ (by omega) (by omega)) hE.1 rfl rfl rfl (Nat.le_of_ble_eq_true rfl) ⟨Nat.zero_le _, Nat.zero_le _⟩ (fun v h1 sz1 hq => ?_)
      obtain ⟨rfl, rfl, rfl⟩ := hq
      rw [brs_1]
      refine J_isub dX7_brightestStart_57 ?_
      refine J_iadd dX7_brightestStart_58 ?_
      refine V_top (b := brs pt N (k : Int) wd) (by omega) ?_
      refine V_istore_n dX7_brightestStart_59 (Nat.le_of_ble_eq_true rfl) ?_
      refine V_iload_n dX7_brightestStart_60 rfl ?_
      refine V_iload_n dX7_brightestStart_61 rfl ?_
      refine J_icmp_le (tgt := 71) dX7_brightestStart_62 (by decide) (by omega) (by omega) (fun c62 => ?_) (fun c62 => ?_)
      · refine J_iinc dX7_brightestStart_71 rfl ?_
        refine V_goto (tgt := 28) dX7_brightestStart_74 (by decide) ?_
        rw [show ((k : Int) + 1) = ((k + 1 : Nat) : Int) by omega]
        refine ih (k + 1) _ _ _ (by omega) (by omega) (by omega) ?_ ?_ ?_
        · rw [show (((k + 1 : Nat) : Int) - 1) = (k : Int) by omega]
        · rw [bb_s]; first | (rw [if_pos (by omega)]) | (rw [if_neg (by omega)]; exact hbest)
        · rw [bb_s]; first | (rw [if_pos (by omega)]) | (rw [if_neg (by omega)]; exact hmost)
      · refine V_iload_n dX7_brightestStart_65 rfl ?_
        refine V_istore_n dX7_brightestStart_66 (Nat.le_of_ble_eq_true rfl) ?_
        refine V_iload dX7_brightestStart_67 rfl ?_
        refine V_istore dX7_brightestStart_69 (Nat.le_of_ble_eq_true rfl) ?_
        refine J_iinc dX7_brightestStart_71 rfl ?_
        refine V_goto (tgt := 28) dX7_brightestStart_74 (by decide) ?_
        rw [show ((k : Int) + 1) = ((k + 1 : Nat) : Int) by omega]
        refine ih (k + 1) _ _ _ (by omega) (by omega) (by omega) ?_ ?_ ?_
        · rw [show (((k + 1 : Nat) : Int) - 1) = (k : Int) by omega]
        · rw [bb_s]; first | (rw [if_pos (by omega)]) | (rw [if_neg (by omega)]; exact hbest)
        · rw [bb_s]; first | (rw [if_pos (by omega)]) | (rw [if_neg (by omega)]; exact hmost)
set_option maxHeartbeats 4000000 in
set_option maxRecDepth 100000 in
theorem m7_brightestStart {z : ZG} {d sz s : Nat} {h : AH} {tn mn pt hn : Int} {TX MK N : Nat → Int} (hE : EN h s tn TX mn MK pt hn N) (hR : ER tn TX mn MK pt hn N) {wd : Int} (hvwd : -2147483648 ≤ wd ∧ wd < 2147483648) : M z YX7_brightestStart (d + 3) 0 0 [.ref 0, .int (I wd)] h sz (fun w h' sz' => ∃ v : Int, w = some (.int (I v)) ∧ ((v = (bb pt N wd.toNat 200).1 ∧ 1 ≤ wd ∧ wd ≤ 200) ∨ (v = -1 ∧ ¬ (1 ≤ wd ∧ wd ≤ 200))) ∧ h' = h ∧ sz' = sz) := by
  refine M.of (by decide +kernel) (Nat.le_of_ble_eq_true rfl) ?_
  obtain ⟨rt, rx, rm, rmk, rp, rh, rn⟩ := hR
  refine V_iload_n dX7_brightestStart_0 rfl ?_
  refine J_iconst dX7_brightestStart_1 ?_
  refine J_sipush dX7_brightestStart_2 (by decide) ?_
  refine V_callS (Y' := YX7_within) dX7_brightestStart_5 lX7_74 gX7_within (m7_within (by omega) (by omega) (by omega)) rfl rfl (Nat.le_of_ble_eq_true rfl) ⟨Nat.zero_le _, Nat.zero_le _⟩ (fun v h1 sz1 hq => ?_)
  obtain ⟨t5, rfl, ht5, rfl, rfl⟩ := hq
  refine J_if_ne (tgt := 13) dX7_brightestStart_8 (by decide) (by omega) (fun c8 => ?_) (fun c8 => ?_)
  · refine V_aload_n dX7_brightestStart_13 rfl ?_
    refine J_iconst dX7_brightestStart_14 ?_
    refine V_iload_n dX7_brightestStart_15 rfl ?_
    refine V_top (b := ((wd.toNat : Nat) : Int)) (by omega) ?_
    refine V_callV (Y' := YX7_brightCells) dX7_brightestStart_16 lX7_286 gX7_brightCells (m7_brightCells (a := 0) (wd := wd.toNat) hE ⟨rt, rx, rm, rmk, rp, rh, rn⟩ (by omega) (by omega)) hE.1 rfl rfl rfl (Nat.le_of_ble_eq_true rfl) ⟨Nat.zero_le _, Nat.zero_le _⟩ (fun v h1 sz1 hq => ?_)
    obtain ⟨rfl, rfl, rfl⟩ := hq
    refine V_istore_n dX7_brightestStart_19 (Nat.le_of_ble_eq_true rfl) ?_
    refine V_iload_n dX7_brightestStart_20 rfl ?_
    refine V_istore_n dX7_brightestStart_21 (Nat.le_of_ble_eq_true rfl) ?_
    refine J_iconst dX7_brightestStart_22 ?_
    refine V_istore dX7_brightestStart_23 (Nat.le_of_ble_eq_true rfl) ?_
    refine J_iconst dX7_brightestStart_25 ?_
    refine V_istore dX7_brightestStart_26 (Nat.le_of_ble_eq_true rfl) ?_
    have hb1 := brs_rg (sc := pt) (N := N) (a := 0) wd.toNat
    obtain ⟨wn, rfl⟩ : ∃ wn : Nat, wd = wn := ⟨wd.toNat, by omega⟩
    rw [Int.toNat_natCast] at *
    have hb0 : (bb pt N wn 0).2 < brs pt N ((0 : Nat) : Int) wn := by show (-1 : Int) < brs pt N 0 wn; omega
    refine V_mono ?_ (l7_bs_28 (wd := wn) hE ⟨rt, rx, rm, rmk, rp, rh, rn⟩ (by omega) 200 1 _ _ _ (by omega) (by omega) (by omega) rfl ?_ ?_)
    · rintro w h9 sz9 ⟨rfl, rfl, rfl⟩; exact ⟨_, rfl, Or.inl ⟨rfl, by omega, by omega⟩, rfl, rfl⟩
    · rw [bb_s, if_pos hb0]; rfl
    · rw [bb_s, if_pos hb0]; rfl
  · refine J_iconst dX7_brightestStart_11 ?_
    exact V_iret dX7_brightestStart_12 rfl rfl ⟨Nat.zero_le _, Nat.zero_le _⟩ ⟨_, rfl, by omega, rfl, rfl⟩
set_option maxHeartbeats 4000000 in
set_option maxRecDepth 100000 in
theorem m7_pitchDifference {z : ZG} {d sz s : Nat} {h : AH} {tn mn pt hn : Int} {TX MK N : Nat → Int} (hE : EN h s tn TX mn MK pt hn N) (hR : ER tn TX mn MK pt hn N) : M z YX7_pitchDifference (d + 1) 0 0 [.ref 0] h sz (fun w h' sz' => w = some (.int (I ((pt - N 6).natAbs : Int))) ∧ h' = h ∧ sz' = sz) := by
  refine M.of (by decide +kernel) (Nat.le_of_ble_eq_true rfl) ?_
  obtain ⟨rt, rx, rm, rmk, rp, rh, rn⟩ := hR
  have h6 := rn.2.2.2.1
  refine V_aload_n dX7_pitchDifference_0 rfl ?_
  refine V_get dX7_pitchDifference_1 fX7_108 hE.1 rfl ?_
  refine V_aload_n dX7_pitchDifference_4 rfl ?_
  refine V_get dX7_pitchDifference_5 fX7_45 hE.1 rfl ?_
  refine V_getN dX7_pitchDifference_8 fX7_172 hE.n.1 rfl ?_
  refine J_isub dX7_pitchDifference_11 ?_
  refine J_mabs (by omega) rfl dX7_pitchDifference_12 (Nat.le_of_ble_eq_true rfl) ⟨Nat.zero_le _, Nat.zero_le _⟩ ?_
  exact V_iret dX7_pitchDifference_15 rfl rfl ⟨Nat.zero_le _, Nat.zero_le _⟩ ⟨rfl, rfl, rfl⟩
theorem V_top2 {z : ZG} {Y : ZM} {R : Room} {Q : ZQ} {pc : Nat} {L : AL} {st : List Value} {h : AH} {sz kc nc : Nat} {a b a2 b2 : Int} (e : a = a2) (e2 : b = b2) (k : V z Y R Q pc L (.int (I a2) :: .int (I b2) :: st) h sz kc nc) : V z Y R Q pc L (.int (I a) :: .int (I b) :: st) h sz kc nc := by rw [e, e2]; exact k
set_option maxHeartbeats 4000000 in
set_option maxRecDepth 100000 in
theorem m7_overlayPeriod {z : ZG} {d sz s : Nat} {h : AH} {tn mn pt hn : Int} {TX MK N : Nat → Int} (hE : EN h s tn TX mn MK pt hn N) (hR : ER tn TX mn MK pt hn N) : M z YX7_overlayPeriod (d + 1) 0 0 [.ref 0] h sz (fun w h' sz' => w = some (.int (I (pt * N 6 / (Nat.gcd pt.toNat (N 6).toNat : Int)))) ∧ h' = h ∧ sz' = sz) := by
  refine M.of (by decide +kernel) (Nat.le_of_ble_eq_true rfl) ?_
  obtain ⟨rt, rx, rm, rmk, rp, rh, rn⟩ := hR
  have h6 := rn.2.2.2.1
  have hpq := pq_rg rp h6
  have hg := gcd_rg (a := pt.toNat) (b := (N 6).toNat) (by omega)
  refine V_aload_n dX7_overlayPeriod_0 rfl ?_
  refine V_get dX7_overlayPeriod_1 fX7_108 hE.1 rfl ?_
  refine V_aload_n dX7_overlayPeriod_4 rfl ?_
  refine V_get dX7_overlayPeriod_5 fX7_45 hE.1 rfl ?_
  refine V_getN dX7_overlayPeriod_8 fX7_172 hE.n.1 rfl ?_
  refine J_imul dX7_overlayPeriod_11 ?_
  refine V_aload_n dX7_overlayPeriod_12 rfl ?_
  refine V_get dX7_overlayPeriod_13 fX7_108 hE.1 rfl ?_
  refine V_aload_n dX7_overlayPeriod_16 rfl ?_
  refine V_get dX7_overlayPeriod_17 fX7_45 hE.1 rfl ?_
  refine V_getN dX7_overlayPeriod_20 fX7_172 hE.n.1 rfl ?_
  refine V_top2 (a2 := (((N 6).toNat : Nat) : Int)) (b2 := ((pt.toNat : Nat) : Int)) (by omega) (by omega) ?_
  refine V_callS (Y' := YX7_commonDivisor) dX7_overlayPeriod_23 lX7_289 gX7_commonDivisor (m7_commonDivisor (u := pt.toNat) (v := (N 6).toNat) (by omega) (by omega) (by omega)) rfl rfl (Nat.le_of_ble_eq_true rfl) ⟨Nat.zero_le _, Nat.zero_le _⟩ (fun v h1 sz1 hq => ?_)
  obtain ⟨rfl, rfl, rfl⟩ := hq
  refine V_callS (Y' := YX7_quotient) dX7_overlayPeriod_26 lX7_231 gX7_quotient (m7_quotient (by omega) (by omega)) rfl rfl (Nat.le_of_ble_eq_true rfl) ⟨Nat.zero_le _, Nat.zero_le _⟩ (fun v h1 sz1 hq => ?_)
  obtain ⟨rfl, rfl, rfl⟩ := hq
  exact V_iret dX7_overlayPeriod_29 rfl rfl ⟨Nat.zero_le _, Nat.zero_le _⟩ ⟨rfl, rfl, rfl⟩
set_option maxHeartbeats 4000000 in
set_option maxRecDepth 100000 in
theorem m7_inLowestTerms {z : ZG} {d sz s : Nat} {h : AH} {tn mn pt hn : Int} {TX MK N : Nat → Int} (hE : EN h s tn TX mn MK pt hn N) (hR : ER tn TX mn MK pt hn N) {x : Int} (hx : 0 ≤ x ∧ x < 100000) : M z YX7_inLowestTerms (d + 2) 0 0 [.ref 0, .int (I x)] h sz (fun w h' sz' => ∃ v : Int, w = some (.int (I v)) ∧ (((pt - N 6).natAbs = 0 ∧ v = -4) ∨ (¬ (pt - N 6).natAbs = 0 ∧ v = x / (Nat.gcd (pt * N 6).toNat (pt - N 6).natAbs : Int))) ∧ h' = h ∧ sz' = sz) := by
  refine M.of (by decide +kernel) (Nat.le_of_ble_eq_true rfl) ?_
  obtain ⟨rt, rx, rm, rmk, rp, rh, rn⟩ := hR
  have h6 := rn.2.2.2.1
  have hpq := pq_rg rp h6
  have hg := gcd_rg (a := (pt * N 6).toNat) (b := (pt - N 6).natAbs) (by omega)
  refine V_aload_n dX7_inLowestTerms_0 rfl ?_
  refine V_callV (Y' := YX7_pitchDifference) dX7_inLowestTerms_1 lX7_295 gX7_pitchDifference (m7_pitchDifference hE ⟨rt, rx, rm, rmk, rp, rh, rn⟩) hE.1 rfl rfl rfl (Nat.le_of_ble_eq_true rfl) ⟨Nat.zero_le _, Nat.zero_le _⟩ (fun v h1 sz1 hq => ?_)
  obtain ⟨rfl, rfl, rfl⟩ := hq
  refine V_istore_n dX7_inLowestTerms_4 (Nat.le_of_ble_eq_true rfl) ?_
  refine V_iload_n dX7_inLowestTerms_5 rfl ?_
  refine J_if_ne (tgt := 12) dX7_inLowestTerms_6 (by decide) (by omega) (fun c6 => ?_) (fun c6 => ?_)
  · refine V_iload_n dX7_inLowestTerms_12 rfl ?_
    refine V_aload_n dX7_inLowestTerms_13 rfl ?_
    refine V_get dX7_inLowestTerms_14 fX7_108 hE.1 rfl ?_
    refine V_aload_n dX7_inLowestTerms_17 rfl ?_
    refine V_get dX7_inLowestTerms_18 fX7_45 hE.1 rfl ?_
    refine V_getN dX7_inLowestTerms_21 fX7_172 hE.n.1 rfl ?_
    refine J_imul dX7_inLowestTerms_24 ?_
    refine V_iload_n dX7_inLowestTerms_25 rfl ?_
    refine V_top2 (a2 := (((pt - N 6).natAbs : Nat) : Int)) (b2 := (((pt * N 6).toNat : Nat) : Int)) (by omega) (by omega) ?_
    refine V_callS (Y' := YX7_commonDivisor) dX7_inLowestTerms_26 lX7_289 gX7_commonDivisor (m7_commonDivisor (u := (pt * N 6).toNat) (v := (pt - N 6).natAbs) (by omega) (by omega) (by omega)) rfl rfl (Nat.le_of_ble_eq_true rfl) ⟨Nat.zero_le _, Nat.zero_le _⟩ (fun v h1 sz1 hq => ?_)
    obtain ⟨rfl, rfl, rfl⟩ := hq
    refine V_callS (Y' := YX7_quotient) dX7_inLowestTerms_29 lX7_231 gX7_quotient (m7_quotient (by omega) (by omega)) rfl rfl (Nat.le_of_ble_eq_true rfl) ⟨Nat.zero_le _, Nat.zero_le _⟩ (fun v h1 sz1 hq => ?_)
    obtain ⟨rfl, rfl, rfl⟩ := hq
    exact V_iret dX7_inLowestTerms_32 rfl rfl ⟨Nat.zero_le _, Nat.zero_le _⟩ ⟨_, rfl, by first | exact Or.inl ⟨by omega, rfl⟩ | exact Or.inr ⟨by omega, rfl⟩, rfl, rfl⟩
  · refine J_bipush dX7_inLowestTerms_9 (by decide) ?_
    exact V_iret dX7_inLowestTerms_11 rfl rfl ⟨Nat.zero_le _, Nat.zero_le _⟩ ⟨_, rfl, by first | exact Or.inl ⟨by omega, rfl⟩ | exact Or.inr ⟨by omega, rfl⟩, rfl, rfl⟩
set_option maxHeartbeats 4000000 in
set_option maxRecDepth 100000 in
theorem m7_fringePeriodNumerator {z : ZG} {d sz s : Nat} {h : AH} {tn mn pt hn : Int} {TX MK N : Nat → Int} (hE : EN h s tn TX mn MK pt hn N) (hR : ER tn TX mn MK pt hn N) : M z YX7_fringePeriodNumerator (d + 3) 0 0 [.ref 0] h sz (fun w h' sz' => ∃ v : Int, w = some (.int (I v)) ∧ (((pt - N 6).natAbs = 0 ∧ v = -4) ∨ (¬ (pt - N 6).natAbs = 0 ∧ v = (pt * N 6) / (Nat.gcd (pt * N 6).toNat (pt - N 6).natAbs : Int))) ∧ h' = h ∧ sz' = sz) := by
  refine M.of (by decide +kernel) (Nat.le_of_ble_eq_true rfl) ?_
  obtain ⟨rt, rx, rm, rmk, rp, rh, rn⟩ := hR
  have h6 := rn.2.2.2.1
  have hpq := pq_rg rp h6
  refine V_aload_n dX7_fringePeriodNumerator_0 rfl ?_
  refine V_aload_n dX7_fringePeriodNumerator_1 rfl ?_
  refine V_get dX7_fringePeriodNumerator_2 fX7_108 hE.1 rfl ?_
  refine V_aload_n dX7_fringePeriodNumerator_5 rfl ?_
  refine V_get dX7_fringePeriodNumerator_6 fX7_45 hE.1 rfl ?_
  refine V_getN dX7_fringePeriodNumerator_9 fX7_172 hE.n.1 rfl ?_
  refine J_imul dX7_fringePeriodNumerator_12 ?_
  refine V_callV (Y' := YX7_inLowestTerms) dX7_fringePeriodNumerator_13 lX7_292 gX7_inLowestTerms (m7_inLowestTerms hE ⟨rt, rx, rm, rmk, rp, rh, rn⟩ (by omega)) hE.1 rfl rfl rfl (Nat.le_of_ble_eq_true rfl) ⟨Nat.zero_le _, Nat.zero_le _⟩ (fun v h1 sz1 hq => ?_)
  obtain ⟨v8, rfl, hv8, rfl, rfl⟩ := hq
  exact V_iret dX7_fringePeriodNumerator_16 rfl rfl ⟨Nat.zero_le _, Nat.zero_le _⟩ ⟨_, rfl, hv8, rfl, rfl⟩
set_option maxHeartbeats 4000000 in
set_option maxRecDepth 100000 in
theorem m7_fringePeriodDenominator {z : ZG} {d sz s : Nat} {h : AH} {tn mn pt hn : Int} {TX MK N : Nat → Int} (hE : EN h s tn TX mn MK pt hn N) (hR : ER tn TX mn MK pt hn N) : M z YX7_fringePeriodDenominator (d + 3) 0 0 [.ref 0] h sz (fun w h' sz' => ∃ v : Int, w = some (.int (I v)) ∧ (((pt - N 6).natAbs = 0 ∧ v = -4) ∨ (¬ (pt - N 6).natAbs = 0 ∧ v = ((pt - N 6).natAbs : Int) / (Nat.gcd (pt * N 6).toNat (pt - N 6).natAbs : Int))) ∧ h' = h ∧ sz' = sz) := by
  refine M.of (by decide +kernel) (Nat.le_of_ble_eq_true rfl) ?_
  obtain ⟨rt, rx, rm, rmk, rp, rh, rn⟩ := hR
  have h6 := rn.2.2.2.1
  have hpq := pq_rg rp h6
  refine V_aload_n dX7_fringePeriodDenominator_0 rfl ?_
  refine V_aload_n dX7_fringePeriodDenominator_1 rfl ?_
  refine V_callV (Y' := YX7_pitchDifference) dX7_fringePeriodDenominator_2 lX7_295 gX7_pitchDifference (m7_pitchDifference hE ⟨rt, rx, rm, rmk, rp, rh, rn⟩) hE.1 rfl rfl rfl (Nat.le_of_ble_eq_true rfl) ⟨Nat.zero_le _, Nat.zero_le _⟩ (fun v h1 sz1 hq => ?_)
  obtain ⟨rfl, rfl, rfl⟩ := hq
  refine V_callV (Y' := YX7_inLowestTerms) dX7_fringePeriodDenominator_5 lX7_292 gX7_inLowestTerms (m7_inLowestTerms hE ⟨rt, rx, rm, rmk, rp, rh, rn⟩ (by omega)) hE.1 rfl rfl rfl (Nat.le_of_ble_eq_true rfl) ⟨Nat.zero_le _, Nat.zero_le _⟩ (fun v h1 sz1 hq => ?_)
  obtain ⟨v8, rfl, hv8, rfl, rfl⟩ := hq
  exact V_iret dX7_fringePeriodDenominator_8 rfl rfl ⟨Nat.zero_le _, Nat.zero_le _⟩ ⟨_, rfl, hv8, rfl, rfl⟩
section Ldcw
variable {p : Program} {l : Launch} {e : Env} {R : Room} {s : State} {m : MethodId} {args : Array Value} {below : List Frame} {meth : Method} {c : Code} {locs : List Loc} {cells slots : Nat}
theorem zw_ldcwF {T : State} (X : Stand p l e R s m args below meth c T locs cells slots) (hexec : p.tables.exec = Jvm.exec) {own : String} {index : Nat} {v : UInt32} (hown : s.vm.findClass own = some m.cls)
    (hconst : (Cond.constantFloat own index v).before args s = true) {g : JFrame} (hg : g.method = m) (hdg : decode c.code g.pc = .ok (.ldc_w index, 3)) :
    ∀ target, Steps p.tables e below (T.setTop { g with pc := g.pc + 3, stack := .float v :: g.stack }) target → Steps p.tables e below (T.setTop g) target := by
  obtain ⟨k, cf, hk, hcf, hcp⟩ := Cond.constantFloat_spec hown hconst
  obtain ⟨k', hk', he⟩ := X.warmed.alike.2.2 _ _ hk
  intro target hrest
  subst hg
  jvm_step X.here [hexec, hdg, ldc_w.wp_float (s := T) (f := g) X.here.top hk' (by rw [he]; exact hcf) hcp]
  exact hrest
end Ldcw
theorem V_ldcwf {z : ZG} {Y : ZM} {R : Room} {Q : ZQ} {pc : Nat} {L : AL} {st : List Value} {h : AH} {sz kc nc : Nat} {i : Nat} {v : UInt32} (hd : decode Y.2.1 pc = .ok (.ldc_w i, 3)) (hw : Cond.constantFloat Y.1.cls i v ∈ gw) (kk : V z Y R Q (pc + 3) L (.float v :: st) h sz kc nc) : V z Y R Q pc L st h sz kc nc := by
  intro p e s m args below meth c d0 H locs ls C hd0 hL hr T hT X
  obtain ⟨t, a, b⟩ := kk p e s m args below meth c d0 H locs ls C hd0 hL hr T hT X
  exact ⟨t, zw_ldcwF X C.1 C.2.2.2.1 (dr_words C.2.2.2.2.1 d0 _ hw) (g := F0 m pc ls (st.map (shv z.2.1))) rfl (by rw [C.2.1]; exact hd) t a, b⟩
set_option maxHeartbeats 4000000 in
set_option maxRecDepth 100000 in
theorem l7_bo_67 {z : ZG} {d sz : Nat} {h : AH} {b f : UInt32} {ex : Int} {o3 : Option Value} : V z YX7_bitsOf (zroom d 0 0) (fun w h' sz' => (∃ v : Int32, w = some (.int v)) ∧ h' = h ∧ sz' = sz) 67 [some (.float b), some (.float f), some (.int (I ex)), o3] [] h sz 0 0 := by
  refine V_iload_n dX7_bitsOf_67 rfl ?_
  refine J_bipush dX7_bitsOf_68 (by decide) ?_
  refine V_ishl dX7_bitsOf_70 ?_
  refine V_fload_n dX7_bitsOf_71 rfl ?_
  refine V_fconst1 dX7_bitsOf_72 ?_
  refine V_fsub dX7_bitsOf_73 (fun f73 hf73 => ?_)
  refine V_ldcwf dX7_bitsOf_74 cX7_301 ?_
  refine V_fmul dX7_bitsOf_77 (fun f77 hf77 => ?_)
  refine V_f2i dX7_bitsOf_78 ?_
  refine V_iadd dX7_bitsOf_79 ?_
  exact V_iret dX7_bitsOf_80 rfl rfl ⟨Nat.zero_le _, Nat.zero_le _⟩ ⟨⟨_, rfl⟩, rfl, rfl⟩
set_option maxHeartbeats 4000000 in
set_option maxRecDepth 100000 in
theorem l7_bo_42 {z : ZG} {d sz : Nat} {h : AH} {b : UInt32} : ∀ (fu k : Nat) (f : UInt32) (ex : Int), k ≤ 127 → 127 - k < fu → V z YX7_bitsOf (zroom d 0 0) (fun w h' sz' => (∃ v : Int32, w = some (.int v)) ∧ h' = h ∧ sz' = sz) 42 [some (.float b), some (.float f), some (.int (I ex)), some (.int (I (k : Int)))] [] h sz 0 0 := by
  intro fu
  induction fu with
  | zero => intro k f ex h1 h2; omega
  | succ fu ih =>
    intro k f ex h1 h2
    refine V_iload_n dX7_bitsOf_42 rfl ?_
    refine J_bipush dX7_bitsOf_43 (by decide) ?_
    refine J_icmp_ge (tgt := 67) dX7_bitsOf_45 (by decide) (by omega) (by omega) (fun c45 => ?_) (fun c45 => ?_)
    · exact l7_bo_67
    · refine V_fload_n dX7_bitsOf_48 rfl ?_
      refine V_fconst1 dX7_bitsOf_49 ?_
      refine V_fcmp dX7_bitsOf_50 ?_
      refine V_if_ge (tgt := 67) dX7_bitsOf_51 (by decide) (fun c51 => ?_) (fun c51 => ?_)
      · exact l7_bo_67
      · refine V_fload_n dX7_bitsOf_54 rfl ?_
        refine V_fconst2 dX7_bitsOf_55 ?_
        refine V_fmul dX7_bitsOf_56 (fun f56 hf56 => ?_)
        refine V_fstore_n dX7_bitsOf_57 (Nat.le_of_ble_eq_true rfl) ?_
        refine J_iinc dX7_bitsOf_58 rfl ?_
        refine J_iinc dX7_bitsOf_61 rfl ?_
        refine V_goto (tgt := 42) dX7_bitsOf_64 (by decide) ?_
        rw [show ((k : Int) + 1) = ((k + 1 : Nat) : Int) by omega]
        exact ih (k + 1) _ _ (by omega) (by omega)
set_option maxHeartbeats 4000000 in
set_option maxRecDepth 100000 in
theorem l7_bo_15 {z : ZG} {d sz : Nat} {h : AH} {b : UInt32} : ∀ (fu k : Nat) (f : UInt32) (ex : Int), k ≤ 127 → 127 - k < fu → V z YX7_bitsOf (zroom d 0 0) (fun w h' sz' => (∃ v : Int32, w = some (.int v)) ∧ h' = h ∧ sz' = sz) 15 [some (.float b), some (.float f), some (.int (I ex)), some (.int (I (k : Int)))] [] h sz 0 0 := by
  intro fu
  induction fu with
  | zero => intro k f ex h1 h2; omega
  | succ fu ih =>
    intro k f ex h1 h2
    refine V_iload_n dX7_bitsOf_15 rfl ?_
    refine J_bipush dX7_bitsOf_16 (by decide) ?_
    refine J_icmp_ge (tgt := 40) dX7_bitsOf_18 (by decide) (by omega) (by omega) (fun c18 => ?_) (fun c18 => ?_)
    · refine J_iconst dX7_bitsOf_40 ?_
      refine V_istore_n dX7_bitsOf_41 (Nat.le_of_ble_eq_true rfl) ?_
      exact l7_bo_42 128 0 _ _ (by omega) (by omega)
    · refine V_fload_n dX7_bitsOf_21 rfl ?_
      refine V_fconst2 dX7_bitsOf_22 ?_
      refine V_fcmp dX7_bitsOf_23 ?_
      refine V_if_lt (tgt := 40) dX7_bitsOf_24 (by decide) (fun c24 => ?_) (fun c24 => ?_)
      · refine J_iconst dX7_bitsOf_40 ?_
        refine V_istore_n dX7_bitsOf_41 (Nat.le_of_ble_eq_true rfl) ?_
        exact l7_bo_42 128 0 _ _ (by omega) (by omega)
      · refine V_fload_n dX7_bitsOf_27 rfl ?_
        refine V_fconst2 dX7_bitsOf_28 ?_
        refine V_fdiv dX7_bitsOf_29 (fun f29 hf29 => ?_)
        refine V_fstore_n dX7_bitsOf_30 (Nat.le_of_ble_eq_true rfl) ?_
        refine J_iinc dX7_bitsOf_31 rfl ?_
        refine J_iinc dX7_bitsOf_34 rfl ?_
        refine V_goto (tgt := 15) dX7_bitsOf_37 (by decide) ?_
        rw [show ((k : Int) + 1) = ((k + 1 : Nat) : Int) by omega]
        exact ih (k + 1) _ _ (by omega) (by omega)
set_option maxHeartbeats 4000000 in
set_option maxRecDepth 100000 in
theorem m7_bitsOf {z : ZG} {d sz : Nat} {h : AH} {b : UInt32} : M z YX7_bitsOf d 0 0 [.float b] h sz (fun w h' sz' => (∃ v : Int32, w = some (.int v)) ∧ h' = h ∧ sz' = sz) := by
  refine M.of (by decide +kernel) (Nat.le_of_ble_eq_true rfl) ?_
  refine V_fload_n dX7_bitsOf_0 rfl ?_
  refine V_fconst0 dX7_bitsOf_1 ?_
  refine V_fcmp dX7_bitsOf_2 ?_
  refine V_if_gt (tgt := 8) dX7_bitsOf_3 (by decide) (fun c3 => ?_) (fun c3 => ?_)
  · refine V_fload_n dX7_bitsOf_8 rfl ?_
    refine V_fstore_n dX7_bitsOf_9 (Nat.le_of_ble_eq_true rfl) ?_
    refine J_bipush dX7_bitsOf_10 (by decide) ?_
    refine V_istore_n dX7_bitsOf_12 (Nat.le_of_ble_eq_true rfl) ?_
    refine J_iconst dX7_bitsOf_13 ?_
    refine V_istore_n dX7_bitsOf_14 (Nat.le_of_ble_eq_true rfl) ?_
    exact l7_bo_15 128 0 _ _ (by omega) (by omega)
  · refine J_iconst dX7_bitsOf_6 ?_
    exact V_iret dX7_bitsOf_7 rfl rfl ⟨Nat.zero_le _, Nat.zero_le _⟩ ⟨⟨_, rfl⟩, rfl, rfl⟩
set_option maxHeartbeats 4000000 in
set_option maxRecDepth 100000 in
theorem m7_missRateBits {z : ZG} {d sz s : Nat} {h : AH} {tn mn pt hn : Int} {TX MK N : Nat → Int} (hE : EN h s tn TX mn MK pt hn N) (hR : ER tn TX mn MK pt hn N) : M z YX7_missRateBits (d + 1) 0 0 [.ref 0] h sz (fun w h' sz' => (∃ v : Int32, w = some (.int v) ∧ (I (N 4) = 0 → v = I (-4))) ∧ h' = h ∧ sz' = sz) := by
  refine M.of (by decide +kernel) (Nat.le_of_ble_eq_true rfl) ?_
  obtain ⟨rt, rx, rm, rmk, rp, rh, rn⟩ := hR
  refine V_aload_n dX7_missRateBits_0 rfl ?_
  refine V_get dX7_missRateBits_1 fX7_45 hE.1 rfl ?_
  refine V_getN dX7_missRateBits_4 fX7_235 hE.n.1 rfl ?_
  refine V_if_gt (tgt := 13) dX7_missRateBits_7 (by decide) (fun c7 => ?_) (fun c7 => ?_)
  · refine V_aload_n dX7_missRateBits_13 rfl ?_
    refine V_get dX7_missRateBits_14 fX7_45 hE.1 rfl ?_
    refine V_getN dX7_missRateBits_17 fX7_129 hE.n.1 rfl ?_
    refine V_getN dX7_missRateBits_20 fX7_132 hE.n.2.1 rfl ?_
    refine V_i2f dX7_missRateBits_23 ?_
    refine V_aload_n dX7_missRateBits_24 rfl ?_
    refine V_get dX7_missRateBits_25 fX7_45 hE.1 rfl ?_
    refine V_getN dX7_missRateBits_28 fX7_235 hE.n.1 rfl ?_
    refine V_i2f dX7_missRateBits_31 ?_
    refine V_fdiv dX7_missRateBits_32 (fun f32 hf32 => ?_)
    refine V_callS (Y' := YX7_bitsOf) dX7_missRateBits_33 lX7_260 gX7_bitsOf m7_bitsOf rfl rfl (Nat.le_of_ble_eq_true rfl) ⟨Nat.zero_le _, Nat.zero_le _⟩ (fun v h1 sz1 hq => ?_)
    obtain ⟨⟨vb, rfl⟩, rfl, rfl⟩ := hq
    exact V_iret dX7_missRateBits_36 rfl rfl ⟨Nat.zero_le _, Nat.zero_le _⟩ ⟨⟨_, rfl, fun q => by rw [q] at c7; exact absurd c7 (by decide)⟩, rfl, rfl⟩
  · refine J_bipush dX7_missRateBits_10 (by decide) ?_
    exact V_iret dX7_missRateBits_12 rfl rfl ⟨Nat.zero_le _, Nat.zero_le _⟩ ⟨⟨_, rfl, fun _ => rfl⟩, rfl, rfl⟩
set_option maxHeartbeats 4000000 in
set_option maxRecDepth 100000 in
theorem m7_magnificationBits {z : ZG} {d sz s : Nat} {h : AH} {tn mn pt hn : Int} {TX MK N : Nat → Int} (hE : EN h s tn TX mn MK pt hn N) (hR : ER tn TX mn MK pt hn N) : M z YX7_magnificationBits (d + 2) 0 0 [.ref 0] h sz (fun w h' sz' => (∃ v : Int32, w = some (.int v) ∧ ((pt - N 6).natAbs = 0 → v = I (-4))) ∧ h' = h ∧ sz' = sz) := by
  refine M.of (by decide +kernel) (Nat.le_of_ble_eq_true rfl) ?_
  obtain ⟨rt, rx, rm, rmk, rp, rh, rn⟩ := hR
  have h6 := rn.2.2.2.1
  refine V_aload_n dX7_magnificationBits_0 rfl ?_
  refine V_callV (Y' := YX7_pitchDifference) dX7_magnificationBits_1 lX7_295 gX7_pitchDifference (m7_pitchDifference hE ⟨rt, rx, rm, rmk, rp, rh, rn⟩) hE.1 rfl rfl rfl (Nat.le_of_ble_eq_true rfl) ⟨Nat.zero_le _, Nat.zero_le _⟩ (fun v h1 sz1 hq => ?_)
  obtain ⟨rfl, rfl, rfl⟩ := hq
  refine V_istore_n dX7_magnificationBits_4 (Nat.le_of_ble_eq_true rfl) ?_
  refine V_iload_n dX7_magnificationBits_5 rfl ?_
  refine J_if_ne (tgt := 12) dX7_magnificationBits_6 (by decide) (by omega) (fun c6 => ?_) (fun c6 => ?_)
  · refine V_aload_n dX7_magnificationBits_12 rfl ?_
    refine V_get dX7_magnificationBits_13 fX7_45 hE.1 rfl ?_
    refine V_getN dX7_magnificationBits_16 fX7_172 hE.n.1 rfl ?_
    refine V_i2f dX7_magnificationBits_19 ?_
    refine V_iload_n dX7_magnificationBits_20 rfl ?_
    refine V_i2f dX7_magnificationBits_21 ?_
    refine V_fdiv dX7_magnificationBits_22 (fun f22 hf22 => ?_)
    refine V_callS (Y' := YX7_bitsOf) dX7_magnificationBits_23 lX7_260 gX7_bitsOf m7_bitsOf rfl rfl (Nat.le_of_ble_eq_true rfl) ⟨Nat.zero_le _, Nat.zero_le _⟩ (fun v h1 sz1 hq => ?_)
    obtain ⟨⟨vb, rfl⟩, rfl, rfl⟩ := hq
    exact V_iret dX7_magnificationBits_26 rfl rfl ⟨Nat.zero_le _, Nat.zero_le _⟩ ⟨⟨_, rfl, fun q => by omega⟩, rfl, rfl⟩
  · refine J_bipush dX7_magnificationBits_9 (by decide) ?_
    exact V_iret dX7_magnificationBits_11 rfl rfl ⟨Nat.zero_le _, Nat.zero_le _⟩ ⟨⟨_, rfl, fun _ => rfl⟩, rfl, rfl⟩
set_option maxHeartbeats 4000000 in
set_option maxRecDepth 100000 in
theorem m7_crossedSpacingBits {z : ZG} {d sz s : Nat} {h : AH} {tn mn pt hn : Int} {TX MK N : Nat → Int} (hE : EN h s tn TX mn MK pt hn N) (hR : ER tn TX mn MK pt hn N) {x y : Int} (hvx : -2147483648 ≤ x ∧ x < 2147483648) (hvy : -2147483648 ≤ y ∧ y < 2147483648) : M z YX7_crossedSpacingBits (d + 1) 0 0 [.ref 0, .int (I x), .int (I y)] h sz (fun w h' sz' => (∃ v : Int32, w = some (.int v) ∧ (¬ ((1 ≤ x ∧ x ≤ 99) ∧ 1 ≤ y ∧ y ≤ 999) → v = I (-1))) ∧ h' = h ∧ sz' = sz) := by
  refine M.of (by decide +kernel) (Nat.le_of_ble_eq_true rfl) ?_
  obtain ⟨rt, rx, rm, rmk, rp, rh, rn⟩ := hR
  refine V_iload_n dX7_crossedSpacingBits_0 rfl ?_
  refine J_iconst dX7_crossedSpacingBits_1 ?_
  refine J_bipush dX7_crossedSpacingBits_2 (by decide) ?_
  refine V_callS (Y' := YX7_within) dX7_crossedSpacingBits_4 lX7_74 gX7_within (m7_within (by omega) (by omega) (by omega)) rfl rfl (Nat.le_of_ble_eq_true rfl) ⟨Nat.zero_le _, Nat.zero_le _⟩ (fun v h1 sz1 hq => ?_)
  obtain ⟨t4, rfl, ht4, rfl, rfl⟩ := hq
  refine J_if_eq (tgt := 21) dX7_crossedSpacingBits_7 (by decide) (by omega) (fun c7 => ?_) (fun c7 => ?_)
  · refine J_iconst dX7_crossedSpacingBits_21 ?_
    exact V_iret dX7_crossedSpacingBits_22 rfl rfl ⟨Nat.zero_le _, Nat.zero_le _⟩ ⟨⟨_, rfl, fun _ => rfl⟩, rfl, rfl⟩
  · refine V_iload_n dX7_crossedSpacingBits_10 rfl ?_
    refine J_iconst dX7_crossedSpacingBits_11 ?_
    refine J_sipush dX7_crossedSpacingBits_12 (by decide) ?_
    refine V_callS (Y' := YX7_within) dX7_crossedSpacingBits_15 lX7_74 gX7_within (m7_within (by omega) (by omega) (by omega)) rfl rfl (Nat.le_of_ble_eq_true rfl) ⟨Nat.zero_le _, Nat.zero_le _⟩ (fun v h1 sz1 hq => ?_)
    obtain ⟨t15, rfl, ht15, rfl, rfl⟩ := hq
    refine J_if_ne (tgt := 23) dX7_crossedSpacingBits_18 (by decide) (by omega) (fun c18 => ?_) (fun c18 => ?_)
    · refine V_aload_n dX7_crossedSpacingBits_23 rfl ?_
      refine V_get dX7_crossedSpacingBits_24 fX7_108 hE.1 rfl ?_
      refine V_i2f dX7_crossedSpacingBits_27 ?_
      refine V_iload_n dX7_crossedSpacingBits_28 rfl ?_
      refine V_i2f dX7_crossedSpacingBits_29 ?_
      refine V_fmul dX7_crossedSpacingBits_30 (fun f30 hf30 => ?_)
      refine V_iload_n dX7_crossedSpacingBits_31 rfl ?_
      refine V_i2f dX7_crossedSpacingBits_32 ?_
      refine V_fdiv dX7_crossedSpacingBits_33 (fun f33 hf33 => ?_)
      refine V_callS (Y' := YX7_bitsOf) dX7_crossedSpacingBits_34 lX7_260 gX7_bitsOf m7_bitsOf rfl rfl (Nat.le_of_ble_eq_true rfl) ⟨Nat.zero_le _, Nat.zero_le _⟩ (fun v h1 sz1 hq => ?_)
      obtain ⟨⟨vb, rfl⟩, rfl, rfl⟩ := hq
      exact V_iret dX7_crossedSpacingBits_37 rfl rfl ⟨Nat.zero_le _, Nat.zero_le _⟩ ⟨⟨_, rfl, fun q => by omega⟩, rfl, rfl⟩
    · refine J_iconst dX7_crossedSpacingBits_21 ?_
      exact V_iret dX7_crossedSpacingBits_22 rfl rfl ⟨Nat.zero_le _, Nat.zero_le _⟩ ⟨⟨_, rfl, fun _ => rfl⟩, rfl, rfl⟩
