/-! THE CLASS: Setup (X5), what is read of a text so far, in the reference's layout -/
def DRa (h : AH) (a : Nat) (rs rm : Int) (RA RD : Nat → Int) : Prop := SU h a rs (RD 6) (RD 7) (RD 5) rm RA (RD 8) (dS RD) (dL RD)
theorem DRa.kept {h h2 : AH} {a : Nat} {rs rm : Int} {RA RD : Nat → Int} (x : DRa h a rs rm RA RD) (e : ∀ q, a ≤ q → q < a + 8 → h2 q = h q) : DRa h2 a rs rm RA RD := SU.kept x e
set_option maxHeartbeats 4000000 in
set_option maxRecDepth 100000 in
theorem m5_reset {z : ZG} {d sz a : Nat} {h : AH} {p ip io md mn dn : Int} {MK DS DL : Nat → Int} (hmn : 0 ≤ mn ∧ mn ≤ 6) (hdn : 0 ≤ dn ∧ dn ≤ 4) (hSU : SU h a p ip io md mn MK dn DS DL) : M z YX5_reset (d + 2) 0 0 [.ref a] h sz (fun w h' sz' => w = none ∧ sz' = sz ∧ fr h h' a (a + 8) ∧ SU h' a 0 22 0 4 0 MK 0 DS DL) := by
  refine M.of (by decide +kernel) (Nat.le_of_ble_eq_true rfl) ?_
  obtain ⟨hT, hM, hI⟩ := hSU
  have hF : fr h h a (a + 8) := fr.rf
  refine V_aload_n dX5_reset_0 rfl ?_
  refine V_get dX5_reset_1 fX5_14 hT rfl ?_
  refine V_callV (Y' := YX4_clear) dX5_reset_4 lX5_27 gX4_clear (m4_clear (by decide) hmn hM) hM.c rfl rfl rfl (Nat.le_of_ble_eq_true rfl) ⟨Nat.zero_le _, Nat.zero_le _⟩ (fun v h1 sz1 hq => ?_)
  obtain ⟨rfl, rfl, hf, hM⟩ := hq
  have hT := (hf a (by omega)).trans hT
  have hI := hI.kept (fun q q1 q2 => hf q (by omega))
  have hF := hF.then (hf.wide (by omega) (by omega))
  refine V_aload_n dX5_reset_7 rfl ?_
  refine V_get dX5_reset_8 fX5_23 hT rfl ?_
  refine V_callV (Y' := YX1_clear) dX5_reset_11 lX5_30 gX1_clear (m1_clear hdn hI) hI.1 rfl rfl rfl (Nat.le_of_ble_eq_true rfl) ⟨Nat.zero_le _, Nat.zero_le _⟩ (fun v h1 sz1 hq => ?_)
  obtain ⟨rfl, rfl, hf, hI⟩ := hq
  have hT := (hf a (by omega)).trans hT
  have hM := hM.kept (hf _ (by omega)) (hf _ (by omega))
  have hF := hF.then (hf.wide (by omega) (by omega))
  have hx := OB.mk hT
  refine V_aload_n dX5_reset_14 rfl ?_
  refine J_iconst dX5_reset_15 ?_
  refine RO_put dX5_reset_16 fX5_31 tX5_2 hx (Nat.le_of_ble_eq_true rfl) rfl rfl (fun h2 hx => ?_)
  refine V_aload_n dX5_reset_19 rfl ?_
  refine J_bipush dX5_reset_20 (by decide) ?_
  refine RO_put dX5_reset_22 fX5_35 tX5_3 hx (Nat.le_of_ble_eq_true rfl) rfl rfl (fun h2 hx => ?_)
  refine V_aload_n dX5_reset_25 rfl ?_
  refine J_iconst dX5_reset_26 ?_
  refine RO_put dX5_reset_27 fX5_38 tX5_4 hx (Nat.le_of_ble_eq_true rfl) rfl rfl (fun h2 hx => ?_)
  refine V_aload_n dX5_reset_30 rfl ?_
  refine J_iconst dX5_reset_31 ?_
  refine RO_put dX5_reset_32 fX5_41 tX5_5 hx (Nat.le_of_ble_eq_true rfl) rfl rfl (fun h2 hx => ?_)
  refine V_ret dX5_reset_35 rfl ⟨Nat.zero_le _, Nat.zero_le _⟩ ⟨rfl, rfl, ?_, ?_⟩
  · exact fun x hx2 => (hx.2 x (by omega)).trans (hF x hx2)
  · exact ⟨hx.1, hM.kept (hx.2 _ (by omega)) (hx.2 _ (by omega)), hI.kept (fun q q1 q2 => hx.2 q (by omega))⟩
set_option maxHeartbeats 4000000 in
set_option maxRecDepth 100000 in
theorem m5_takeMark {z : ZG} {d sz a : Nat} {h : AH} {p ip io md mn dn : Int} {MK DS DL : Nat → Int} {x : Int} (hx : -2147483648 ≤ x ∧ x < 2147483648) (hmn : 0 ≤ mn ∧ mn ≤ 6) (hmk : ∀ j : Nat, (j : Int) < mn → 0 ≤ MK j ∧ MK j ≤ 9999) (hSU : SU h a p ip io md mn MK dn DS DL) : M z YX5_takeMark (d + 3) 0 0 [.ref a, .int (I x)] h sz (fun w h' sz' => sz' = sz ∧ fr h h' a (a + 8) ∧ ∃ t : Int, w = some (.int (I t)) ∧ ((t = 1 ∧ (mn < 6 ∧ (mn = 0 ∨ MK (mn - 1).toNat < x) ∧ 0 ≤ x ∧ x ≤ 9999) ∧ SU h' a p ip io md (mn + 1) (va_up MK mn.toNat x) dn DS DL) ∨ (t = 0 ∧ ¬ (mn < 6 ∧ (mn = 0 ∨ MK (mn - 1).toNat < x) ∧ 0 ≤ x ∧ x ≤ 9999) ∧ h' = h))) := by
  refine M.of (by decide +kernel) (Nat.le_of_ble_eq_true rfl) ?_
  obtain ⟨hT, hM, hI⟩ := hSU
  have hF : fr h h a (a + 8) := fr.rf
  refine V_aload_n dX5_takeMark_0 rfl ?_
  refine V_get dX5_takeMark_1 fX5_14 hT rfl ?_
  refine V_callV (Y' := YX4_size) dX5_takeMark_4 lX5_61 gX4_size (m4_size (by decide) hmn hM) hM.c rfl rfl rfl (Nat.le_of_ble_eq_true rfl) ⟨Nat.zero_le _, Nat.zero_le _⟩ (fun v h1 sz1 hq => ?_)
  obtain ⟨rfl, rfl, rfl⟩ := hq
  refine J_if_eq (tgt := 30) dX5_takeMark_7 (by decide) (by omega) (fun c7 => ?_) (fun c7 => ?_)
  · refine J_iconst dX5_takeMark_30 ?_
    refine V_goto (tgt := 35) dX5_takeMark_31 (by decide) ?_
    refine V_istore_n dX5_takeMark_35 (Nat.le_of_ble_eq_true rfl) ?_
    refine V_aload_n dX5_takeMark_36 rfl ?_
    refine V_get dX5_takeMark_37 fX5_14 hT rfl ?_
    refine V_callV (Y' := YX4_isFull) dX5_takeMark_40 lX5_69 gX4_isFull (m4_isFull (by decide) hmn hM) hM.c rfl rfl rfl (Nat.le_of_ble_eq_true rfl) ⟨Nat.zero_le _, Nat.zero_le _⟩ (fun v h1 sz1 hq => ?_)
    obtain ⟨t40, rfl, ht40, rfl, rfl⟩ := hq
    have ht40 : (t40 = 1 ∧ 6 ≤ mn) ∨ (t40 = 0 ∧ ¬ 6 ≤ mn) := ht40
    refine J_if_ne (tgt := 57) dX5_takeMark_43 (by decide) (by omega) (fun c43 => ?_) (fun c43 => ?_)
    · refine J_iconst dX5_takeMark_57 ?_
      exact V_iret dX5_takeMark_58 rfl rfl ⟨Nat.zero_le _, Nat.zero_le _⟩ ⟨rfl, hF, 0, rfl, Or.inr ⟨rfl, by omega, rfl⟩⟩
    · refine V_iload_n dX5_takeMark_46 rfl ?_
      refine J_if_eq (tgt := 57) dX5_takeMark_47 (by decide) (by omega) (fun c47 => ?_) (fun c47 => ?_)
      · refine J_iconst dX5_takeMark_57 ?_
        exact V_iret dX5_takeMark_58 rfl rfl ⟨Nat.zero_le _, Nat.zero_le _⟩ ⟨rfl, hF, 0, rfl, Or.inr ⟨rfl, by omega, rfl⟩⟩
      · refine V_iload_n dX5_takeMark_50 rfl ?_
        refine V_callSN (Y' := YX7_isPosition) dX5_takeMark_51 lX5_73 gX7_isPosition (m7_isPosition hx) rfl rfl (Nat.le_of_ble_eq_true rfl) ⟨Nat.zero_le _, Nat.zero_le _⟩ (fun v h1 sz1 hq => ?_)
        obtain ⟨t51, rfl, ht51, rfl, rfl⟩ := hq
        refine J_if_ne (tgt := 59) dX5_takeMark_54 (by decide) (by omega) (fun c54 => ?_) (fun c54 => ?_)
        · refine V_aload_n dX5_takeMark_59 rfl ?_
          refine V_get dX5_takeMark_60 fX5_14 hT rfl ?_
          refine V_iload_n dX5_takeMark_63 rfl ?_
          refine J_i2l dX5_takeMark_64 (by omega) ?_
          refine V_callV (Y' := YX4_add) dX5_takeMark_65 lX5_76 gX4_add (m4_add (by decide) hmn hM) hM.c rfl rfl rfl (Nat.le_of_ble_eq_true rfl) ⟨Nat.zero_le _, Nat.zero_le _⟩ (fun v h1 sz1 hq => ?_)
          obtain ⟨rfl, rfl, hf, hq⟩ := hq
          have hM : RW h1 (a + 1) 6 (mn + 1) (va_up MK mn.toNat x) := hq.elim (fun q => q.2) (fun q => absurd (by show mn < 6; omega) q.1)
          have hT := (hf a (by omega)).trans hT
          have hI := hI.kept (fun q q1 q2 => hf q (by omega))
          have hF := hF.then (hf.wide (by omega) (by omega))
          refine J_iconst dX5_takeMark_68 ?_
          exact V_iret dX5_takeMark_69 rfl rfl ⟨Nat.zero_le _, Nat.zero_le _⟩ ⟨rfl, hF, 1, rfl, Or.inl ⟨rfl, by omega, hT, hM, hI⟩⟩
        · refine J_iconst dX5_takeMark_57 ?_
          exact V_iret dX5_takeMark_58 rfl rfl ⟨Nat.zero_le _, Nat.zero_le _⟩ ⟨rfl, hF, 0, rfl, Or.inr ⟨rfl, by omega, rfl⟩⟩
  · refine V_iload_n dX5_takeMark_10 rfl ?_
    refine V_aload_n dX5_takeMark_11 rfl ?_
    refine V_get dX5_takeMark_12 fX5_14 hT rfl ?_
    refine V_aload_n dX5_takeMark_15 rfl ?_
    refine V_get dX5_takeMark_16 fX5_14 hT rfl ?_
    refine V_callV (Y' := YX4_size) dX5_takeMark_19 lX5_61 gX4_size (m4_size (by decide) hmn hM) hM.c rfl rfl rfl (Nat.le_of_ble_eq_true rfl) ⟨Nat.zero_le _, Nat.zero_le _⟩ (fun v h1 sz1 hq => ?_)
    obtain ⟨rfl, rfl, rfl⟩ := hq
    refine J_iconst dX5_takeMark_22 ?_
    refine J_isub dX5_takeMark_23 ?_
    refine V_callV (Y' := YX4_intAt) dX5_takeMark_24 lX5_65 gX4_intAt (m4_intAt (by decide) hmn hM (by omega)) hM.c rfl rfl rfl (Nat.le_of_ble_eq_true rfl) ⟨Nat.zero_le _, Nat.zero_le _⟩ (fun v h1 sz1 hq => ?_)
    obtain ⟨rfl, rfl, rfl⟩ := hq
    have hk1 := hmk (mn - 1).toNat (by omega)
    rw [show rat mn MK (mn - 1) = MK (mn - 1).toNat by unfold rat; rw [if_pos (by omega)]]
    refine J_icmp_le (tgt := 34) dX5_takeMark_27 (by decide) (by omega) (by omega) (fun c27 => ?_) (fun c27 => ?_)
    · refine J_iconst dX5_takeMark_34 ?_
      refine V_istore_n dX5_takeMark_35 (Nat.le_of_ble_eq_true rfl) ?_
      refine V_aload_n dX5_takeMark_36 rfl ?_
      refine V_get dX5_takeMark_37 fX5_14 hT rfl ?_
      refine V_callV (Y' := YX4_isFull) dX5_takeMark_40 lX5_69 gX4_isFull (m4_isFull (by decide) hmn hM) hM.c rfl rfl rfl (Nat.le_of_ble_eq_true rfl) ⟨Nat.zero_le _, Nat.zero_le _⟩ (fun v h1 sz1 hq => ?_)
      obtain ⟨t40, rfl, ht40, rfl, rfl⟩ := hq
      have ht40 : (t40 = 1 ∧ 6 ≤ mn) ∨ (t40 = 0 ∧ ¬ 6 ≤ mn) := ht40
      refine J_if_ne (tgt := 57) dX5_takeMark_43 (by decide) (by omega) (fun c43 => ?_) (fun c43 => ?_)
      · refine J_iconst dX5_takeMark_57 ?_
        exact V_iret dX5_takeMark_58 rfl rfl ⟨Nat.zero_le _, Nat.zero_le _⟩ ⟨rfl, hF, 0, rfl, Or.inr ⟨rfl, by omega, rfl⟩⟩
      · refine V_iload_n dX5_takeMark_46 rfl ?_
        refine J_if_eq (tgt := 57) dX5_takeMark_47 (by decide) (by omega) (fun c47 => ?_) (fun c47 => ?_)
        · refine J_iconst dX5_takeMark_57 ?_
          exact V_iret dX5_takeMark_58 rfl rfl ⟨Nat.zero_le _, Nat.zero_le _⟩ ⟨rfl, hF, 0, rfl, Or.inr ⟨rfl, by omega, rfl⟩⟩
        · refine V_iload_n dX5_takeMark_50 rfl ?_
          refine V_callSN (Y' := YX7_isPosition) dX5_takeMark_51 lX5_73 gX7_isPosition (m7_isPosition hx) rfl rfl (Nat.le_of_ble_eq_true rfl) ⟨Nat.zero_le _, Nat.zero_le _⟩ (fun v h1 sz1 hq => ?_)
          obtain ⟨t51, rfl, ht51, rfl, rfl⟩ := hq
          refine J_if_ne (tgt := 59) dX5_takeMark_54 (by decide) (by omega) (fun c54 => ?_) (fun c54 => ?_)
          · refine V_aload_n dX5_takeMark_59 rfl ?_
            refine V_get dX5_takeMark_60 fX5_14 hT rfl ?_
            refine V_iload_n dX5_takeMark_63 rfl ?_
            refine J_i2l dX5_takeMark_64 (by omega) ?_
            refine V_callV (Y' := YX4_add) dX5_takeMark_65 lX5_76 gX4_add (m4_add (by decide) hmn hM) hM.c rfl rfl rfl (Nat.le_of_ble_eq_true rfl) ⟨Nat.zero_le _, Nat.zero_le _⟩ (fun v h1 sz1 hq => ?_)
            obtain ⟨rfl, rfl, hf, hq⟩ := hq
            have hM : RW h1 (a + 1) 6 (mn + 1) (va_up MK mn.toNat x) := hq.elim (fun q => q.2) (fun q => absurd (by show mn < 6; omega) q.1)
            have hT := (hf a (by omega)).trans hT
            have hI := hI.kept (fun q q1 q2 => hf q (by omega))
            have hF := hF.then (hf.wide (by omega) (by omega))
            refine J_iconst dX5_takeMark_68 ?_
            exact V_iret dX5_takeMark_69 rfl rfl ⟨Nat.zero_le _, Nat.zero_le _⟩ ⟨rfl, hF, 1, rfl, Or.inl ⟨rfl, by omega, hT, hM, hI⟩⟩
          · refine J_iconst dX5_takeMark_57 ?_
            exact V_iret dX5_takeMark_58 rfl rfl ⟨Nat.zero_le _, Nat.zero_le _⟩ ⟨rfl, hF, 0, rfl, Or.inr ⟨rfl, by omega, rfl⟩⟩
    · refine J_iconst dX5_takeMark_30 ?_
      refine V_goto (tgt := 35) dX5_takeMark_31 (by decide) ?_
      refine V_istore_n dX5_takeMark_35 (Nat.le_of_ble_eq_true rfl) ?_
      refine V_aload_n dX5_takeMark_36 rfl ?_
      refine V_get dX5_takeMark_37 fX5_14 hT rfl ?_
      refine V_callV (Y' := YX4_isFull) dX5_takeMark_40 lX5_69 gX4_isFull (m4_isFull (by decide) hmn hM) hM.c rfl rfl rfl (Nat.le_of_ble_eq_true rfl) ⟨Nat.zero_le _, Nat.zero_le _⟩ (fun v h1 sz1 hq => ?_)
      obtain ⟨t40, rfl, ht40, rfl, rfl⟩ := hq
      have ht40 : (t40 = 1 ∧ 6 ≤ mn) ∨ (t40 = 0 ∧ ¬ 6 ≤ mn) := ht40
      refine J_if_ne (tgt := 57) dX5_takeMark_43 (by decide) (by omega) (fun c43 => ?_) (fun c43 => ?_)
      · refine J_iconst dX5_takeMark_57 ?_
        exact V_iret dX5_takeMark_58 rfl rfl ⟨Nat.zero_le _, Nat.zero_le _⟩ ⟨rfl, hF, 0, rfl, Or.inr ⟨rfl, by omega, rfl⟩⟩
      · refine V_iload_n dX5_takeMark_46 rfl ?_
        refine J_if_eq (tgt := 57) dX5_takeMark_47 (by decide) (by omega) (fun c47 => ?_) (fun c47 => ?_)
        · refine J_iconst dX5_takeMark_57 ?_
          exact V_iret dX5_takeMark_58 rfl rfl ⟨Nat.zero_le _, Nat.zero_le _⟩ ⟨rfl, hF, 0, rfl, Or.inr ⟨rfl, by omega, rfl⟩⟩
        · refine V_iload_n dX5_takeMark_50 rfl ?_
          refine V_callSN (Y' := YX7_isPosition) dX5_takeMark_51 lX5_73 gX7_isPosition (m7_isPosition hx) rfl rfl (Nat.le_of_ble_eq_true rfl) ⟨Nat.zero_le _, Nat.zero_le _⟩ (fun v h1 sz1 hq => ?_)
          obtain ⟨t51, rfl, ht51, rfl, rfl⟩ := hq
          refine J_if_ne (tgt := 59) dX5_takeMark_54 (by decide) (by omega) (fun c54 => ?_) (fun c54 => ?_)
          · refine V_aload_n dX5_takeMark_59 rfl ?_
            refine V_get dX5_takeMark_60 fX5_14 hT rfl ?_
            refine V_iload_n dX5_takeMark_63 rfl ?_
            refine J_i2l dX5_takeMark_64 (by omega) ?_
            refine V_callV (Y' := YX4_add) dX5_takeMark_65 lX5_76 gX4_add (m4_add (by decide) hmn hM) hM.c rfl rfl rfl (Nat.le_of_ble_eq_true rfl) ⟨Nat.zero_le _, Nat.zero_le _⟩ (fun v h1 sz1 hq => ?_)
            obtain ⟨rfl, rfl, hf, hq⟩ := hq
            have hM : RW h1 (a + 1) 6 (mn + 1) (va_up MK mn.toNat x) := hq.elim (fun q => q.2) (fun q => absurd (by show mn < 6; omega) q.1)
            have hT := (hf a (by omega)).trans hT
            have hI := hI.kept (fun q q1 q2 => hf q (by omega))
            have hF := hF.then (hf.wide (by omega) (by omega))
            refine J_iconst dX5_takeMark_68 ?_
            exact V_iret dX5_takeMark_69 rfl rfl ⟨Nat.zero_le _, Nat.zero_le _⟩ ⟨rfl, hF, 1, rfl, Or.inl ⟨rfl, by omega, hT, hM, hI⟩⟩
          · refine J_iconst dX5_takeMark_57 ?_
            exact V_iret dX5_takeMark_58 rfl rfl ⟨Nat.zero_le _, Nat.zero_le _⟩ ⟨rfl, hF, 0, rfl, Or.inr ⟨rfl, by omega, rfl⟩⟩
set_option maxHeartbeats 4000000 in
set_option maxRecDepth 100000 in
theorem m5_takeDirt {z : ZG} {d sz a : Nat} {h : AH} {p ip io md mn dn : Int} {MK DS DL : Nat → Int} {x y : Int} (hx : -2147483648 ≤ x ∧ x < 2147483648) (hy : -2147483648 ≤ y ∧ y < 2147483648) (hdn : 0 ≤ dn ∧ dn ≤ 4) (hSU : SU h a p ip io md mn MK dn DS DL) : M z YX5_takeDirt (d + 3) 0 0 [.ref a, .int (I x), .int (I y)] h sz (fun w h' sz' => sz' = sz ∧ fr h h' a (a + 8) ∧ ∃ t : Int, w = some (.int (I t)) ∧ ((t = 1 ∧ (dn < 4 ∧ (0 ≤ x ∧ x ≤ 9999) ∧ 1 ≤ y ∧ y ≤ 99) ∧ SU h' a p ip io md mn MK (dn + 1) (va_up DS dn.toNat x) (va_up DL dn.toNat y)) ∨ (t = 0 ∧ ¬ (dn < 4 ∧ (0 ≤ x ∧ x ≤ 9999) ∧ 1 ≤ y ∧ y ≤ 99) ∧ h' = h))) := by
  refine M.of (by decide +kernel) (Nat.le_of_ble_eq_true rfl) ?_
  obtain ⟨hT, hM, hI⟩ := hSU
  have hF : fr h h a (a + 8) := fr.rf
  refine V_aload_n dX5_takeDirt_0 rfl ?_
  refine V_get dX5_takeDirt_1 fX5_23 hT rfl ?_
  refine V_callV (Y' := YX1_isFull) dX5_takeDirt_4 lX5_80 gX1_isFull (m1_isFull hdn hI) hI.1 rfl rfl rfl (Nat.le_of_ble_eq_true rfl) ⟨Nat.zero_le _, Nat.zero_le _⟩ (fun v h1 sz1 hq => ?_)
  obtain ⟨t4, rfl, ht4, rfl, rfl⟩ := hq
  refine J_if_ne (tgt := 18) dX5_takeDirt_7 (by decide) (by omega) (fun c7 => ?_) (fun c7 => ?_)
  · refine J_iconst dX5_takeDirt_18 ?_
    exact V_iret dX5_takeDirt_19 rfl rfl ⟨Nat.zero_le _, Nat.zero_le _⟩ ⟨rfl, hF, 0, rfl, Or.inr ⟨rfl, by omega, rfl⟩⟩
  · refine V_iload_n dX5_takeDirt_10 rfl ?_
    refine V_iload_n dX5_takeDirt_11 rfl ?_
    refine V_callSN (Y' := YX7_isDirt) dX5_takeDirt_12 lX5_81 gX7_isDirt (m7_isDirt hx hy) rfl rfl (Nat.le_of_ble_eq_true rfl) ⟨Nat.zero_le _, Nat.zero_le _⟩ (fun v h1 sz1 hq => ?_)
    obtain ⟨t12, rfl, ht12, rfl, rfl⟩ := hq
    refine J_if_ne (tgt := 20) dX5_takeDirt_15 (by decide) (by omega) (fun c15 => ?_) (fun c15 => ?_)
    · refine V_aload_n dX5_takeDirt_20 rfl ?_
      refine V_get dX5_takeDirt_21 fX5_23 hT rfl ?_
      refine V_iload_n dX5_takeDirt_24 rfl ?_
      refine V_iload_n dX5_takeDirt_25 rfl ?_
      refine V_callV (Y' := YX1_add) dX5_takeDirt_26 lX5_84 gX1_add (m1_add hx hy hdn (by omega) hI) hI.1 rfl rfl rfl (Nat.le_of_ble_eq_true rfl) ⟨Nat.zero_le _, Nat.zero_le _⟩ (fun v h1 sz1 hq => ?_)
      obtain ⟨rfl, rfl, hf, hI⟩ := hq
      have hT := (hf a (by omega)).trans hT
      have hM := hM.kept (hf _ (by omega)) (hf _ (by omega))
      have hF := hF.then (hf.wide (by omega) (by omega))
      refine J_iconst dX5_takeDirt_29 ?_
      exact V_iret dX5_takeDirt_30 rfl rfl ⟨Nat.zero_le _, Nat.zero_le _⟩ ⟨rfl, hF, 1, rfl, Or.inl ⟨rfl, by omega, hT, hM, hI⟩⟩
    · refine J_iconst dX5_takeDirt_18 ?_
      exact V_iret dX5_takeDirt_19 rfl rfl ⟨Nat.zero_le _, Nat.zero_le _⟩ ⟨rfl, hF, 0, rfl, Or.inr ⟨rfl, by omega, rfl⟩⟩
abbrev TK : Type := Int × Int × (Nat → Int) × (Nat → Int)
/-- a statement's letter and numbers taken -/
noncomputable def tkF (l f s rs rm : Int) (RA RD : Nat → Int) : Option TK :=
  cIf (l = 112) (cIf ((8 ≤ f ∧ f ≤ 80) ∧ f % 4 = 0) (some (f, rm, RA, RD)) none)
  (cIf (l = 105) (cIf ((8 ≤ f ∧ f ≤ 80) ∧ 0 ≤ s ∧ s ≤ 79) (some (rs, rm, RA, va_up (va_up RD 6 f) 7 s)) none)
  (cIf (l = 109) (cIf (f = 1 ∨ f = 2 ∨ f = 4) (some (rs, rm, RA, va_up RD 5 f)) none)
  (cIf (l = 114) (cIf (rm < 6 ∧ (rm = 0 ∨ RA (rm - 1).toNat < f) ∧ 0 ≤ f ∧ f ≤ 9999) (some (rs, rm + 1, va_up RA rm.toNat f, RD)) none)
  (cIf (l = 100) (cIf (RD 8 < 4 ∧ (0 ≤ f ∧ f ≤ 9999) ∧ 1 ≤ s ∧ s ≤ 99) (some (rs, rm, RA, adR RD (RD 8).toNat f s)) none) none))))
theorem adR_lo {RD : Nat → Int} {e j : Nat} {x y : Int} (h : j < 8) : adR RD e x y j = RD j := by unfold adR va_up; rw [if_neg (by omega), if_neg (by omega), if_neg (by omega)]
theorem DT_adR {h : AH} {a e : Nat} {x y : Int} {RD : Nat → Int} (he : RD 8 = e) (g : DT h a (RD 8 + 1) (va_up (dS RD) e x) (va_up (dL RD) e y)) : DT h a (adR RD e x y 8) (dS (adR RD e x y)) (dL (adR RD e x y)) := by
  obtain ⟨g1, g2, g3⟩ := g
  rw [show adR RD e x y 8 = RD 8 + 1 by show (e : Int) + 1 = _; omega]
  refine ⟨g1, g2.to (fun j hj => ?_), g3.to (fun j hj => ?_)⟩
  · unfold dS adR va_up
    by_cases q : j = e
    · subst q; rw [if_pos rfl, if_neg (by omega), if_neg (by omega), if_pos rfl]
    · rw [if_neg q, if_neg (by omega), if_neg (by omega), if_neg (by omega)]
  · unfold dL adR va_up
    by_cases q : j = e
    · subst q; rw [if_pos rfl, if_neg (by omega), if_pos rfl]
    · rw [if_neg q, if_neg (by omega), if_neg (by omega), if_neg (by omega)]
theorem tk_def {x : Int} (h : ¬ (x < 100 ∨ 114 < x)) (h2 : ¬ x = 112 ∧ ¬ x = 105 ∧ ¬ x = 109 ∧ ¬ x = 114 ∧ ¬ x = 100) : (#[117, 124, 124, 124, 124, 85, 124, 124, 124, 101, 124, 124, 75, 124, 111] : Array Int)[(x - 100).toNat]? = some 124 := by
  obtain ⟨k, rfl, hk⟩ : ∃ k : Nat, x = 100 + k ∧ k < 15 := ⟨(x - 100).toNat, by omega, by omega⟩
  rw [show (100 + (k : Int) - 100).toNat = k by omega]
  match k, hk with
  | 0, _ => omega
  | 1, _ => rfl
  | 2, _ => rfl
  | 3, _ => rfl
  | 4, _ => rfl
  | 5, _ => omega
  | 6, _ => rfl
  | 7, _ => rfl
  | 8, _ => rfl
  | 9, _ => omega
  | 10, _ => rfl
  | 11, _ => rfl
  | 12, _ => omega
  | 13, _ => rfl
  | 14, _ => omega
theorem DRa.put {h : AH} {a : Nat} {rs rm rs2 : Int} {RA RD RD2 : Nat → Int} {h2 : AH} (x : DRa h a rs rm RA RD) (hx : OB h a 5 (suF a rs2 (RD2 6) (RD2 7) (RD2 5)) h2) (e : ∀ j, 8 ≤ j → RD2 j = RD j) : DRa h2 a rs2 rm RA RD2 := by
  obtain ⟨hT, hM, hI⟩ := x
  refine ⟨hx.1, hM.kept (hx.2 _ (by omega)) (hx.2 _ (by omega)), ?_⟩
  obtain ⟨g1, g2, g3⟩ := hI.kept (h2 := h2) (fun q q1 q2 => hx.2 q (by omega))
  rw [e 8 (by omega)]
  exact ⟨g1, g2.to (fun j _ => by unfold dS; rw [e _ (by omega)]), g3.to (fun j _ => by unfold dL; rw [e _ (by omega)])⟩
set_option maxHeartbeats 4000000 in
set_option maxRecDepth 100000 in
theorem m5_take {z : ZG} {d sz a : Nat} {h : AH} {l f s rs rm : Int} {RA RD : Nat → Int} (rl : -2147483648 ≤ l ∧ l < 2147483648) (rf : -2147483648 ≤ f ∧ f < 2147483648) (rs0 : -2147483648 ≤ s ∧ s < 2147483648) (hrm : 0 ≤ rm ∧ rm ≤ 6) (h8 : 0 ≤ RD 8 ∧ RD 8 ≤ 4) (hra : ∀ j : Nat, j < 6 → 0 ≤ RA j ∧ RA j ≤ 9999) (hD : DRa h a rs rm RA RD) : M z YX5_take (d + 4) 0 0 [.ref a, .int (I l), .int (I f), .int (I s)] h sz (fun w h' sz' => sz' = sz ∧ fr h h' a (a + 8) ∧ ∃ t : Int, w = some (.int (I t)) ∧ ((t = 1 ∧ ∃ u : TK, tkF l f s rs rm RA RD = some u ∧ DRa h' a u.1 u.2.1 u.2.2.1 u.2.2.2) ∨ (t = 0 ∧ tkF l f s rs rm RA RD = none ∧ ∃ (rs2 : Int) (RD2 : Nat → Int), (0 ≤ RD2 8 ∧ RD2 8 ≤ 4) ∧ DRa h' a rs2 rm RA RD2))) := by
  refine M.of (by decide +kernel) (Nat.le_of_ble_eq_true rfl) ?_
  have hLI : (I l).toInt = l := I_toInt rl
  have hF : fr h h a (a + 8) := fr.rf
  have hx := OB.mk hD.1
  refine V_iload_n dX5_take_0 rfl ?_
  by_cases k112 : l = 112
  · refine V_tableIn (tgt := 76) (off := 75) dX5_take_1 (by rw [hLI]; omega) (by rw [hLI]; omega) (by rw [hLI, k112]; rfl) (by decide) ?_
    refine V_aload_n dX5_take_76 rfl ?_
    refine V_iload_n dX5_take_77 rfl ?_
    refine RO_put dX5_take_78 fX5_31 tX5_2 hx (Nat.le_of_ble_eq_true rfl) rfl rfl (fun h2 hx => ?_)
    refine V_iload_n dX5_take_81 rfl ?_
    refine V_callSN (Y' := YX7_isScalePitch) dX5_take_82 lX5_44 gX7_isScalePitch (m7_isScalePitch rf) rfl rfl (Nat.le_of_ble_eq_true rfl) ⟨Nat.zero_le _, Nat.zero_le _⟩ (fun v h3 sz1 hq => ?_)
    obtain ⟨t, rfl, ht, rfl, rfl⟩ := hq
    have hF := hx.fr.wide (lo2 := a) (hi2 := a + 8) (by omega) (by omega)
    have hD := hD.put (rs2 := f) (RD2 := RD) hx (fun j hj => by first | rfl | (simp only [va_up]; repeat rw [if_neg (by omega)]))
    rcases ht with ⟨rfl, hc⟩ | ⟨rfl, hc⟩
    · exact V_iret dX5_take_85 rfl rfl ⟨Nat.zero_le _, Nat.zero_le _⟩ ⟨rfl, hF, 1, rfl, Or.inl ⟨rfl, (f, rm, RA, RD), by unfold tkF; rw [cIf_p (show l = 112 by omega)]; exact cIf_p hc, hD⟩⟩
    · exact V_iret dX5_take_85 rfl rfl ⟨Nat.zero_le _, Nat.zero_le _⟩ ⟨rfl, hF, 0, rfl, Or.inr ⟨rfl, by unfold tkF; rw [cIf_p (show l = 112 by omega)]; exact cIf_n hc, f, RD, by first | exact h8 | (simp only [va_up]; repeat rw [if_neg (by omega)]; exact h8), hD⟩⟩
  by_cases k105 : l = 105
  · refine V_tableIn (tgt := 86) (off := 85) dX5_take_1 (by rw [hLI]; omega) (by rw [hLI]; omega) (by rw [hLI, k105]; rfl) (by decide) ?_
    refine V_aload_n dX5_take_86 rfl ?_
    refine V_iload_n dX5_take_87 rfl ?_
    refine RO_put dX5_take_88 fX5_35 tX5_3 hx (Nat.le_of_ble_eq_true rfl) rfl rfl (fun h2 hx => ?_)
    refine V_aload_n dX5_take_91 rfl ?_
    refine V_iload_n dX5_take_92 rfl ?_
    refine RO_put dX5_take_93 fX5_38 tX5_4 hx (Nat.le_of_ble_eq_true rfl) rfl rfl (fun h2 hx => ?_)
    refine V_iload_n dX5_take_96 rfl ?_
    refine V_iload_n dX5_take_97 rfl ?_
    refine V_callSN (Y' := YX7_isIndexGrating) dX5_take_98 lX5_48 gX7_isIndexGrating (m7_isIndexGrating rf rs0) rfl rfl (Nat.le_of_ble_eq_true rfl) ⟨Nat.zero_le _, Nat.zero_le _⟩ (fun v h3 sz1 hq => ?_)
    obtain ⟨t, rfl, ht, rfl, rfl⟩ := hq
    have hF := hx.fr.wide (lo2 := a) (hi2 := a + 8) (by omega) (by omega)
    have hD := hD.put (rs2 := rs) (RD2 := (va_up (va_up RD 6 f) 7 s)) hx (fun j hj => by first | rfl | (simp only [va_up]; repeat rw [if_neg (by omega)]))
    rcases ht with ⟨rfl, hc⟩ | ⟨rfl, hc⟩
    · exact V_iret dX5_take_101 rfl rfl ⟨Nat.zero_le _, Nat.zero_le _⟩ ⟨rfl, hF, 1, rfl, Or.inl ⟨rfl, (rs, rm, RA, (va_up (va_up RD 6 f) 7 s)), by unfold tkF; rw [cIf_n (show ¬ l = 112 by omega)]; rw [cIf_p (show l = 105 by omega)]; exact cIf_p hc, hD⟩⟩
    · exact V_iret dX5_take_101 rfl rfl ⟨Nat.zero_le _, Nat.zero_le _⟩ ⟨rfl, hF, 0, rfl, Or.inr ⟨rfl, by unfold tkF; rw [cIf_n (show ¬ l = 112 by omega)]; rw [cIf_p (show l = 105 by omega)]; exact cIf_n hc, rs, (va_up (va_up RD 6 f) 7 s), by first | exact h8 | (simp only [va_up]; repeat rw [if_neg (by omega)]; exact h8), hD⟩⟩
  by_cases k109 : l = 109
  · refine V_tableIn (tgt := 102) (off := 101) dX5_take_1 (by rw [hLI]; omega) (by rw [hLI]; omega) (by rw [hLI, k109]; rfl) (by decide) ?_
    refine V_aload_n dX5_take_102 rfl ?_
    refine V_iload_n dX5_take_103 rfl ?_
    refine RO_put dX5_take_104 fX5_41 tX5_5 hx (Nat.le_of_ble_eq_true rfl) rfl rfl (fun h2 hx => ?_)
    refine V_iload_n dX5_take_107 rfl ?_
    refine V_callSN (Y' := YX7_isMode) dX5_take_108 lX5_52 gX7_isMode (m7_isMode rf) rfl rfl (Nat.le_of_ble_eq_true rfl) ⟨Nat.zero_le _, Nat.zero_le _⟩ (fun v h3 sz1 hq => ?_)
    obtain ⟨t, rfl, ht, rfl, rfl⟩ := hq
    have hF := hx.fr.wide (lo2 := a) (hi2 := a + 8) (by omega) (by omega)
    have hD := hD.put (rs2 := rs) (RD2 := (va_up RD 5 f)) hx (fun j hj => by first | rfl | (simp only [va_up]; repeat rw [if_neg (by omega)]))
    rcases ht with ⟨rfl, hc⟩ | ⟨rfl, hc⟩
    · exact V_iret dX5_take_111 rfl rfl ⟨Nat.zero_le _, Nat.zero_le _⟩ ⟨rfl, hF, 1, rfl, Or.inl ⟨rfl, (rs, rm, RA, (va_up RD 5 f)), by unfold tkF; rw [cIf_n (show ¬ l = 112 by omega)]; rw [cIf_n (show ¬ l = 105 by omega)]; rw [cIf_p (show l = 109 by omega)]; exact cIf_p hc, hD⟩⟩
    · exact V_iret dX5_take_111 rfl rfl ⟨Nat.zero_le _, Nat.zero_le _⟩ ⟨rfl, hF, 0, rfl, Or.inr ⟨rfl, by unfold tkF; rw [cIf_n (show ¬ l = 112 by omega)]; rw [cIf_n (show ¬ l = 105 by omega)]; rw [cIf_p (show l = 109 by omega)]; exact cIf_n hc, rs, (va_up RD 5 f), by first | exact h8 | (simp only [va_up]; repeat rw [if_neg (by omega)]; exact h8), hD⟩⟩
  by_cases k114 : l = 114
  · refine V_tableIn (tgt := 112) (off := 111) dX5_take_1 (by rw [hLI]; omega) (by rw [hLI]; omega) (by rw [hLI, k114]; rfl) (by decide) ?_
    refine V_aload_n dX5_take_112 rfl ?_
    refine V_iload_n dX5_take_113 rfl ?_
    refine V_callV (Y' := YX5_takeMark) dX5_take_114 lX5_55 gX5_takeMark (m5_takeMark rf hrm (fun j hj => hra j (by omega)) hD) hD.1 rfl rfl rfl (Nat.le_of_ble_eq_true rfl) ⟨Nat.zero_le _, Nat.zero_le _⟩ (fun v h2 sz1 hq => ?_)
    obtain ⟨rfl, hf, t, rfl, ht⟩ := hq
    rcases ht with ⟨rfl, hc, hD⟩ | ⟨rfl, hc, rfl⟩
    · exact V_iret dX5_take_117 rfl rfl ⟨Nat.zero_le _, Nat.zero_le _⟩ ⟨rfl, hf, 1, rfl, Or.inl ⟨rfl, (rs, rm + 1, va_up RA rm.toNat f, RD), by unfold tkF; rw [cIf_n (show ¬ l = 112 by omega)]; rw [cIf_n (show ¬ l = 105 by omega)]; rw [cIf_n (show ¬ l = 109 by omega)]; rw [cIf_p (show l = 114 by omega)]; exact cIf_p hc, hD⟩⟩
    · exact V_iret dX5_take_117 rfl rfl ⟨Nat.zero_le _, Nat.zero_le _⟩ ⟨rfl, hf, 0, rfl, Or.inr ⟨rfl, by unfold tkF; rw [cIf_n (show ¬ l = 112 by omega)]; rw [cIf_n (show ¬ l = 105 by omega)]; rw [cIf_n (show ¬ l = 109 by omega)]; rw [cIf_p (show l = 114 by omega)]; exact cIf_n hc, _, _, h8, hD⟩⟩
  by_cases k100 : l = 100
  · refine V_tableIn (tgt := 118) (off := 117) dX5_take_1 (by rw [hLI]; omega) (by rw [hLI]; omega) (by rw [hLI, k100]; rfl) (by decide) ?_
    refine V_aload_n dX5_take_118 rfl ?_
    refine V_iload_n dX5_take_119 rfl ?_
    refine V_iload_n dX5_take_120 rfl ?_
    refine V_callV (Y' := YX5_takeDirt) dX5_take_121 lX5_58 gX5_takeDirt (m5_takeDirt rf rs0 h8 hD) hD.1 rfl rfl rfl (Nat.le_of_ble_eq_true rfl) ⟨Nat.zero_le _, Nat.zero_le _⟩ (fun v h2 sz1 hq => ?_)
    obtain ⟨rfl, hf, t, rfl, ht⟩ := hq
    rcases ht with ⟨rfl, hc, hT2, hM2, hI2⟩ | ⟨rfl, hc, rfl⟩
    · have hD2 : DRa h2 a rs rm RA (adR RD (RD 8).toNat f s) := ⟨by rw [adR_lo (by omega), adR_lo (by omega), adR_lo (by omega)]; exact hT2, hM2, DT_adR (by omega) hI2⟩
      exact V_iret dX5_take_124 rfl rfl ⟨Nat.zero_le _, Nat.zero_le _⟩ ⟨rfl, hf, 1, rfl, Or.inl ⟨rfl, (rs, rm, RA, adR RD (RD 8).toNat f s), by unfold tkF; rw [cIf_n (show ¬ l = 112 by omega)]; rw [cIf_n (show ¬ l = 105 by omega)]; rw [cIf_n (show ¬ l = 109 by omega)]; rw [cIf_n (show ¬ l = 114 by omega)]; rw [cIf_p (show l = 100 by omega)]; exact cIf_p hc, hD2⟩⟩
    · exact V_iret dX5_take_124 rfl rfl ⟨Nat.zero_le _, Nat.zero_le _⟩ ⟨rfl, hf, 0, rfl, Or.inr ⟨rfl, by unfold tkF; rw [cIf_n (show ¬ l = 112 by omega)]; rw [cIf_n (show ¬ l = 105 by omega)]; rw [cIf_n (show ¬ l = 109 by omega)]; rw [cIf_n (show ¬ l = 114 by omega)]; rw [cIf_p (show l = 100 by omega)]; exact cIf_n hc, _, _, h8, hD⟩⟩
  by_cases kr : l < 100 ∨ 114 < l
  · refine V_tableOut (tgt := 125) dX5_take_1 (by rw [hLI]; omega) (by decide) ?_
    refine J_iconst dX5_take_125 ?_
    exact V_iret dX5_take_126 rfl rfl ⟨Nat.zero_le _, Nat.zero_le _⟩ ⟨rfl, hF, 0, rfl, Or.inr ⟨rfl, by unfold tkF; rw [cIf_n (show ¬ l = 112 by omega)]; rw [cIf_n (show ¬ l = 105 by omega)]; rw [cIf_n (show ¬ l = 109 by omega)]; rw [cIf_n (show ¬ l = 114 by omega)]; rw [cIf_n (show ¬ l = 100 by omega)], _, _, h8, hD⟩⟩
  · refine V_tableIn (tgt := 125) (off := 124) dX5_take_1 (by rw [hLI]; omega) (by rw [hLI]; omega) (by rw [hLI]; exact tk_def (by omega) (by omega)) (by decide) ?_
    refine J_iconst dX5_take_125 ?_
    exact V_iret dX5_take_126 rfl rfl ⟨Nat.zero_le _, Nat.zero_le _⟩ ⟨rfl, hF, 0, rfl, Or.inr ⟨rfl, by unfold tkF; rw [cIf_n (show ¬ l = 112 by omega)]; rw [cIf_n (show ¬ l = 105 by omega)]; rw [cIf_n (show ¬ l = 109 by omega)]; rw [cIf_n (show ¬ l = 114 by omega)]; rw [cIf_n (show ¬ l = 100 by omega)], _, _, h8, hD⟩⟩
set_option maxHeartbeats 4000000 in
set_option maxRecDepth 100000 in
theorem m5_init {z : ZG} {d a : Nat} {h : AH} (hT : h a = some (.inl (5, [.null, .null, .int 0, .int 0, .int 0, .int 0]))) : M z YX5_init (d + 3) 7 22 [.ref a] h (a + 1) (fun w h' sz' => w = none ∧ sz' = a + 8 ∧ fr h h' a (a + 8) ∧ SU h' a 0 0 0 0 0 (fun _ => 0) 0 (fun _ => 0) (fun _ => 0)) := by
  refine M.of (by decide +kernel) (Nat.le_of_ble_eq_true rfl) ?_
  have hF : fr h h a (a + 8) := fr.rf
  refine V_aload_n dX5_init_0 rfl ?_
  refine V_obj dX5_init_1 oX5_3 (Nat.le_of_ble_eq_true rfl) ?_
  refine V_aload_n dX5_init_4 rfl ?_
  refine V_new dX5_init_5 nX5_9 rfl ⟨Nat.le_of_ble_eq_true rfl, Nat.le_of_ble_eq_true rfl⟩ ?_
  refine V_dup dX5_init_8 rfl ?_
  refine J_bipush dX5_init_9 (by decide) ?_
  refine V_callI (Y' := YX4_init) dX5_init_11 lX5_11 gX4_init (m4_init (a := a + 1) (cap := 6) (by decide) hset_s) rfl rfl (Nat.le_of_ble_eq_true rfl) ⟨Nat.le_of_ble_eq_true rfl, Nat.le_of_ble_eq_true rfl⟩ (fun v h1 sz1 hq => ?_)
  obtain ⟨rfl, rfl, hf1, hR1⟩ := hq
  have hT := (hf1 a (by omega)).trans ((hset_n (by omega)).trans hT)
  have hF : fr h h1 a (a + 8) := fun x hx => (hf1 x (by omega)).trans ((hset_n (by omega)).trans (hF x (by omega)))
  refine V_putF dX5_init_14 fX5_14 tX5_0 rfl (fun C T N q => by cases q; rfl) hT (Nat.le_of_ble_eq_true rfl) rfl rfl ?_
  have hT := hset_s (h := h1) (a := a) (c := (.inl (5, [.ref (a + 1), .null, .int 0, .int 0, .int 0, .int 0]) : AC))
  generalize hH : hset h1 a (.inl (5, [.ref (a + 1), .null, .int 0, .int 0, .int 0, .int 0])) = hA at hT
  have hR1 : RW hA (a + 1) 6 0 (fun _ => 0) := hR1.kept (by rw [← hH]; exact hset_n (by omega)) (by rw [← hH]; exact hset_n (by omega))
  have hF : fr h hA a (a + 8) := fun x q => by rw [← hH]; exact (hset_n (by omega)).trans (hF x q)
  rw [show hset h1 a (.inl (5, List.set [.null, .null, .int 0, .int 0, .int 0, .int 0] 0 (.ref (a + 1)))) = hA from hH]
  refine V_aload_n dX5_init_17 rfl ?_
  refine V_new dX5_init_18 nX5_20 rfl ⟨Nat.le_of_ble_eq_true rfl, Nat.le_of_ble_eq_true rfl⟩ ?_
  refine V_dup dX5_init_21 rfl ?_
  refine V_callIN (Y' := YX1_init) dX5_init_22 lX5_22 gX1_init (m1_init (a := a + 3) hset_s) rfl rfl (Nat.le_of_ble_eq_true rfl) ⟨Nat.le_of_ble_eq_true rfl, Nat.le_of_ble_eq_true rfl⟩ (fun v h3 sz3 hq => ?_)
  obtain ⟨rfl, rfl, hf, hI⟩ := hq
  have hT := (hf a (by omega)).trans ((hset_n (by omega)).trans hT)
  have hR1 := hR1.kept (h2 := h3) ((hf _ (by omega)).trans (hset_n (by omega))) ((hf _ (by omega)).trans (hset_n (by omega)))
  have hF : fr h h3 a (a + 8) := fun x q => (hf x (by omega)).trans ((hset_n (by omega)).trans (hF x q))
  refine V_putF dX5_init_25 fX5_23 tX5_1 rfl (fun C T N q => by cases q; rfl) hT (Nat.le_of_ble_eq_true rfl) rfl rfl ?_
  refine V_ret dX5_init_28 rfl ⟨Nat.le_of_ble_eq_true rfl, Nat.le_of_ble_eq_true rfl⟩ ⟨rfl, rfl, fun x q => (hset_n (by omega)).trans (hF x q), hset_s, hR1.kept (hset_n (by omega)) (hset_n (by omega)), hI.kept (fun q q1 q2 => hset_n (by omega))⟩
