/-! THE CLASS: static helpers (X7) -/
set_option maxHeartbeats 4000000 in
set_option maxRecDepth 100000 in
theorem m7_within {z : ZG} {d sz : Nat} {h : AH} {v lo hi : Int} (rv : -2147483648 ≤ v ∧ v < 2147483648) (rlo : -2147483648 ≤ lo ∧ lo < 2147483648) (rhi : -2147483648 ≤ hi ∧ hi < 2147483648) : M z YX7_within d 0 0 [.int (I v), .int (I lo), .int (I hi)] h sz (fun w h' sz' => ∃ t : Int, w = some (.int (I t)) ∧ ((t = 1 ∧ (lo ≤ v ∧ v ≤ hi)) ∨ (t = 0 ∧ ¬ (lo ≤ v ∧ v ≤ hi))) ∧ h' = h ∧ sz' = sz) := by
  refine M.of (by decide +kernel) (Nat.le_of_ble_eq_true rfl) ?_
  refine V_iload_n dX7_within_0 rfl ?_
  refine V_iload_n dX7_within_1 rfl ?_
  refine J_icmp_lt (tgt := 14) dX7_within_2 (by decide) (by omega) (by omega) (fun c2 => ?_) (fun c2 => ?_)
  · refine J_iconst dX7_within_14 ?_
    exact V_iret dX7_within_15 rfl rfl ⟨Nat.zero_le _, Nat.zero_le _⟩ ⟨_, rfl, by omega, rfl, rfl⟩
  · refine V_iload_n dX7_within_5 rfl ?_
    refine V_iload_n dX7_within_6 rfl ?_
    refine J_icmp_gt (tgt := 14) dX7_within_7 (by decide) (by omega) (by omega) (fun c7 => ?_) (fun c7 => ?_)
    · refine J_iconst dX7_within_14 ?_
      exact V_iret dX7_within_15 rfl rfl ⟨Nat.zero_le _, Nat.zero_le _⟩ ⟨_, rfl, by omega, rfl, rfl⟩
    · refine J_iconst dX7_within_10 ?_
      refine V_goto (tgt := 15) dX7_within_11 (by decide) ?_
      exact V_iret dX7_within_15 rfl rfl ⟨Nat.zero_le _, Nat.zero_le _⟩ ⟨_, rfl, by omega, rfl, rfl⟩
set_option maxHeartbeats 4000000 in
set_option maxRecDepth 100000 in
theorem m7_isPosition {z : ZG} {d sz : Nat} {h : AH} {v : Int} (rv : -2147483648 ≤ v ∧ v < 2147483648) : M z YX7_isPosition (d + 1) 0 0 [.int (I v)] h sz (fun w h' sz' => ∃ t : Int, w = some (.int (I t)) ∧ ((t = 1 ∧ (0 ≤ v ∧ v ≤ 9999)) ∨ (t = 0 ∧ ¬ (0 ≤ v ∧ v ≤ 9999))) ∧ h' = h ∧ sz' = sz) := by
  refine M.of (by decide +kernel) (Nat.le_of_ble_eq_true rfl) ?_
  refine V_iload_n dX7_isPosition_0 rfl ?_
  refine J_iconst dX7_isPosition_1 ?_
  refine J_sipush dX7_isPosition_2 (by decide) ?_
  refine V_callS (Y' := YX7_within) dX7_isPosition_5 lX7_74 gX7_within (m7_within (by omega) (by omega) (by omega)) rfl rfl (Nat.le_of_ble_eq_true rfl) ⟨Nat.zero_le _, Nat.zero_le _⟩ (fun v h1 sz1 hq => ?_)
  obtain ⟨t5, rfl, ht5, rfl, rfl⟩ := hq
  have htr : t5 = 1 ∨ t5 = 0 := by omega
  exact V_iret dX7_isPosition_8 rfl (by rcases htr with rfl | rfl <;> rfl) ⟨Nat.zero_le _, Nat.zero_le _⟩ ⟨_, rfl, by omega, rfl, rfl⟩
set_option maxHeartbeats 4000000 in
set_option maxRecDepth 100000 in
theorem m7_isMove {z : ZG} {d sz : Nat} {h : AH} {x y : Int} (rx : -2147483648 ≤ x ∧ x < 2147483648) (ry : -2147483648 ≤ y ∧ y < 2147483648) : M z YX7_isMove (d + 2) 0 0 [.int (I x), .int (I y)] h sz (fun w h' sz' => ∃ t : Int, w = some (.int (I t)) ∧ ((t = 1 ∧ ((0 ≤ x ∧ x ≤ 9999) ∧ 1 ≤ y ∧ y ≤ 99)) ∨ (t = 0 ∧ ¬ ((0 ≤ x ∧ x ≤ 9999) ∧ 1 ≤ y ∧ y ≤ 99))) ∧ h' = h ∧ sz' = sz) := by
  refine M.of (by decide +kernel) (Nat.le_of_ble_eq_true rfl) ?_
  refine V_iload_n dX7_isMove_0 rfl ?_
  refine V_callS (Y' := YX7_isPosition) dX7_isMove_1 lX7_264 gX7_isPosition (m7_isPosition (by omega)) rfl rfl (Nat.le_of_ble_eq_true rfl) ⟨Nat.zero_le _, Nat.zero_le _⟩ (fun v h1 sz1 hq => ?_)
  obtain ⟨t1, rfl, ht1, rfl, rfl⟩ := hq
  refine J_if_eq (tgt := 21) dX7_isMove_4 (by decide) (by omega) (fun c4 => ?_) (fun c4 => ?_)
  · refine J_iconst dX7_isMove_21 ?_
    exact V_iret dX7_isMove_22 rfl rfl ⟨Nat.zero_le _, Nat.zero_le _⟩ ⟨_, rfl, by omega, rfl, rfl⟩
  · refine V_iload_n dX7_isMove_7 rfl ?_
    refine J_iconst dX7_isMove_8 ?_
    refine J_bipush dX7_isMove_9 (by decide) ?_
    refine V_callS (Y' := YX7_within) dX7_isMove_11 lX7_74 gX7_within (m7_within (by omega) (by omega) (by omega)) rfl rfl (Nat.le_of_ble_eq_true rfl) ⟨Nat.zero_le _, Nat.zero_le _⟩ (fun v h1 sz1 hq => ?_)
    obtain ⟨t11, rfl, ht11, rfl, rfl⟩ := hq
    refine J_if_eq (tgt := 21) dX7_isMove_14 (by decide) (by omega) (fun c14 => ?_) (fun c14 => ?_)
    · refine J_iconst dX7_isMove_21 ?_
      exact V_iret dX7_isMove_22 rfl rfl ⟨Nat.zero_le _, Nat.zero_le _⟩ ⟨_, rfl, by omega, rfl, rfl⟩
    · refine J_iconst dX7_isMove_17 ?_
      refine V_goto (tgt := 22) dX7_isMove_18 (by decide) ?_
      exact V_iret dX7_isMove_22 rfl rfl ⟨Nat.zero_le _, Nat.zero_le _⟩ ⟨_, rfl, by omega, rfl, rfl⟩
set_option maxHeartbeats 4000000 in
set_option maxRecDepth 100000 in
theorem m7_isDirt {z : ZG} {d sz : Nat} {h : AH} {x y : Int} (rx : -2147483648 ≤ x ∧ x < 2147483648) (ry : -2147483648 ≤ y ∧ y < 2147483648) : M z YX7_isDirt (d + 2) 0 0 [.int (I x), .int (I y)] h sz (fun w h' sz' => ∃ t : Int, w = some (.int (I t)) ∧ ((t = 1 ∧ ((0 ≤ x ∧ x ≤ 9999) ∧ 1 ≤ y ∧ y ≤ 99)) ∨ (t = 0 ∧ ¬ ((0 ≤ x ∧ x ≤ 9999) ∧ 1 ≤ y ∧ y ≤ 99))) ∧ h' = h ∧ sz' = sz) := by
  refine M.of (by decide +kernel) (Nat.le_of_ble_eq_true rfl) ?_
  refine V_iload_n dX7_isDirt_0 rfl ?_
  refine V_callS (Y' := YX7_isPosition) dX7_isDirt_1 lX7_264 gX7_isPosition (m7_isPosition (by omega)) rfl rfl (Nat.le_of_ble_eq_true rfl) ⟨Nat.zero_le _, Nat.zero_le _⟩ (fun v h1 sz1 hq => ?_)
  obtain ⟨t1, rfl, ht1, rfl, rfl⟩ := hq
  refine J_if_eq (tgt := 21) dX7_isDirt_4 (by decide) (by omega) (fun c4 => ?_) (fun c4 => ?_)
  · refine J_iconst dX7_isDirt_21 ?_
    exact V_iret dX7_isDirt_22 rfl rfl ⟨Nat.zero_le _, Nat.zero_le _⟩ ⟨_, rfl, by omega, rfl, rfl⟩
  · refine V_iload_n dX7_isDirt_7 rfl ?_
    refine J_iconst dX7_isDirt_8 ?_
    refine J_bipush dX7_isDirt_9 (by decide) ?_
    refine V_callS (Y' := YX7_within) dX7_isDirt_11 lX7_74 gX7_within (m7_within (by omega) (by omega) (by omega)) rfl rfl (Nat.le_of_ble_eq_true rfl) ⟨Nat.zero_le _, Nat.zero_le _⟩ (fun v h1 sz1 hq => ?_)
    obtain ⟨t11, rfl, ht11, rfl, rfl⟩ := hq
    refine J_if_eq (tgt := 21) dX7_isDirt_14 (by decide) (by omega) (fun c14 => ?_) (fun c14 => ?_)
    · refine J_iconst dX7_isDirt_21 ?_
      exact V_iret dX7_isDirt_22 rfl rfl ⟨Nat.zero_le _, Nat.zero_le _⟩ ⟨_, rfl, by omega, rfl, rfl⟩
    · refine J_iconst dX7_isDirt_17 ?_
      refine V_goto (tgt := 22) dX7_isDirt_18 (by decide) ?_
      exact V_iret dX7_isDirt_22 rfl rfl ⟨Nat.zero_le _, Nat.zero_le _⟩ ⟨_, rfl, by omega, rfl, rfl⟩
set_option maxHeartbeats 4000000 in
set_option maxRecDepth 100000 in
theorem m7_isIndexGrating {z : ZG} {d sz : Nat} {h : AH} {x y : Int} (rx : -2147483648 ≤ x ∧ x < 2147483648) (ry : -2147483648 ≤ y ∧ y < 2147483648) : M z YX7_isIndexGrating (d + 1) 0 0 [.int (I x), .int (I y)] h sz (fun w h' sz' => ∃ t : Int, w = some (.int (I t)) ∧ ((t = 1 ∧ ((8 ≤ x ∧ x ≤ 80) ∧ 0 ≤ y ∧ y ≤ 79)) ∨ (t = 0 ∧ ¬ ((8 ≤ x ∧ x ≤ 80) ∧ 0 ≤ y ∧ y ≤ 79))) ∧ h' = h ∧ sz' = sz) := by
  refine M.of (by decide +kernel) (Nat.le_of_ble_eq_true rfl) ?_
  refine V_iload_n dX7_isIndexGrating_0 rfl ?_
  refine J_bipush dX7_isIndexGrating_1 (by decide) ?_
  refine J_bipush dX7_isIndexGrating_3 (by decide) ?_
  refine V_callS (Y' := YX7_within) dX7_isIndexGrating_5 lX7_74 gX7_within (m7_within (by omega) (by omega) (by omega)) rfl rfl (Nat.le_of_ble_eq_true rfl) ⟨Nat.zero_le _, Nat.zero_le _⟩ (fun v h1 sz1 hq => ?_)
  obtain ⟨t5, rfl, ht5, rfl, rfl⟩ := hq
  refine J_if_eq (tgt := 25) dX7_isIndexGrating_8 (by decide) (by omega) (fun c8 => ?_) (fun c8 => ?_)
  · refine J_iconst dX7_isIndexGrating_25 ?_
    exact V_iret dX7_isIndexGrating_26 rfl rfl ⟨Nat.zero_le _, Nat.zero_le _⟩ ⟨_, rfl, by omega, rfl, rfl⟩
  · refine V_iload_n dX7_isIndexGrating_11 rfl ?_
    refine J_iconst dX7_isIndexGrating_12 ?_
    refine J_bipush dX7_isIndexGrating_13 (by decide) ?_
    refine V_callS (Y' := YX7_within) dX7_isIndexGrating_15 lX7_74 gX7_within (m7_within (by omega) (by omega) (by omega)) rfl rfl (Nat.le_of_ble_eq_true rfl) ⟨Nat.zero_le _, Nat.zero_le _⟩ (fun v h1 sz1 hq => ?_)
    obtain ⟨t15, rfl, ht15, rfl, rfl⟩ := hq
    refine J_if_eq (tgt := 25) dX7_isIndexGrating_18 (by decide) (by omega) (fun c18 => ?_) (fun c18 => ?_)
    · refine J_iconst dX7_isIndexGrating_25 ?_
      exact V_iret dX7_isIndexGrating_26 rfl rfl ⟨Nat.zero_le _, Nat.zero_le _⟩ ⟨_, rfl, by omega, rfl, rfl⟩
    · refine J_iconst dX7_isIndexGrating_21 ?_
      refine V_goto (tgt := 26) dX7_isIndexGrating_22 (by decide) ?_
      exact V_iret dX7_isIndexGrating_26 rfl rfl ⟨Nat.zero_le _, Nat.zero_le _⟩ ⟨_, rfl, by omega, rfl, rfl⟩
set_option maxHeartbeats 4000000 in
set_option maxRecDepth 100000 in
theorem m7_isMode {z : ZG} {d sz : Nat} {h : AH} {v : Int} (rv : -2147483648 ≤ v ∧ v < 2147483648) : M z YX7_isMode d 0 0 [.int (I v)] h sz (fun w h' sz' => ∃ t : Int, w = some (.int (I t)) ∧ ((t = 1 ∧ (v = 1 ∨ v = 2 ∨ v = 4)) ∨ (t = 0 ∧ ¬ (v = 1 ∨ v = 2 ∨ v = 4))) ∧ h' = h ∧ sz' = sz) := by
  refine M.of (by decide +kernel) (Nat.le_of_ble_eq_true rfl) ?_
  refine V_iload_n dX7_isMode_0 rfl ?_
  refine J_iconst dX7_isMode_1 ?_
  refine J_icmp_eq (tgt := 15) dX7_isMode_2 (by decide) (by omega) (by omega) (fun c2 => ?_) (fun c2 => ?_)
  · refine J_iconst dX7_isMode_15 ?_
    refine V_goto (tgt := 20) dX7_isMode_16 (by decide) ?_
    exact V_iret dX7_isMode_20 rfl rfl ⟨Nat.zero_le _, Nat.zero_le _⟩ ⟨_, rfl, by omega, rfl, rfl⟩
  · refine V_iload_n dX7_isMode_5 rfl ?_
    refine J_iconst dX7_isMode_6 ?_
    refine J_icmp_eq (tgt := 15) dX7_isMode_7 (by decide) (by omega) (by omega) (fun c7 => ?_) (fun c7 => ?_)
    · refine J_iconst dX7_isMode_15 ?_
      refine V_goto (tgt := 20) dX7_isMode_16 (by decide) ?_
      exact V_iret dX7_isMode_20 rfl rfl ⟨Nat.zero_le _, Nat.zero_le _⟩ ⟨_, rfl, by omega, rfl, rfl⟩
    · refine V_iload_n dX7_isMode_10 rfl ?_
      refine J_iconst dX7_isMode_11 ?_
      refine J_icmp_ne (tgt := 19) dX7_isMode_12 (by decide) (by omega) (by omega) (fun c12 => ?_) (fun c12 => ?_)
      · refine J_iconst dX7_isMode_19 ?_
        exact V_iret dX7_isMode_20 rfl rfl ⟨Nat.zero_le _, Nat.zero_le _⟩ ⟨_, rfl, by omega, rfl, rfl⟩
      · refine J_iconst dX7_isMode_15 ?_
        refine V_goto (tgt := 20) dX7_isMode_16 (by decide) ?_
        exact V_iret dX7_isMode_20 rfl rfl ⟨Nat.zero_le _, Nat.zero_le _⟩ ⟨_, rfl, by omega, rfl, rfl⟩
set_option maxHeartbeats 4000000 in
set_option maxRecDepth 100000 in
theorem m7_isScalePitch {z : ZG} {d sz : Nat} {h : AH} {v : Int} (rv : -2147483648 ≤ v ∧ v < 2147483648) : M z YX7_isScalePitch (d + 1) 0 0 [.int (I v)] h sz (fun w h' sz' => ∃ t : Int, w = some (.int (I t)) ∧ ((t = 1 ∧ ((8 ≤ v ∧ v ≤ 80) ∧ v % 4 = 0)) ∨ (t = 0 ∧ ¬ ((8 ≤ v ∧ v ≤ 80) ∧ v % 4 = 0))) ∧ h' = h ∧ sz' = sz) := by
  refine M.of (by decide +kernel) (Nat.le_of_ble_eq_true rfl) ?_
  refine V_iload_n dX7_isScalePitch_0 rfl ?_
  refine J_bipush dX7_isScalePitch_1 (by decide) ?_
  refine J_bipush dX7_isScalePitch_3 (by decide) ?_
  refine V_callS (Y' := YX7_within) dX7_isScalePitch_5 lX7_74 gX7_within (m7_within (by omega) (by omega) (by omega)) rfl rfl (Nat.le_of_ble_eq_true rfl) ⟨Nat.zero_le _, Nat.zero_le _⟩ (fun v h1 sz1 hq => ?_)
  obtain ⟨t5, rfl, ht5, rfl, rfl⟩ := hq
  refine J_if_eq (tgt := 21) dX7_isScalePitch_8 (by decide) (by omega) (fun c8 => ?_) (fun c8 => ?_)
  · refine J_iconst dX7_isScalePitch_21 ?_
    exact V_iret dX7_isScalePitch_22 rfl rfl ⟨Nat.zero_le _, Nat.zero_le _⟩ ⟨_, rfl, by omega, rfl, rfl⟩
  · refine V_iload_n dX7_isScalePitch_11 rfl ?_
    refine J_iconst dX7_isScalePitch_12 ?_
    refine J_irem dX7_isScalePitch_13 (by omega) (by omega) ?_
    refine J_if_ne (tgt := 21) dX7_isScalePitch_14 (by decide) (by omega) (fun c14 => ?_) (fun c14 => ?_)
    · refine J_iconst dX7_isScalePitch_21 ?_
      exact V_iret dX7_isScalePitch_22 rfl rfl ⟨Nat.zero_le _, Nat.zero_le _⟩ ⟨_, rfl, by omega, rfl, rfl⟩
    · refine J_iconst dX7_isScalePitch_17 ?_
      refine V_goto (tgt := 22) dX7_isScalePitch_18 (by decide) ?_
      exact V_iret dX7_isScalePitch_22 rfl rfl ⟨Nat.zero_le _, Nat.zero_le _⟩ ⟨_, rfl, by omega, rfl, rfl⟩
set_option maxHeartbeats 4000000 in
set_option maxRecDepth 100000 in
theorem m7_quotient {z : ZG} {d sz : Nat} {h : AH} {a b : Int} (ha : 0 ≤ a ∧ a < 2147483648) (hb : 0 < b ∧ b < 2147483648) : M z YX7_quotient d 0 0 [.int (I a), .int (I b)] h sz (fun w h' sz' => w = some (.int (I (a / b))) ∧ h' = h ∧ sz' = sz) := by
  refine M.of (by decide +kernel) (Nat.le_of_ble_eq_true rfl) ?_
  refine V_iload_n dX7_quotient_0 rfl ?_
  refine J_if_le (tgt := 10) dX7_quotient_1 (by decide) (by omega) (fun c1 => ?_) (fun c1 => ?_)
  · refine J_iconst dX7_quotient_10 ?_
    exact V_iret dX7_quotient_11 rfl rfl ⟨Nat.zero_le _, Nat.zero_le _⟩ ⟨by first | rfl | (exfalso; omega), rfl, rfl⟩
  · refine V_iload_n dX7_quotient_4 rfl ?_
    refine V_iload_n dX7_quotient_5 rfl ?_
    refine J_idiv dX7_quotient_6 (by omega) (by omega) ?_
    refine V_goto (tgt := 11) dX7_quotient_7 (by decide) ?_
    exact V_iret dX7_quotient_11 rfl rfl ⟨Nat.zero_le _, Nat.zero_le _⟩ ⟨by first | rfl | (exfalso; omega), rfl, rfl⟩
set_option maxHeartbeats 4000000 in
set_option maxRecDepth 100000 in
theorem m7_remainder {z : ZG} {d sz : Nat} {h : AH} {a b : Int} (ha : 0 ≤ a ∧ a < 2147483648) (hb : 0 < b ∧ b < 2147483648) : M z YX7_remainder d 0 0 [.int (I a), .int (I b)] h sz (fun w h' sz' => w = some (.int (I (a % b))) ∧ h' = h ∧ sz' = sz) := by
  refine M.of (by decide +kernel) (Nat.le_of_ble_eq_true rfl) ?_
  refine V_iload_n dX7_remainder_0 rfl ?_
  refine J_if_le (tgt := 10) dX7_remainder_1 (by decide) (by omega) (fun c1 => ?_) (fun c1 => ?_)
  · refine J_iconst dX7_remainder_10 ?_
    exact V_iret dX7_remainder_11 rfl rfl ⟨Nat.zero_le _, Nat.zero_le _⟩ ⟨by first | rfl | (exfalso; omega), rfl, rfl⟩
  · refine V_iload_n dX7_remainder_4 rfl ?_
    refine V_iload_n dX7_remainder_5 rfl ?_
    refine J_irem dX7_remainder_6 (by omega) (by omega) ?_
    refine V_goto (tgt := 11) dX7_remainder_7 (by decide) ?_
    exact V_iret dX7_remainder_11 rfl rfl ⟨Nat.zero_le _, Nat.zero_le _⟩ ⟨by first | rfl | (exfalso; omega), rfl, rfl⟩
theorem gcd_half {g l : Nat} (hl : 0 < l) (hg : l ≤ g) {n : Nat} (h : g * l < 2 ^ (n + 1)) : l * (g % l) < 2 ^ n := by
  have h1 : g % l < l := Nat.mod_lt _ hl
  have h2 : g % l + l ≤ g := by
    have e := Nat.div_add_mod g l
    have q : 1 ≤ g / l := Nat.div_pos hg hl
    have : l * 1 ≤ l * (g / l) := Nat.mul_le_mul_left l q
    omega
  have h3 : l * (2 * (g % l)) ≤ l * g := Nat.mul_le_mul_left l (by omega)
  have h4 : l * (2 * (g % l)) = 2 * (l * (g % l)) := by rw [Nat.mul_left_comm]
  have h5 : 2 ^ (n + 1) = 2 * 2 ^ n := by rw [Nat.pow_succ, Nat.mul_comm]
  rw [Nat.mul_comm g l] at h
  omega
theorem gcd_step {g l : Nat} : Nat.gcd l (g % l) = Nat.gcd g l := by rw [Nat.gcd_comm l, ← Nat.gcd_rec, Nat.gcd_comm]
set_option maxHeartbeats 4000000 in
set_option maxRecDepth 100000 in
theorem l7_cd {z : ZG} {d sz : Nat} {h : AH} {a0 b0 : Int} {g0 l0 : Nat} : ∀ (n k g l : Nat) (o5 : Option Value), k + n ≤ 64 → g * l < 2 ^ n → l ≤ g → 0 < g → g < 2147483648 → Nat.gcd g l = Nat.gcd g0 l0 → V z YX7_commonDivisor (zroom d 0 0) (fun w h' sz' => w = some (.int (I (Nat.gcd g0 l0 : Int))) ∧ h' = h ∧ sz' = sz) 7 [some (.int (I a0)), some (.int (I b0)), some (.int (I (g : Int))), some (.int (I (l : Int))), some (.int (I (k : Int))), o5] [] h sz 0 0 := by
  intro n
  induction n using Nat.strongRecOn with
  | ind n ih =>
    intro k g l o5 hk hp hgl hg hb hgc
    have hend : 64 ≤ k → l = 0 := fun q => by
      have e : n = 0 := by omega
      subst e
      rcases Nat.eq_zero_or_pos l with w | w
      · exact w
      · have := Nat.mul_pos hg w
        simp at hp
        omega
    refine V_iload dX7_commonDivisor_7 rfl ?_
    refine J_bipush dX7_commonDivisor_9 (by decide) ?_
    refine J_icmp_ge (tgt := 34) dX7_commonDivisor_11 (by decide) (by omega) (by omega) (fun c11 => ?_) (fun c11 => ?_)
    · refine V_iload_n dX7_commonDivisor_34 rfl ?_
      exact V_iret dX7_commonDivisor_35 rfl rfl ⟨Nat.zero_le _, Nat.zero_le _⟩ ⟨by rw [← hgc, (show l = 0 by first | omega | exact hend (by omega)), Nat.gcd_zero_right], rfl, rfl⟩
    · refine V_iload_n dX7_commonDivisor_14 rfl ?_
      refine J_if_le (tgt := 34) dX7_commonDivisor_15 (by decide) (by omega) (fun c15 => ?_) (fun c15 => ?_)
      · refine V_iload_n dX7_commonDivisor_34 rfl ?_
        exact V_iret dX7_commonDivisor_35 rfl rfl ⟨Nat.zero_le _, Nat.zero_le _⟩ ⟨by rw [← hgc, (show l = 0 by first | omega | exact hend (by omega)), Nat.gcd_zero_right], rfl, rfl⟩
      · refine V_iload_n dX7_commonDivisor_18 rfl ?_
        refine V_iload_n dX7_commonDivisor_19 rfl ?_
        have hm0 : 0 < l := by omega
        refine J_irem dX7_commonDivisor_20 (by omega) (by omega) ?_
        refine V_istore dX7_commonDivisor_21 (Nat.le_of_ble_eq_true rfl) ?_
        refine V_iload_n dX7_commonDivisor_23 rfl ?_
        refine V_istore_n dX7_commonDivisor_24 (Nat.le_of_ble_eq_true rfl) ?_
        refine V_iload dX7_commonDivisor_25 rfl ?_
        refine V_istore_n dX7_commonDivisor_27 (Nat.le_of_ble_eq_true rfl) ?_
        refine J_iinc dX7_commonDivisor_28 rfl ?_
        refine V_goto (tgt := 7) dX7_commonDivisor_31 (by decide) ?_
        rw [show ((g : Int) % (l : Int)) = ((g % l : Nat) : Int) by omega, show ((k : Int) + 1) = ((k + 1 : Nat) : Int) by omega]
        have hlt : g % l < l := Nat.mod_lt _ hm0
        cases n with
        | zero => exfalso; have := Nat.mul_pos (show 0 < g by omega) hm0; simp at hp; omega
        | succ n => exact ih n (by omega) (k + 1) l (g % l) _ (by omega) (gcd_half hm0 hgl hp) (by omega) (by omega) (by omega) (by rw [← hgc]; exact (Nat.gcd_comm l (g % l)).trans (by rw [Nat.gcd_comm, Nat.gcd_comm l, ← Nat.gcd_rec, Nat.gcd_comm]))
set_option maxHeartbeats 4000000 in
set_option maxRecDepth 100000 in
theorem m7_commonDivisor {z : ZG} {d sz : Nat} {h : AH} {u v : Nat} (hu0 : 0 < u) (hu : u < 10000) (hv : v < 10000) : M z YX7_commonDivisor d 0 0 [.int (I (u : Int)), .int (I (v : Int))] h sz (fun w h' sz' => w = some (.int (I (Nat.gcd u v : Int))) ∧ h' = h ∧ sz' = sz) := by
  refine M.of (by decide +kernel) (Nat.le_of_ble_eq_true rfl) ?_
  refine V_iload_n dX7_commonDivisor_0 rfl ?_
  refine V_istore_n dX7_commonDivisor_1 (Nat.le_of_ble_eq_true rfl) ?_
  refine V_iload_n dX7_commonDivisor_2 rfl ?_
  refine V_istore_n dX7_commonDivisor_3 (Nat.le_of_ble_eq_true rfl) ?_
  refine J_iconst dX7_commonDivisor_4 ?_
  refine V_istore dX7_commonDivisor_5 (Nat.le_of_ble_eq_true rfl) ?_
  by_cases hgl : v ≤ u
  · exact l7_cd 40 0 u v _ (by omega) (by have := Nat.mul_le_mul (Nat.le_of_lt hu) (Nat.le_of_lt hv); exact Nat.lt_of_le_of_lt this (by decide)) hgl hu0 (by omega) rfl
  · rw [show (0 : Int) = ((0 : Nat) : Int) from rfl]
    refine V_iload dX7_commonDivisor_7 rfl ?_
    refine J_bipush dX7_commonDivisor_9 (by decide) ?_
    refine J_icmp_ge (tgt := 34) dX7_commonDivisor_11 (by decide) (by omega) (by omega) (fun c11 => ?_) (fun c11 => ?_)
    · refine V_iload_n dX7_commonDivisor_34 rfl ?_
      exact V_iret dX7_commonDivisor_35 rfl rfl ⟨Nat.zero_le _, Nat.zero_le _⟩ ⟨by exfalso; omega, rfl, rfl⟩
    · refine V_iload_n dX7_commonDivisor_14 rfl ?_
      refine J_if_le (tgt := 34) dX7_commonDivisor_15 (by decide) (by omega) (fun c15 => ?_) (fun c15 => ?_)
      · refine V_iload_n dX7_commonDivisor_34 rfl ?_
        exact V_iret dX7_commonDivisor_35 rfl rfl ⟨Nat.zero_le _, Nat.zero_le _⟩ ⟨by exfalso; omega, rfl, rfl⟩
      · refine V_iload_n dX7_commonDivisor_18 rfl ?_
        refine V_iload_n dX7_commonDivisor_19 rfl ?_
        refine J_irem dX7_commonDivisor_20 (by omega) (by omega) ?_
        refine V_istore dX7_commonDivisor_21 (Nat.le_of_ble_eq_true rfl) ?_
        refine V_iload_n dX7_commonDivisor_23 rfl ?_
        refine V_istore_n dX7_commonDivisor_24 (Nat.le_of_ble_eq_true rfl) ?_
        refine V_iload dX7_commonDivisor_25 rfl ?_
        refine V_istore_n dX7_commonDivisor_27 (Nat.le_of_ble_eq_true rfl) ?_
        refine J_iinc dX7_commonDivisor_28 rfl ?_
        refine V_goto (tgt := 7) dX7_commonDivisor_31 (by decide) ?_
        rw [show ((u : Int) % (v : Int)) = (u : Int) from Int.emod_eq_of_lt (by omega) (by omega)]
        exact l7_cd 40 1 v u _ (by omega) (by have := Nat.mul_le_mul (Nat.le_of_lt hv) (Nat.le_of_lt hu); exact Nat.lt_of_le_of_lt this (by decide)) (by omega) (by omega) (by omega) (Nat.gcd_comm v u)
section Mabs
variable {z : ZG} {Y : ZM} {Q : ZQ} {pc d mc ms : Nat} {L : AL} {st : List Value} {h : AH} {sz kc nc : Nat}
theorem I_abs {x : Int} (hx : -2147483648 < x ∧ x < 2147483648) : (if 0 ≤ I x then I x else -(I x)) = I (x.natAbs : Int) := by
  by_cases q : 0 ≤ x
  · have h0 : (0 : Int32) ≤ I x := (I_le (a := 0) (b := x) (by omega) (by omega)).mpr q
    rw [if_pos h0, show ((x.natAbs : Nat) : Int) = x by omega]
  · have h0 : ¬ (0 : Int32) ≤ I x := fun w => q ((I_le (a := 0) (b := x) (by omega) (by omega)).mp w)
    rw [if_neg h0, show ((x.natAbs : Nat) : Int) = -x by omega]
    exact (Int32.ofInt_neg x).symm
theorem J_mabs {x : Int} (hx : -2147483648 < x ∧ x < 2147483648) (hY : Y.1.cls = RX7) (hd : decode Y.2.1 pc = .ok (.invokestatic 229, 3)) (hst : (st.map fun v => v.category).sum ≤ 8) (hk : kc ≤ mc ∧ nc ≤ ms) (kk : V z Y (zroom (d + 1) mc ms) Q (pc + 3) L (.int (I (x.natAbs : Int)) :: st) h sz kc nc) : V z Y (zroom (d + 1) mc ms) Q pc L (.int (I x) :: st) h sz kc nc := V_mabs hY hd hst hk (by rw [I_abs hx]; exact kk)
end Mabs
set_option maxHeartbeats 4000000 in
set_option maxRecDepth 100000 in
theorem m7_sampleCount {z : ZG} {d sz : Nat} {h : AH} {f t v : Int} (hf : 0 ≤ f ∧ f ≤ 9999) (ht : 0 ≤ t ∧ t ≤ 9999) (hv : 1 ≤ v ∧ v ≤ 99) : M z YX7_sampleCount (d + 1) 0 0 [.int (I f), .int (I t), .int (I v)] h sz (fun w h' sz' => w = some (.int (I ((((t - f).natAbs : Int) + v - 1) / v))) ∧ h' = h ∧ sz' = sz) := by
  refine M.of (by decide +kernel) (Nat.le_of_ble_eq_true rfl) ?_
  refine V_iload_n dX7_sampleCount_0 rfl ?_
  refine V_iload_n dX7_sampleCount_1 rfl ?_
  refine J_isub dX7_sampleCount_2 ?_
  refine J_mabs (by omega) rfl dX7_sampleCount_3 (Nat.le_of_ble_eq_true rfl) ⟨Nat.zero_le _, Nat.zero_le _⟩ ?_
  refine V_iload_n dX7_sampleCount_6 rfl ?_
  refine J_iadd dX7_sampleCount_7 ?_
  refine J_iconst dX7_sampleCount_8 ?_
  refine J_isub dX7_sampleCount_9 ?_
  refine V_iload_n dX7_sampleCount_10 rfl ?_
  refine V_callS (Y' := YX7_quotient) dX7_sampleCount_11 lX7_231 gX7_quotient (m7_quotient (by omega) (by omega)) rfl rfl (Nat.le_of_ble_eq_true rfl) ⟨Nat.zero_le _, Nat.zero_le _⟩ (fun v h1 sz1 hq => ?_)
  obtain ⟨rfl, rfl, rfl⟩ := hq
  exact V_iret dX7_sampleCount_14 rfl rfl ⟨Nat.zero_le _, Nat.zero_le _⟩ ⟨rfl, rfl, rfl⟩
/-- the place of a sample when the head has gone that far -/
def spo (f t k : Int) : Int := if ((t - f).natAbs : Int) ≤ k then t else if f < t then f + k else f - k
set_option maxHeartbeats 4000000 in
set_option maxRecDepth 100000 in
theorem m7_samplePosition {z : ZG} {d sz : Nat} {h : AH} {f t k : Int} (hf : 0 ≤ f ∧ f ≤ 9999) (ht : 0 ≤ t ∧ t ≤ 9999) (hk : 0 ≤ k ∧ k ≤ 1000000) : M z YX7_samplePosition (d + 1) 0 0 [.int (I f), .int (I t), .int (I k)] h sz (fun w h' sz' => w = some (.int (I (spo f t k))) ∧ h' = h ∧ sz' = sz) := by
  refine M.of (by decide +kernel) (Nat.le_of_ble_eq_true rfl) ?_
  refine V_iload_n dX7_samplePosition_0 rfl ?_
  refine V_iload_n dX7_samplePosition_1 rfl ?_
  refine V_iload_n dX7_samplePosition_2 rfl ?_
  refine J_isub dX7_samplePosition_3 ?_
  refine J_mabs (by omega) rfl dX7_samplePosition_4 (Nat.le_of_ble_eq_true rfl) ⟨Nat.zero_le _, Nat.zero_le _⟩ ?_
  refine J_icmp_lt (tgt := 12) dX7_samplePosition_7 (by decide) (by omega) (by omega) (fun c7 => ?_) (fun c7 => ?_)
  · refine V_iload_n dX7_samplePosition_12 rfl ?_
    refine V_iload_n dX7_samplePosition_13 rfl ?_
    refine J_icmp_ge (tgt := 23) dX7_samplePosition_14 (by decide) (by omega) (by omega) (fun c14 => ?_) (fun c14 => ?_)
    · refine V_iload_n dX7_samplePosition_23 rfl ?_
      refine V_iload_n dX7_samplePosition_24 rfl ?_
      refine J_isub dX7_samplePosition_25 ?_
      exact V_iret dX7_samplePosition_26 rfl rfl ⟨Nat.zero_le _, Nat.zero_le _⟩ ⟨by unfold spo; first | rw [if_pos (by omega)] | rw [if_neg (by omega), if_pos (by omega)] | rw [if_neg (by omega), if_neg (by omega)], rfl, rfl⟩
    · refine V_iload_n dX7_samplePosition_17 rfl ?_
      refine V_iload_n dX7_samplePosition_18 rfl ?_
      refine J_iadd dX7_samplePosition_19 ?_
      refine V_goto (tgt := 26) dX7_samplePosition_20 (by decide) ?_
      exact V_iret dX7_samplePosition_26 rfl rfl ⟨Nat.zero_le _, Nat.zero_le _⟩ ⟨by unfold spo; first | rw [if_pos (by omega)] | rw [if_neg (by omega), if_pos (by omega)] | rw [if_neg (by omega), if_neg (by omega)], rfl, rfl⟩
  · refine V_iload_n dX7_samplePosition_10 rfl ?_
    exact V_iret dX7_samplePosition_11 rfl rfl ⟨Nat.zero_le _, Nat.zero_le _⟩ ⟨by unfold spo; first | rw [if_pos (by omega)] | rw [if_neg (by omega), if_pos (by omega)] | rw [if_neg (by omega), if_neg (by omega)], rfl, rfl⟩
set_option maxHeartbeats 4000000 in
set_option maxRecDepth 100000 in
theorem m7_isClear {z : ZG} {d sz : Nat} {h : AH} {x p : Int} (hx : 0 ≤ x ∧ x < 1000000) (hp : 8 ≤ p ∧ p ≤ 80) : M z YX7_isClear (d + 1) 0 0 [.int (I x), .int (I p)] h sz (fun w h' sz' => ∃ t : Int, w = some (.int (I t)) ∧ ((t = 1 ∧ (p / 2 ≤ x % p)) ∨ (t = 0 ∧ ¬ (p / 2 ≤ x % p))) ∧ h' = h ∧ sz' = sz) := by
  refine M.of (by decide +kernel) (Nat.le_of_ble_eq_true rfl) ?_
  refine V_iload_n dX7_isClear_0 rfl ?_
  refine V_iload_n dX7_isClear_1 rfl ?_
  refine V_callS (Y' := YX7_remainder) dX7_isClear_2 lX7_277 gX7_remainder (m7_remainder (by omega) (by omega)) rfl rfl (Nat.le_of_ble_eq_true rfl) ⟨Nat.zero_le _, Nat.zero_le _⟩ (fun v h1 sz1 hq => ?_)
  obtain ⟨rfl, rfl, rfl⟩ := hq
  have hrm := Int.emod_nonneg x (show p ≠ 0 by omega)
  have hrl := Int.emod_lt_of_pos x (show 0 < p by omega)
  refine V_iload_n dX7_isClear_5 rfl ?_
  refine J_iconst dX7_isClear_6 ?_
  refine J_idiv dX7_isClear_7 (by omega) (by omega) ?_
  refine J_icmp_lt (tgt := 15) dX7_isClear_8 (by decide) (by omega) (by omega) (fun c8 => ?_) (fun c8 => ?_)
  · refine J_iconst dX7_isClear_15 ?_
    exact V_iret dX7_isClear_16 rfl rfl ⟨Nat.zero_le _, Nat.zero_le _⟩ ⟨_, rfl, by omega, rfl, rfl⟩
  · refine J_iconst dX7_isClear_11 ?_
    refine V_goto (tgt := 16) dX7_isClear_12 (by decide) ?_
    exact V_iret dX7_isClear_16 rfl rfl ⟨Nat.zero_le _, Nat.zero_le _⟩ ⟨_, rfl, by omega, rfl, rfl⟩
