/-! THE REFERENCE: moves asked for, changes -/
theorem V_lcmp_ne {z : ZG} {Y : ZM} {R : Room} {Q : ZQ} {pc : Nat} {L : AL} {st : List Value} {h : AH} {sz kc nc : Nat} {x y : Int64} {off : Int} {tgt : Nat} (hd : decode Y.2.1 pc = .ok (.lcmp, 1)) (hd2 : decode Y.2.1 (pc + 1) = .ok (.ifCond .ne off, 3)) (ht : ((pc + 1 : Nat) : Int) + off = (tgt : Int)) (kt : ¬ x = y → V z Y R Q tgt L st h sz kc nc) (kf : x = y → V z Y R Q (pc + 1 + 3) L st h sz kc nc) : V z Y R Q pc L (.long y :: .long x :: st) h sz kc nc := by
  refine V_lcmp hd (V_if_ne hd2 ht (fun q => kt (fun e => q ?_)) (fun q => kf ?_))
  · subst e; simp [lg_cmp]
  · unfold lg_cmp at q
    split at q
    · exact absurd q (by decide)
    · split at q
      · assumption
      · exact absurd q (by decide)
theorem md_rg {N : Nat → Int} {x : Int} (h : N 5 = 1 ∨ N 5 = 2 ∨ N 5 = 4) (hx : 0 ≤ x ∧ x ≤ 9999) : 0 ≤ N 5 * x ∧ N 5 * x < 2147483648 := by rcases h with q | q | q <;> rw [q] <;> omega
set_option maxHeartbeats 4000000 in
set_option maxRecDepth 100000 in
theorem m8_isMove {z : ZG} {d sz : Nat} {h : AH} {t v : Int} (ht : -2147483648 ≤ t ∧ t < 2147483648) (hv : -2147483648 ≤ v ∧ v < 2147483648) : M z YX8_isMove (d + 1) 0 0 [.int (I t), .int (I v)] h sz (fun w h' sz' => ∃ q : Int, w = some (.int (I q)) ∧ ((q = 1 ∧ (0 ≤ t ∧ t ≤ 9999) ∧ 1 ≤ v ∧ v ≤ 99) ∨ (q = 0 ∧ ¬ ((0 ≤ t ∧ t ≤ 9999) ∧ 1 ≤ v ∧ v ≤ 99))) ∧ h' = h ∧ sz' = sz) := by
  refine M.of (by decide +kernel) (Nat.le_of_ble_eq_true rfl) ?_
  refine V_iload_n dX8_isMove_0 rfl ?_
  refine J_i2l dX8_isMove_1 (by omega) ?_
  refine J_lconst0 dX8_isMove_2 ?_
  refine J_ldc2 9999 dX8_isMove_3 cX8_110 rfl ?_
  refine V_callS (Y' := YX8_in) dX8_isMove_6 lX8_57 gX8_in (m8_in (by omega) (by omega) (by omega)) rfl rfl (Nat.le_of_ble_eq_true rfl) ⟨Nat.zero_le _, Nat.zero_le _⟩ (fun v h1 sz1 hq => ?_)
  obtain ⟨t6, rfl, ht6, rfl, rfl⟩ := hq
  refine J_if_eq (tgt := 28) dX8_isMove_9 (by decide) (by omega) (fun c9 => ?_) (fun c9 => ?_)
  · refine J_iconst dX8_isMove_28 ?_
    exact V_iret dX8_isMove_29 rfl rfl ⟨Nat.zero_le _, Nat.zero_le _⟩ ⟨_, rfl, by omega, rfl, rfl⟩
  · refine V_iload_n dX8_isMove_12 rfl ?_
    refine J_i2l dX8_isMove_13 (by omega) ?_
    refine J_lconst1 dX8_isMove_14 ?_
    refine J_ldc2 99 dX8_isMove_15 cX8_112 rfl ?_
    refine V_callS (Y' := YX8_in) dX8_isMove_18 lX8_57 gX8_in (m8_in (by omega) (by omega) (by omega)) rfl rfl (Nat.le_of_ble_eq_true rfl) ⟨Nat.zero_le _, Nat.zero_le _⟩ (fun v h1 sz1 hq => ?_)
    obtain ⟨t18, rfl, ht18, rfl, rfl⟩ := hq
    refine J_if_eq (tgt := 28) dX8_isMove_21 (by decide) (by omega) (fun c21 => ?_) (fun c21 => ?_)
    · refine J_iconst dX8_isMove_28 ?_
      exact V_iret dX8_isMove_29 rfl rfl ⟨Nat.zero_le _, Nat.zero_le _⟩ ⟨_, rfl, by omega, rfl, rfl⟩
    · refine J_iconst dX8_isMove_24 ?_
      refine V_goto (tgt := 29) dX8_isMove_25 (by decide) ?_
      exact V_iret dX8_isMove_29 rfl rfl ⟨Nat.zero_le _, Nat.zero_le _⟩ ⟨_, rfl, by omega, rfl, rfl⟩
set_option maxHeartbeats 4000000 in
set_option maxRecDepth 100000 in
theorem m8_expects {z : ZG} {d sz r n s : Nat} {g h : AH} {l sp nu rs rm sc mk km : Int} {T RA RD MA NW SD KP : Nat → Int} {x md : Int} (hm : MS g r n s l sp nu rs rm sc mk km T RA RD MA NW SD KP h) (hs : 8 ≤ sc ∧ sc ≤ 80) (hx : 0 ≤ md * x ∧ md * x < 2147483648) : M z YX8_expects d 0 0 [.ref r, .int (I x), .int (I md)] h sz (fun w h' sz' => w = some (.int (I (md * x / sc))) ∧ h' = h ∧ sz' = sz) := by
  refine M.of (by decide +kernel) (Nat.le_of_ble_eq_true rfl) ?_
  refine V_iload_n dX8_expects_0 rfl ?_
  refine V_iload_n dX8_expects_1 rfl ?_
  refine J_imul dX8_expects_2 ?_
  refine V_aload_n dX8_expects_3 rfl ?_
  refine V_get dX8_expects_4 fX8_44 hm.1 rfl ?_
  refine J_idiv dX8_expects_7 (by omega) (by omega) ?_
  exact V_iret dX8_expects_8 rfl rfl ⟨Nat.zero_le _, Nat.zero_le _⟩ ⟨rfl, rfl, rfl⟩
set_option maxHeartbeats 4000000 in
set_option maxRecDepth 100000 in
theorem m8_slipOf_S {z : ZG} {d sz r n s : Nat} {g h : AH} {l sp nu rs rm sc mk km : Int} {T RA RD MA NW SD KP : Nat → Int} (hm : MS g r n s l sp nu rs rm sc mk km T RA RD MA NW SD KP h) (hs : 8 ≤ sc ∧ sc ≤ 80) (hr : rok SD) : M z YX8_slipOf (d + 1) 0 0 [.ref r, .ref s] h sz (fun w h' sz' => w = some (.long (I (SD 1 - SD 5 * SD 0 / sc)).toInt64) ∧ h' = h ∧ sz' = sz) := by
  refine M.of (by decide +kernel) (Nat.le_of_ble_eq_true rfl) ?_
  have hx0 := md_rg hr.2.2.1 hr.1
  refine V_aload_n dX8_slipOf_0 rfl ?_
  refine J_iconst dX8_slipOf_1 ?_
  refine R_aldk_SD 1 dX8_slipOf_2 hm rfl (by decide) ?_
  refine V_aload_n dX8_slipOf_3 rfl ?_
  refine V_aload_n dX8_slipOf_4 rfl ?_
  refine J_iconst dX8_slipOf_5 ?_
  refine R_aldk_SD 0 dX8_slipOf_6 hm rfl (by decide) ?_
  refine V_aload_n dX8_slipOf_7 rfl ?_
  refine J_iconst dX8_slipOf_8 ?_
  refine R_aldk_SD 5 dX8_slipOf_9 hm rfl (by decide) ?_
  refine V_callV (Y' := YX8_expects) dX8_slipOf_10 lX8_114 gX8_expects (m8_expects hm hs (by first | omega | exact hx0)) hm.1 rfl rfl rfl (Nat.le_of_ble_eq_true rfl) ⟨Nat.zero_le _, Nat.zero_le _⟩ (fun v h1 sz1 hq => ?_)
  obtain ⟨rfl, rfl, rfl⟩ := hq
  refine J_isub dX8_slipOf_13 ?_
  refine V_i2l dX8_slipOf_14 ?_
  exact V_lret dX8_slipOf_15 rfl ⟨Nat.zero_le _, Nat.zero_le _⟩ ⟨rfl, rfl, rfl⟩
set_option maxHeartbeats 4000000 in
set_option maxRecDepth 100000 in
theorem m8_slipOf_N {z : ZG} {d sz r n s : Nat} {g h : AH} {l sp nu rs rm sc mk km : Int} {T RA RD MA NW SD KP : Nat → Int} (hm : MS g r n s l sp nu rs rm sc mk km T RA RD MA NW SD KP h) (hs : 8 ≤ sc ∧ sc ≤ 80) (hr : rok NW) : M z YX8_slipOf (d + 1) 0 0 [.ref r, .ref n] h sz (fun w h' sz' => w = some (.long (I (NW 1 - NW 5 * NW 0 / sc)).toInt64) ∧ h' = h ∧ sz' = sz) := by
  refine M.of (by decide +kernel) (Nat.le_of_ble_eq_true rfl) ?_
  have hx0 := md_rg hr.2.2.1 hr.1
  refine V_aload_n dX8_slipOf_0 rfl ?_
  refine J_iconst dX8_slipOf_1 ?_
  refine R_aldk_NW 1 dX8_slipOf_2 hm rfl (by decide) ?_
  refine V_aload_n dX8_slipOf_3 rfl ?_
  refine V_aload_n dX8_slipOf_4 rfl ?_
  refine J_iconst dX8_slipOf_5 ?_
  refine R_aldk_NW 0 dX8_slipOf_6 hm rfl (by decide) ?_
  refine V_aload_n dX8_slipOf_7 rfl ?_
  refine J_iconst dX8_slipOf_8 ?_
  refine R_aldk_NW 5 dX8_slipOf_9 hm rfl (by decide) ?_
  refine V_callV (Y' := YX8_expects) dX8_slipOf_10 lX8_114 gX8_expects (m8_expects hm hs (by first | omega | exact hx0)) hm.1 rfl rfl rfl (Nat.le_of_ble_eq_true rfl) ⟨Nat.zero_le _, Nat.zero_le _⟩ (fun v h1 sz1 hq => ?_)
  obtain ⟨rfl, rfl, rfl⟩ := hq
  refine J_isub dX8_slipOf_13 ?_
  refine V_i2l dX8_slipOf_14 ?_
  exact V_lret dX8_slipOf_15 rfl ⟨Nat.zero_le _, Nat.zero_le _⟩ ⟨rfl, rfl, rfl⟩
theorem MS.swap {r n s : Nat} {g h : AH} {l sp nu rs rm sc mk km : Int} {T RA RD MA NW SD KP : Nat → Int} (hm : MS g r n s l sp nu rs rm sc mk km T RA RD MA NW SD KP h) : MS g r s n l sp nu rs rm sc mk km T RA RD MA SD NW KP (hset (hset h r (.inl (8, [.ref (r + 1), .int (I l), .int (I sp), .int (I nu), .int (I rs), .int (I rm), .ref (r + 2), .ref (r + 3), .int (I sc), .int (I mk), .ref (r + 4), .ref n, .ref s, .ref (r + 7), .int (I km)].set 11 (.ref s)))) r (.inl (8, ([.ref (r + 1), .int (I l), .int (I sp), .int (I nu), .int (I rs), .int (I rm), .ref (r + 2), .ref (r + 3), .int (I sc), .int (I mk), .ref (r + 4), .ref n, .ref s, .ref (r + 7), .int (I km)].set 11 (.ref s)).set 12 (.ref n)))) := by
  obtain ⟨h0, ⟨h1, h2, h3, h4, h5, h6, h7⟩, h8, h9⟩ := hm
  have e : ∀ x, x ≠ r → hset (hset h r (.inl (8, [.ref (r + 1), .int (I l), .int (I sp), .int (I nu), .int (I rs), .int (I rm), .ref (r + 2), .ref (r + 3), .int (I sc), .int (I mk), .ref (r + 4), .ref n, .ref s, .ref (r + 7), .int (I km)].set 11 (.ref s)))) r (.inl (8, ([.ref (r + 1), .int (I l), .int (I sp), .int (I nu), .int (I rs), .int (I rm), .ref (r + 2), .ref (r + 3), .int (I sc), .int (I mk), .ref (r + 4), .ref n, .ref s, .ref (r + 7), .int (I km)].set 11 (.ref s)).set 12 (.ref n))) x = h x := fun x hx => (hset_n hx).trans (hset_n hx)
  exact ⟨hset_s, ⟨h1.kept (e _ (by omega)), h2.kept (e _ (by omega)), h3.kept (e _ (by omega)), h4.kept (e _ (by omega)), h6.kept (e _ (by omega)), h5.kept (e _ (by omega)), h7.kept (e _ (by omega))⟩, by omega, fun x hx => (e x (by omega)).trans (h9 x hx)⟩
set_option maxHeartbeats 4000000 in
set_option maxRecDepth 100000 in
theorem m8_moveTo {z : ZG} {d sz r n s : Nat} {g h : AH} {l sp nu rs rm sc km : Int} {T RA RD MA NW SD KP : Nat → Int} {m : Nat} {t v : Int} (ht : -2147483648 ≤ t ∧ t < 2147483648) (hv : -2147483648 ≤ v ∧ v < 2147483648) (hm : MS g r n s l sp nu rs rm sc m km T RA RD MA NW SD KP h) (hs : 8 ≤ sc ∧ sc ≤ 80) (hmk : m ≤ 6) (hma : ∀ j : Nat, j < 6 → 0 ≤ MA j ∧ MA j ≤ 9999) (hr : rok NW) (hk : 0 ≤ km ∧ km ≤ 6) : M z YX8_moveTo (d + 4) 0 0 [.ref r, .int (I t), .int (I v)] h sz (fun w h' sz' => sz' = sz ∧ ((¬ ((0 ≤ t ∧ t ≤ 9999) ∧ 1 ≤ v ∧ v ≤ 99) ∧ w = some (.int (I (-1))) ∧ MS g r n s l sp nu rs rm sc m km T RA RD MA NW SD KP h') ∨ (((0 ≤ t ∧ t ≤ 9999) ∧ 1 ≤ v ∧ v ≤ 99) ∧ w = some (.int (I (mvF sc m MA t v 10000 NW 3 - NW 3))) ∧ ∃ (km2 : Int) (KP2 : Nat → Int), kq km KP NW km2 KP2 ∧ MS g r s n l sp nu rs rm sc m km2 T RA RD MA (mvF sc m MA t v 10000 NW) NW KP2 h'))) := by
  refine M.of (by decide +kernel) (Nat.le_of_ble_eq_true rfl) ?_
  refine V_iload_n dX8_moveTo_0 rfl ?_
  refine V_iload_n dX8_moveTo_1 rfl ?_
  refine V_callS (Y' := YX8_isMove) dX8_moveTo_2 lX8_118 gX8_isMove (m8_isMove (by omega) (by omega)) rfl rfl (Nat.le_of_ble_eq_true rfl) ⟨Nat.zero_le _, Nat.zero_le _⟩ (fun v h1 sz1 hq => ?_)
  obtain ⟨q2, rfl, hq2, rfl, rfl⟩ := hq
  refine J_if_ne (tgt := 10) dX8_moveTo_5 (by decide) (by omega) (fun c5 => ?_) (fun c5 => ?_)
  · refine V_aload_n dX8_moveTo_10 rfl ?_
    refine V_callV (Y' := YX8_keeps) dX8_moveTo_11 lX8_122 gX8_keeps (m8_keeps hm (by omega)) hm.1 rfl rfl rfl (Nat.le_of_ble_eq_true rfl) ⟨Nat.zero_le _, Nat.zero_le _⟩ (fun v h1 sz1 hq => ?_)
    obtain ⟨rfl, rfl, km2, KP2, hk2, hm⟩ := hq
    refine V_aload_n dX8_moveTo_14 rfl ?_
    refine V_callV (Y' := YX8_aside) dX8_moveTo_15 lX8_125 gX8_aside (m8_aside hm) hm.1 rfl rfl rfl (Nat.le_of_ble_eq_true rfl) ⟨Nat.zero_le _, Nat.zero_le _⟩ (fun v h1 sz1 hq => ?_)
    obtain ⟨rfl, rfl, hm⟩ := hq
    refine V_aload_n dX8_moveTo_18 rfl ?_
    refine V_iload_n dX8_moveTo_19 rfl ?_
    refine V_iload_n dX8_moveTo_20 rfl ?_
    refine V_callV (Y' := YX8_moves) dX8_moveTo_21 lX8_128 gX8_moves (m8_moves (by omega) (by omega) hmk hma hs hm hr) hm.1 rfl rfl rfl (Nat.le_of_ble_eq_true rfl) ⟨Nat.zero_le _, Nat.zero_le _⟩ (fun v h1 sz1 hq => ?_)
    obtain ⟨rfl, rfl, hm⟩ := hq
    refine V_aload_n dX8_moveTo_24 rfl ?_
    refine V_get dX8_moveTo_25 fX8_25 hm.1 rfl ?_
    refine J_iconst dX8_moveTo_28 ?_
    refine R_aldk_SD 3 dX8_moveTo_29 hm rfl (by decide) ?_
    refine V_aload_n dX8_moveTo_30 rfl ?_
    refine V_get dX8_moveTo_31 fX8_22 hm.1 rfl ?_
    refine J_iconst dX8_moveTo_34 ?_
    refine R_aldk_NW 3 dX8_moveTo_35 hm rfl (by decide) ?_
    refine J_isub dX8_moveTo_36 ?_
    refine V_istore_n dX8_moveTo_37 (Nat.le_of_ble_eq_true rfl) ?_
    refine V_aload_n dX8_moveTo_38 rfl ?_
    refine V_get dX8_moveTo_39 fX8_22 hm.1 rfl ?_
    refine V_astore dX8_moveTo_42 (Nat.le_of_ble_eq_true rfl) ?_
    refine V_aload_n dX8_moveTo_44 rfl ?_
    refine V_aload_n dX8_moveTo_45 rfl ?_
    refine V_get dX8_moveTo_46 fX8_25 hm.1 rfl ?_
    refine V_put dX8_moveTo_49 fX8_22 tX8_11 hm.1 (Nat.le_of_ble_eq_true rfl) rfl rfl ?_
    refine V_aload_n dX8_moveTo_52 rfl ?_
    refine V_aload dX8_moveTo_53 rfl ?_
    refine V_put dX8_moveTo_55 fX8_25 tX8_12 hset_s (Nat.le_of_ble_eq_true rfl) rfl rfl ?_
    refine V_iload_n dX8_moveTo_58 rfl ?_
    exact V_iret dX8_moveTo_59 rfl rfl ⟨Nat.zero_le _, Nat.zero_le _⟩ ⟨rfl, Or.inr ⟨by omega, rfl, _, _, hk2, hm.swap⟩⟩
  · refine J_iconst dX8_moveTo_8 ?_
    exact V_iret dX8_moveTo_9 rfl rfl ⟨Nat.zero_le _, Nat.zero_le _⟩ ⟨rfl, Or.inl ⟨by omega, rfl, hm⟩⟩
set_option maxHeartbeats 4000000 in
set_option maxRecDepth 100000 in
theorem m8_predictSlip {z : ZG} {d sz r n s : Nat} {g h : AH} {l sp nu rs rm sc km : Int} {T RA RD MA NW SD KP : Nat → Int} {m : Nat} {t v : Int} (ht : -2147483648 ≤ t ∧ t < 2147483648) (hv : -2147483648 ≤ v ∧ v < 2147483648) (hm : MS g r n s l sp nu rs rm sc m km T RA RD MA NW SD KP h) (hs : 8 ≤ sc ∧ sc ≤ 80) (hmk : m ≤ 6) (hma : ∀ j : Nat, j < 6 → 0 ≤ MA j ∧ MA j ≤ 9999) (hr : rok NW) : M z YX8_predictSlip (d + 4) 0 0 [.ref r, .int (I t), .int (I v)] h sz (fun w h' sz' => sz' = sz ∧ ((¬ ((0 ≤ t ∧ t ≤ 9999) ∧ 1 ≤ v ∧ v ≤ 99) ∧ w = some (.long (J (-9223372036854775808))) ∧ MS g r n s l sp nu rs rm sc m km T RA RD MA NW SD KP h') ∨ (((0 ≤ t ∧ t ≤ 9999) ∧ 1 ≤ v ∧ v ≤ 99) ∧ w = some (.long (I (mvF sc m MA t v 10000 NW 1 - mvF sc m MA t v 10000 NW 5 * mvF sc m MA t v 10000 NW 0 / sc)).toInt64) ∧ MS g r n s l sp nu rs rm sc m km T RA RD MA NW (mvF sc m MA t v 10000 NW) KP h'))) := by
  refine M.of (by decide +kernel) (Nat.le_of_ble_eq_true rfl) ?_
  refine V_iload_n dX8_predictSlip_0 rfl ?_
  refine V_iload_n dX8_predictSlip_1 rfl ?_
  refine V_callS (Y' := YX8_isMove) dX8_predictSlip_2 lX8_118 gX8_isMove (m8_isMove (by omega) (by omega)) rfl rfl (Nat.le_of_ble_eq_true rfl) ⟨Nat.zero_le _, Nat.zero_le _⟩ (fun v h1 sz1 hq => ?_)
  obtain ⟨q2, rfl, hq2, rfl, rfl⟩ := hq
  refine J_if_ne (tgt := 12) dX8_predictSlip_5 (by decide) (by omega) (fun c5 => ?_) (fun c5 => ?_)
  · refine V_aload_n dX8_predictSlip_12 rfl ?_
    refine V_callV (Y' := YX8_aside) dX8_predictSlip_13 lX8_125 gX8_aside (m8_aside hm) hm.1 rfl rfl rfl (Nat.le_of_ble_eq_true rfl) ⟨Nat.zero_le _, Nat.zero_le _⟩ (fun v h1 sz1 hq => ?_)
    obtain ⟨rfl, rfl, hm⟩ := hq
    refine V_aload_n dX8_predictSlip_16 rfl ?_
    refine V_iload_n dX8_predictSlip_17 rfl ?_
    refine V_iload_n dX8_predictSlip_18 rfl ?_
    refine V_callV (Y' := YX8_moves) dX8_predictSlip_19 lX8_128 gX8_moves (m8_moves (by omega) (by omega) hmk hma hs hm hr) hm.1 rfl rfl rfl (Nat.le_of_ble_eq_true rfl) ⟨Nat.zero_le _, Nat.zero_le _⟩ (fun v h1 sz1 hq => ?_)
    obtain ⟨rfl, rfl, hm⟩ := hq
    refine V_aload_n dX8_predictSlip_22 rfl ?_
    refine V_aload_n dX8_predictSlip_23 rfl ?_
    refine V_get dX8_predictSlip_24 fX8_25 hm.1 rfl ?_
    refine V_callV (Y' := YX8_slipOf) dX8_predictSlip_27 lX8_133 gX8_slipOf (m8_slipOf_S hm hs (rok_mvF (by omega) (by omega) (by omega) 10000 NW hr)) hm.1 rfl rfl rfl (Nat.le_of_ble_eq_true rfl) ⟨Nat.zero_le _, Nat.zero_le _⟩ (fun v h1 sz1 hq => ?_)
    obtain ⟨rfl, rfl, rfl⟩ := hq
    exact V_lret dX8_predictSlip_30 rfl ⟨Nat.zero_le _, Nat.zero_le _⟩ ⟨rfl, Or.inr ⟨by omega, rfl, hm⟩⟩
  · refine J_ldc2 (-9223372036854775808) dX8_predictSlip_8 cX8_131 rfl ?_
    exact V_lret dX8_predictSlip_11 rfl ⟨Nat.zero_le _, Nat.zero_le _⟩ ⟨rfl, Or.inl ⟨by omega, rfl, hm⟩⟩
