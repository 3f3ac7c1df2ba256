/-! THE REFERENCE: the fastest safe speed, changes of a row, the log read -/
/-- a move at speed v misses nothing more and leaves the slip, in the reference's own words -/
def sfR (sc : Int) (m : Nat) (MA NW : Nat → Int) (t v : Int) : Prop := I (mvF sc m MA t v 10000 NW 3) = I (NW 3) ∧ (I (mvF sc m MA t v 10000 NW 1 - mvF sc m MA t v 10000 NW 5 * mvF sc m MA t v 10000 NW 0 / sc)).toInt64 = (I (NW 1 - NW 5 * NW 0 / sc)).toInt64
def fsR (sc : Int) (m : Nat) (MA NW : Nat → Int) (t res : Int) : Prop := ((1 ≤ res ∧ res ≤ 99) ∧ sfR sc m MA NW t res ∧ ∀ v : Int, res < v → v ≤ 99 → ¬ sfR sc m MA NW t v) ∨ (res = -4 ∧ ∀ v : Int, 1 ≤ v → v ≤ 99 → ¬ sfR sc m MA NW t v)
set_option maxHeartbeats 4000000 in
set_option maxRecDepth 100000 in
theorem l8_fss_17 {z : ZG} {d sz r n s : Nat} {g : AH} {l sp nu rs rm sc km : Int} {T RA RD MA NW KP : Nat → Int} {m : Nat} {t : Int} (ht : 0 ≤ t ∧ t ≤ 9999) (hs : 8 ≤ sc ∧ sc ≤ 80) (hmk : m ≤ 6) (hma : ∀ j : Nat, j < 6 → 0 ≤ MA j ∧ MA j ≤ 9999) (hr : rok NW) : ∀ (f : Nat) (v : Int) (SD : Nat → Int) (h : AH), 0 ≤ v → v ≤ 99 → v < f → (∀ q : Int, v < q → q ≤ 99 → ¬ sfR sc m MA NW t q) → MS g r n s l sp nu rs rm sc m km T RA RD MA NW SD KP h → V z YX8_fastestSafeSpeed (zroom (d + 4) 0 0) (fun w h' sz' => sz' = sz ∧ ∃ (res : Int) (SD2 : Nat → Int), w = some (.int (I res)) ∧ fsR sc m MA NW t res ∧ MS g r n s l sp nu rs rm sc m km T RA RD MA NW SD2 KP h') 17 [some (.ref r), some (.int (I t)), some (.int (I v))] [] h sz 0 0 := by
  intro f
  induction f with
  | zero => intro v SD h h1 h2 h3; omega
  | succ f ih =>
    intro v SD h h1 h2 h3 hn hm
    refine V_iload_n dX8_fastestSafeSpeed_17 rfl ?_
    refine J_if_le (tgt := 74) dX8_fastestSafeSpeed_18 (by decide) (by omega) (fun c18 => ?_) (fun c18 => ?_)
    · refine J_bipush dX8_fastestSafeSpeed_74 (by decide) ?_
      exact V_iret dX8_fastestSafeSpeed_76 rfl rfl ⟨Nat.zero_le _, Nat.zero_le _⟩ ⟨rfl, -4, _, rfl, Or.inr ⟨rfl, fun q q1 q2 => hn q (by omega) q2⟩, hm⟩
    · refine V_aload_n dX8_fastestSafeSpeed_21 rfl ?_
      refine V_callV (Y' := YX8_aside) dX8_fastestSafeSpeed_22 lX8_125 gX8_aside (m8_aside hm) hm.1 rfl rfl rfl (Nat.le_of_ble_eq_true rfl) ⟨Nat.zero_le _, Nat.zero_le _⟩ (fun v h1 sz1 hq => ?_)
      obtain ⟨rfl, rfl, hm⟩ := hq
      refine V_aload_n dX8_fastestSafeSpeed_25 rfl ?_
      refine V_iload_n dX8_fastestSafeSpeed_26 rfl ?_
      refine V_iload_n dX8_fastestSafeSpeed_27 rfl ?_
      refine V_callV (Y' := YX8_moves) dX8_fastestSafeSpeed_28 lX8_128 gX8_moves (m8_moves (by omega) (by omega) hmk hma hs hm hr) hm.1 rfl rfl rfl (Nat.le_of_ble_eq_true rfl) ⟨Nat.zero_le _, Nat.zero_le _⟩ (fun v h1 sz1 hq => ?_)
      obtain ⟨rfl, rfl, hm⟩ := hq
      refine V_aload_n dX8_fastestSafeSpeed_31 rfl ?_
      refine V_get dX8_fastestSafeSpeed_32 fX8_25 hm.1 rfl ?_
      refine J_iconst dX8_fastestSafeSpeed_35 ?_
      refine R_aldk_SD 3 dX8_fastestSafeSpeed_36 hm rfl (by decide) ?_
      refine V_aload_n dX8_fastestSafeSpeed_37 rfl ?_
      refine V_get dX8_fastestSafeSpeed_38 fX8_22 hm.1 rfl ?_
      refine J_iconst dX8_fastestSafeSpeed_41 ?_
      refine R_aldk_NW 3 dX8_fastestSafeSpeed_42 hm rfl (by decide) ?_
      refine V_icmp_ne (tgt := 68) dX8_fastestSafeSpeed_43 (by decide) (fun c43 => ?_) (fun c43 => ?_)
      · refine J_iinc dX8_fastestSafeSpeed_68 rfl ?_
        refine V_goto (tgt := 17) dX8_fastestSafeSpeed_71 (by decide) ?_
        refine ih (v + -1) _ _ (by omega) (by omega) (by omega) (fun q q1 q2 => ?_) hm
        by_cases q3 : q = v
        · subst q3; first | exact fun w => c43 w.1 | exact fun w => c62 w.2
        · exact hn q (by omega) q2
      · refine V_aload_n dX8_fastestSafeSpeed_46 rfl ?_
        refine V_aload_n dX8_fastestSafeSpeed_47 rfl ?_
        refine V_get dX8_fastestSafeSpeed_48 fX8_25 hm.1 rfl ?_
        refine V_callV (Y' := YX8_slipOf) dX8_fastestSafeSpeed_51 lX8_133 gX8_slipOf (m8_slipOf_S hm hs (rok_mvF (by omega) (by omega) (by omega) 10000 NW hr)) hm.1 rfl rfl rfl (Nat.le_of_ble_eq_true rfl) ⟨Nat.zero_le _, Nat.zero_le _⟩ (fun v h1 sz1 hq => ?_)
        obtain ⟨rfl, rfl, rfl⟩ := hq
        refine V_aload_n dX8_fastestSafeSpeed_54 rfl ?_
        refine V_aload_n dX8_fastestSafeSpeed_55 rfl ?_
        refine V_get dX8_fastestSafeSpeed_56 fX8_22 hm.1 rfl ?_
        refine V_callV (Y' := YX8_slipOf) dX8_fastestSafeSpeed_59 lX8_133 gX8_slipOf (m8_slipOf_N hm hs hr) hm.1 rfl rfl rfl (Nat.le_of_ble_eq_true rfl) ⟨Nat.zero_le _, Nat.zero_le _⟩ (fun v h1 sz1 hq => ?_)
        obtain ⟨rfl, rfl, rfl⟩ := hq
        refine V_lcmp_ne (tgt := 68) dX8_fastestSafeSpeed_62 dX8_fastestSafeSpeed_63 (by decide) (fun c62 => ?_) (fun c62 => ?_)
        · refine J_iinc dX8_fastestSafeSpeed_68 rfl ?_
          refine V_goto (tgt := 17) dX8_fastestSafeSpeed_71 (by decide) ?_
          refine ih (v + -1) _ _ (by omega) (by omega) (by omega) (fun q q1 q2 => ?_) hm
          by_cases q3 : q = v
          · subst q3; first | exact fun w => c43 w.1 | exact fun w => c62 w.2
          · exact hn q (by omega) q2
        · refine V_iload_n dX8_fastestSafeSpeed_66 rfl ?_
          exact V_iret dX8_fastestSafeSpeed_67 rfl rfl ⟨Nat.zero_le _, Nat.zero_le _⟩ ⟨rfl, v, _, rfl, Or.inl ⟨by omega, ⟨c43, c62⟩, hn⟩, hm⟩
set_option maxHeartbeats 4000000 in
set_option maxRecDepth 100000 in
theorem m8_fastestSafeSpeed {z : ZG} {d sz r n s : Nat} {g h : AH} {l sp nu rs rm sc km : Int} {T RA RD MA NW SD KP : Nat → Int} {m : Nat} {t : Int} (ht : -2147483648 ≤ t ∧ t < 2147483648) (hm : MS g r n s l sp nu rs rm sc m km T RA RD MA NW SD KP h) (hs : 8 ≤ sc ∧ sc ≤ 80) (hmk : m ≤ 6) (hma : ∀ j : Nat, j < 6 → 0 ≤ MA j ∧ MA j ≤ 9999) (hr : rok NW) : M z YX8_fastestSafeSpeed (d + 4) 0 0 [.ref r, .int (I t)] h sz (fun w h' sz' => sz' = sz ∧ ((¬ (0 ≤ t ∧ t ≤ 9999) ∧ w = some (.int (I (-1))) ∧ MS g r n s l sp nu rs rm sc m km T RA RD MA NW SD KP h') ∨ ((0 ≤ t ∧ t ≤ 9999) ∧ ∃ (res : Int) (SD2 : Nat → Int), w = some (.int (I res)) ∧ fsR sc m MA NW t res ∧ MS g r n s l sp nu rs rm sc m km T RA RD MA NW SD2 KP h'))) := by
  refine M.of (by decide +kernel) (Nat.le_of_ble_eq_true rfl) ?_
  refine V_iload_n dX8_fastestSafeSpeed_0 rfl ?_
  refine J_i2l dX8_fastestSafeSpeed_1 (by omega) ?_
  refine J_lconst0 dX8_fastestSafeSpeed_2 ?_
  refine J_ldc2 9999 dX8_fastestSafeSpeed_3 cX8_110 rfl ?_
  refine V_callS (Y' := YX8_in) dX8_fastestSafeSpeed_6 lX8_57 gX8_in (m8_in (by omega) (by omega) (by omega)) rfl rfl (Nat.le_of_ble_eq_true rfl) ⟨Nat.zero_le _, Nat.zero_le _⟩ (fun v h1 sz1 hq => ?_)
  obtain ⟨t6, rfl, ht6, rfl, rfl⟩ := hq
  refine J_if_ne (tgt := 14) dX8_fastestSafeSpeed_9 (by decide) (by omega) (fun c9 => ?_) (fun c9 => ?_)
  · refine J_bipush dX8_fastestSafeSpeed_14 (by decide) ?_
    refine V_istore_n dX8_fastestSafeSpeed_16 (Nat.le_of_ble_eq_true rfl) ?_
    refine V_mono ?_ (l8_fss_17 (by omega) hs hmk hma hr 100 99 _ _ (by omega) (by omega) (by omega) (fun q q1 q2 => by omega) hm)
    rintro w h2 sz2 ⟨rfl, q⟩
    exact ⟨rfl, Or.inr ⟨by omega, q⟩⟩
  · refine J_iconst dX8_fastestSafeSpeed_12 ?_
    exact V_iret dX8_fastestSafeSpeed_13 rfl rfl ⟨Nat.zero_le _, Nat.zero_le _⟩ ⟨rfl, Or.inl ⟨by omega, rfl, hm⟩⟩
set_option maxHeartbeats 4000000 in
set_option maxRecDepth 100000 in
theorem m8_setMode {z : ZG} {d sz r n s : Nat} {g h : AH} {l sp nu rs rm sc mk km : Int} {T RA RD MA NW SD KP : Nat → Int} {md : Int} (hd0 : -2147483648 ≤ md ∧ md < 2147483648) (hm : MS g r n s l sp nu rs rm sc mk km T RA RD MA NW SD KP h) (hs : 8 ≤ sc ∧ sc ≤ 80) (hr : rok NW) (hk : 0 ≤ km ∧ km ≤ 6) : M z YX8_setMode (d + 1) 0 0 [.ref r, .int (I md)] h sz (fun w h' sz' => sz' = sz ∧ ((¬ (md = 1 ∨ md = 2 ∨ md = 4) ∧ w = some (.int (I (-1))) ∧ MS g r n s l sp nu rs rm sc mk km T RA RD MA NW SD KP h') ∨ ((md = 1 ∨ md = 2 ∨ md = 4) ∧ w = some (.int (I (NW 5))) ∧ ∃ (km2 : Int) (KP2 : Nat → Int), kq km KP NW km2 KP2 ∧ MS g r n s l sp nu rs rm sc mk km2 T RA RD MA (va_up (va_up (va_up NW 5 md) 1 (md * NW 0 / sc)) 17 0) SD KP2 h'))) := by
  refine M.of (by decide +kernel) (Nat.le_of_ble_eq_true rfl) ?_
  have hr0 := hr.1
  refine V_iload_n dX8_setMode_0 rfl ?_
  refine J_iconst dX8_setMode_1 ?_
  refine J_icmp_eq (tgt := 17) dX8_setMode_2 (by decide) (by omega) (by omega) (fun c2 => ?_) (fun c2 => ?_)
  · have hmd : md = 1 ∨ md = 2 ∨ md = 4 := by omega
    have hx0 : 0 ≤ md * NW 0 ∧ md * NW 0 < 2147483648 := by rcases hmd with q | q | q <;> rw [q] <;> omega
    refine V_aload_n dX8_setMode_17 rfl ?_
    refine V_callV (Y' := YX8_keeps) dX8_setMode_18 lX8_122 gX8_keeps (m8_keeps hm (by omega)) hm.1 rfl rfl rfl (Nat.le_of_ble_eq_true rfl) ⟨Nat.zero_le _, Nat.zero_le _⟩ (fun v h1 sz1 hq => ?_)
    obtain ⟨rfl, rfl, km2, KP2, hk2, hm⟩ := hq
    refine V_aload_n dX8_setMode_21 rfl ?_
    refine V_get dX8_setMode_22 fX8_22 hm.1 rfl ?_
    refine J_iconst dX8_setMode_25 ?_
    refine R_aldk_NW 5 dX8_setMode_26 hm rfl (by decide) ?_
    refine V_istore_n dX8_setMode_27 (Nat.le_of_ble_eq_true rfl) ?_
    refine V_aload_n dX8_setMode_28 rfl ?_
    refine V_get dX8_setMode_29 fX8_22 hm.1 rfl ?_
    refine J_iconst dX8_setMode_32 ?_
    refine V_iload_n dX8_setMode_33 rfl ?_
    refine R_astk_NW 5 dX8_setMode_34 hm rfl (by decide) (fun h hm => ?_)
    refine V_aload_n dX8_setMode_35 rfl ?_
    refine V_get dX8_setMode_36 fX8_22 hm.1 rfl ?_
    refine J_iconst dX8_setMode_39 ?_
    refine V_aload_n dX8_setMode_40 rfl ?_
    refine V_aload_n dX8_setMode_41 rfl ?_
    refine V_get dX8_setMode_42 fX8_22 hm.1 rfl ?_
    refine J_iconst dX8_setMode_45 ?_
    refine R_aldk_NW 0 dX8_setMode_46 hm rfl (by decide) ?_
    refine V_iload_n dX8_setMode_47 rfl ?_
    change V z YX8_setMode _ _ _ _ (_ :: .int (I (NW 0)) :: _) _ _ _ _
    refine V_callV (Y' := YX8_expects) dX8_setMode_48 lX8_114 gX8_expects (m8_expects hm hs (by first | omega | exact hx0)) hm.1 rfl rfl rfl (Nat.le_of_ble_eq_true rfl) ⟨Nat.zero_le _, Nat.zero_le _⟩ (fun v h1 sz1 hq => ?_)
    obtain ⟨rfl, rfl, rfl⟩ := hq
    refine R_astk_NW 1 dX8_setMode_51 hm rfl (by decide) (fun h hm => ?_)
    refine V_aload_n dX8_setMode_52 rfl ?_
    refine V_get dX8_setMode_53 fX8_22 hm.1 rfl ?_
    refine J_bipush dX8_setMode_56 (by decide) ?_
    refine J_iconst dX8_setMode_58 ?_
    refine R_astk_NW 17 dX8_setMode_59 hm rfl (by decide) (fun h hm => ?_)
    refine V_iload_n dX8_setMode_60 rfl ?_
    exact V_iret dX8_setMode_61 rfl rfl ⟨Nat.zero_le _, Nat.zero_le _⟩ ⟨rfl, Or.inr ⟨by omega, rfl, _, _, hk2, hm⟩⟩
  · refine V_iload_n dX8_setMode_5 rfl ?_
    refine J_iconst dX8_setMode_6 ?_
    refine J_icmp_eq (tgt := 17) dX8_setMode_7 (by decide) (by omega) (by omega) (fun c7 => ?_) (fun c7 => ?_)
    · have hmd : md = 1 ∨ md = 2 ∨ md = 4 := by omega
      have hx0 : 0 ≤ md * NW 0 ∧ md * NW 0 < 2147483648 := by rcases hmd with q | q | q <;> rw [q] <;> omega
      refine V_aload_n dX8_setMode_17 rfl ?_
      refine V_callV (Y' := YX8_keeps) dX8_setMode_18 lX8_122 gX8_keeps (m8_keeps hm (by omega)) hm.1 rfl rfl rfl (Nat.le_of_ble_eq_true rfl) ⟨Nat.zero_le _, Nat.zero_le _⟩ (fun v h1 sz1 hq => ?_)
      obtain ⟨rfl, rfl, km2, KP2, hk2, hm⟩ := hq
      refine V_aload_n dX8_setMode_21 rfl ?_
      refine V_get dX8_setMode_22 fX8_22 hm.1 rfl ?_
      refine J_iconst dX8_setMode_25 ?_
      refine R_aldk_NW 5 dX8_setMode_26 hm rfl (by decide) ?_
      refine V_istore_n dX8_setMode_27 (Nat.le_of_ble_eq_true rfl) ?_
      refine V_aload_n dX8_setMode_28 rfl ?_
      refine V_get dX8_setMode_29 fX8_22 hm.1 rfl ?_
      refine J_iconst dX8_setMode_32 ?_
      refine V_iload_n dX8_setMode_33 rfl ?_
      refine R_astk_NW 5 dX8_setMode_34 hm rfl (by decide) (fun h hm => ?_)
      refine V_aload_n dX8_setMode_35 rfl ?_
      refine V_get dX8_setMode_36 fX8_22 hm.1 rfl ?_
      refine J_iconst dX8_setMode_39 ?_
      refine V_aload_n dX8_setMode_40 rfl ?_
      refine V_aload_n dX8_setMode_41 rfl ?_
      refine V_get dX8_setMode_42 fX8_22 hm.1 rfl ?_
      refine J_iconst dX8_setMode_45 ?_
      refine R_aldk_NW 0 dX8_setMode_46 hm rfl (by decide) ?_
      refine V_iload_n dX8_setMode_47 rfl ?_
      change V z YX8_setMode _ _ _ _ (_ :: .int (I (NW 0)) :: _) _ _ _ _
      refine V_callV (Y' := YX8_expects) dX8_setMode_48 lX8_114 gX8_expects (m8_expects hm hs (by first | omega | exact hx0)) hm.1 rfl rfl rfl (Nat.le_of_ble_eq_true rfl) ⟨Nat.zero_le _, Nat.zero_le _⟩ (fun v h1 sz1 hq => ?_)
      obtain ⟨rfl, rfl, rfl⟩ := hq
      refine R_astk_NW 1 dX8_setMode_51 hm rfl (by decide) (fun h hm => ?_)
      refine V_aload_n dX8_setMode_52 rfl ?_
      refine V_get dX8_setMode_53 fX8_22 hm.1 rfl ?_
      refine J_bipush dX8_setMode_56 (by decide) ?_
      refine J_iconst dX8_setMode_58 ?_
      refine R_astk_NW 17 dX8_setMode_59 hm rfl (by decide) (fun h hm => ?_)
      refine V_iload_n dX8_setMode_60 rfl ?_
      exact V_iret dX8_setMode_61 rfl rfl ⟨Nat.zero_le _, Nat.zero_le _⟩ ⟨rfl, Or.inr ⟨by omega, rfl, _, _, hk2, hm⟩⟩
    · refine V_iload_n dX8_setMode_10 rfl ?_
      refine J_iconst dX8_setMode_11 ?_
      refine J_icmp_eq (tgt := 17) dX8_setMode_12 (by decide) (by omega) (by omega) (fun c12 => ?_) (fun c12 => ?_)
      · have hmd : md = 1 ∨ md = 2 ∨ md = 4 := by omega
        have hx0 : 0 ≤ md * NW 0 ∧ md * NW 0 < 2147483648 := by rcases hmd with q | q | q <;> rw [q] <;> omega
        refine V_aload_n dX8_setMode_17 rfl ?_
        refine V_callV (Y' := YX8_keeps) dX8_setMode_18 lX8_122 gX8_keeps (m8_keeps hm (by omega)) hm.1 rfl rfl rfl (Nat.le_of_ble_eq_true rfl) ⟨Nat.zero_le _, Nat.zero_le _⟩ (fun v h1 sz1 hq => ?_)
        obtain ⟨rfl, rfl, km2, KP2, hk2, hm⟩ := hq
        refine V_aload_n dX8_setMode_21 rfl ?_
        refine V_get dX8_setMode_22 fX8_22 hm.1 rfl ?_
        refine J_iconst dX8_setMode_25 ?_
        refine R_aldk_NW 5 dX8_setMode_26 hm rfl (by decide) ?_
        refine V_istore_n dX8_setMode_27 (Nat.le_of_ble_eq_true rfl) ?_
        refine V_aload_n dX8_setMode_28 rfl ?_
        refine V_get dX8_setMode_29 fX8_22 hm.1 rfl ?_
        refine J_iconst dX8_setMode_32 ?_
        refine V_iload_n dX8_setMode_33 rfl ?_
        refine R_astk_NW 5 dX8_setMode_34 hm rfl (by decide) (fun h hm => ?_)
        refine V_aload_n dX8_setMode_35 rfl ?_
        refine V_get dX8_setMode_36 fX8_22 hm.1 rfl ?_
        refine J_iconst dX8_setMode_39 ?_
        refine V_aload_n dX8_setMode_40 rfl ?_
        refine V_aload_n dX8_setMode_41 rfl ?_
        refine V_get dX8_setMode_42 fX8_22 hm.1 rfl ?_
        refine J_iconst dX8_setMode_45 ?_
        refine R_aldk_NW 0 dX8_setMode_46 hm rfl (by decide) ?_
        refine V_iload_n dX8_setMode_47 rfl ?_
        change V z YX8_setMode _ _ _ _ (_ :: .int (I (NW 0)) :: _) _ _ _ _
        refine V_callV (Y' := YX8_expects) dX8_setMode_48 lX8_114 gX8_expects (m8_expects hm hs (by first | omega | exact hx0)) hm.1 rfl rfl rfl (Nat.le_of_ble_eq_true rfl) ⟨Nat.zero_le _, Nat.zero_le _⟩ (fun v h1 sz1 hq => ?_)
        obtain ⟨rfl, rfl, rfl⟩ := hq
        refine R_astk_NW 1 dX8_setMode_51 hm rfl (by decide) (fun h hm => ?_)
        refine V_aload_n dX8_setMode_52 rfl ?_
        refine V_get dX8_setMode_53 fX8_22 hm.1 rfl ?_
        refine J_bipush dX8_setMode_56 (by decide) ?_
        refine J_iconst dX8_setMode_58 ?_
        refine R_astk_NW 17 dX8_setMode_59 hm rfl (by decide) (fun h hm => ?_)
        refine V_iload_n dX8_setMode_60 rfl ?_
        exact V_iret dX8_setMode_61 rfl rfl ⟨Nat.zero_le _, Nat.zero_le _⟩ ⟨rfl, Or.inr ⟨by omega, rfl, _, _, hk2, hm⟩⟩
      · refine J_iconst dX8_setMode_15 ?_
        exact V_iret dX8_setMode_16 rfl rfl ⟨Nat.zero_le _, Nat.zero_le _⟩ ⟨rfl, Or.inl ⟨by omega, rfl, hm⟩⟩
set_option maxHeartbeats 4000000 in
set_option maxRecDepth 100000 in
theorem m8_setIndexGrating {z : ZG} {d sz r n s : Nat} {g h : AH} {l sp nu rs rm sc mk km : Int} {T RA RD MA NW SD KP : Nat → Int} {p q : Int} (hp : -2147483648 ≤ p ∧ p < 2147483648) (hq0 : -2147483648 ≤ q ∧ q < 2147483648) (hm : MS g r n s l sp nu rs rm sc mk km T RA RD MA NW SD KP h) (hk : 0 ≤ km ∧ km ≤ 6) : M z YX8_setIndexGrating (d + 1) 0 0 [.ref r, .int (I p), .int (I q)] h sz (fun w h' sz' => sz' = sz ∧ ((¬ ((8 ≤ p ∧ p ≤ 80) ∧ 0 ≤ q ∧ q ≤ 79) ∧ w = some (.int (I (-1))) ∧ MS g r n s l sp nu rs rm sc mk km T RA RD MA NW SD KP h') ∨ (((8 ≤ p ∧ p ≤ 80) ∧ 0 ≤ q ∧ q ≤ 79) ∧ w = some (.int (I (NW 6))) ∧ ∃ (km2 : Int) (KP2 : Nat → Int), kq km KP NW km2 KP2 ∧ MS g r n s l sp nu rs rm sc mk km2 T RA RD MA (va_up (va_up NW 6 p) 7 q) SD KP2 h'))) := by
  refine M.of (by decide +kernel) (Nat.le_of_ble_eq_true rfl) ?_
  refine V_iload_n dX8_setIndexGrating_0 rfl ?_
  refine J_i2l dX8_setIndexGrating_1 (by omega) ?_
  refine J_ldc2 8 dX8_setIndexGrating_2 cX8_137 rfl ?_
  refine J_ldc2 80 dX8_setIndexGrating_5 cX8_139 rfl ?_
  refine V_callS (Y' := YX8_in) dX8_setIndexGrating_8 lX8_57 gX8_in (m8_in (by omega) (by omega) (by omega)) rfl rfl (Nat.le_of_ble_eq_true rfl) ⟨Nat.zero_le _, Nat.zero_le _⟩ (fun v h1 sz1 hq => ?_)
  obtain ⟨t8, rfl, ht8, rfl, rfl⟩ := hq
  refine J_if_eq (tgt := 26) dX8_setIndexGrating_11 (by decide) (by omega) (fun c11 => ?_) (fun c11 => ?_)
  · refine J_iconst dX8_setIndexGrating_26 ?_
    exact V_iret dX8_setIndexGrating_27 rfl rfl ⟨Nat.zero_le _, Nat.zero_le _⟩ ⟨rfl, Or.inl ⟨by omega, rfl, hm⟩⟩
  · refine V_iload_n dX8_setIndexGrating_14 rfl ?_
    refine J_i2l dX8_setIndexGrating_15 (by omega) ?_
    refine J_lconst0 dX8_setIndexGrating_16 ?_
    refine J_ldc2 79 dX8_setIndexGrating_17 cX8_141 rfl ?_
    refine V_callS (Y' := YX8_in) dX8_setIndexGrating_20 lX8_57 gX8_in (m8_in (by omega) (by omega) (by omega)) rfl rfl (Nat.le_of_ble_eq_true rfl) ⟨Nat.zero_le _, Nat.zero_le _⟩ (fun v h1 sz1 hq => ?_)
    obtain ⟨t20, rfl, ht20, rfl, rfl⟩ := hq
    refine J_if_ne (tgt := 28) dX8_setIndexGrating_23 (by decide) (by omega) (fun c23 => ?_) (fun c23 => ?_)
    · refine V_aload_n dX8_setIndexGrating_28 rfl ?_
      refine V_callV (Y' := YX8_keeps) dX8_setIndexGrating_29 lX8_122 gX8_keeps (m8_keeps hm (by omega)) hm.1 rfl rfl rfl (Nat.le_of_ble_eq_true rfl) ⟨Nat.zero_le _, Nat.zero_le _⟩ (fun v h1 sz1 hq => ?_)
      obtain ⟨rfl, rfl, km2, KP2, hk2, hm⟩ := hq
      refine V_aload_n dX8_setIndexGrating_32 rfl ?_
      refine V_get dX8_setIndexGrating_33 fX8_22 hm.1 rfl ?_
      refine J_bipush dX8_setIndexGrating_36 (by decide) ?_
      refine R_aldk_NW 6 dX8_setIndexGrating_38 hm rfl (by decide) ?_
      refine V_istore_n dX8_setIndexGrating_39 (Nat.le_of_ble_eq_true rfl) ?_
      refine V_aload_n dX8_setIndexGrating_40 rfl ?_
      refine V_get dX8_setIndexGrating_41 fX8_22 hm.1 rfl ?_
      refine J_bipush dX8_setIndexGrating_44 (by decide) ?_
      refine V_iload_n dX8_setIndexGrating_46 rfl ?_
      refine R_astk_NW 6 dX8_setIndexGrating_47 hm rfl (by decide) (fun h hm => ?_)
      refine V_aload_n dX8_setIndexGrating_48 rfl ?_
      refine V_get dX8_setIndexGrating_49 fX8_22 hm.1 rfl ?_
      refine J_bipush dX8_setIndexGrating_52 (by decide) ?_
      refine V_iload_n dX8_setIndexGrating_54 rfl ?_
      refine R_astk_NW 7 dX8_setIndexGrating_55 hm rfl (by decide) (fun h hm => ?_)
      refine V_iload_n dX8_setIndexGrating_56 rfl ?_
      exact V_iret dX8_setIndexGrating_57 rfl rfl ⟨Nat.zero_le _, Nat.zero_le _⟩ ⟨rfl, Or.inr ⟨by omega, rfl, _, _, hk2, hm⟩⟩
    · refine J_iconst dX8_setIndexGrating_26 ?_
      exact V_iret dX8_setIndexGrating_27 rfl rfl ⟨Nat.zero_le _, Nat.zero_le _⟩ ⟨rfl, Or.inl ⟨by omega, rfl, hm⟩⟩
def adR (NW : Nat → Int) (e : Nat) (x y : Int) : Nat → Int := va_up (va_up (va_up NW (9 + 2 * e) x) (10 + 2 * e) y) 8 (e + 1)
set_option maxHeartbeats 4000000 in
set_option maxRecDepth 100000 in
theorem m8_addDirt {z : ZG} {d sz r n s : Nat} {g h : AH} {l sp nu rs rm sc mk km : Int} {T RA RD MA NW SD KP : Nat → Int} {x y : Int} (hx : -2147483648 ≤ x ∧ x < 2147483648) (hy : -2147483648 ≤ y ∧ y < 2147483648) (hm : MS g r n s l sp nu rs rm sc mk km T RA RD MA NW SD KP h) (hk : 0 ≤ km ∧ km ≤ 6) (h8 : 0 ≤ NW 8 ∧ NW 8 ≤ 4) : M z YX8_addDirt (d + 1) 0 0 [.ref r, .int (I x), .int (I y)] h sz (fun w h' sz' => sz' = sz ∧ ((¬ ((0 ≤ x ∧ x ≤ 9999) ∧ 1 ≤ y ∧ y ≤ 99) ∧ w = some (.int (I (-1))) ∧ MS g r n s l sp nu rs rm sc mk km T RA RD MA NW SD KP h') ∨ (((0 ≤ x ∧ x ≤ 9999) ∧ 1 ≤ y ∧ y ≤ 99) ∧ NW 8 = 4 ∧ w = some (.int (I (-3))) ∧ MS g r n s l sp nu rs rm sc mk km T RA RD MA NW SD KP h') ∨ (((0 ≤ x ∧ x ≤ 9999) ∧ 1 ≤ y ∧ y ≤ 99) ∧ ∃ e : Nat, NW 8 = e ∧ e ≤ 3 ∧ w = some (.int (I (e + 1))) ∧ ∃ (km2 : Int) (KP2 : Nat → Int), kq km KP NW km2 KP2 ∧ MS g r n s l sp nu rs rm sc mk km2 T RA RD MA (adR NW e x y) SD KP2 h'))) := by
  refine M.of (by decide +kernel) (Nat.le_of_ble_eq_true rfl) ?_
  refine V_iload_n dX8_addDirt_0 rfl ?_
  refine J_i2l dX8_addDirt_1 (by omega) ?_
  refine J_lconst0 dX8_addDirt_2 ?_
  refine J_ldc2 9999 dX8_addDirt_3 cX8_110 rfl ?_
  refine V_callS (Y' := YX8_in) dX8_addDirt_6 lX8_57 gX8_in (m8_in (by omega) (by omega) (by omega)) rfl rfl (Nat.le_of_ble_eq_true rfl) ⟨Nat.zero_le _, Nat.zero_le _⟩ (fun v h1 sz1 hq => ?_)
  obtain ⟨t6, rfl, ht6, rfl, rfl⟩ := hq
  refine J_if_eq (tgt := 24) dX8_addDirt_9 (by decide) (by omega) (fun c9 => ?_) (fun c9 => ?_)
  · refine J_iconst dX8_addDirt_24 ?_
    exact V_iret dX8_addDirt_25 rfl rfl ⟨Nat.zero_le _, Nat.zero_le _⟩ ⟨rfl, Or.inl ⟨by omega, rfl, hm⟩⟩
  · refine V_iload_n dX8_addDirt_12 rfl ?_
    refine J_i2l dX8_addDirt_13 (by omega) ?_
    refine J_lconst1 dX8_addDirt_14 ?_
    refine J_ldc2 99 dX8_addDirt_15 cX8_112 rfl ?_
    refine V_callS (Y' := YX8_in) dX8_addDirt_18 lX8_57 gX8_in (m8_in (by omega) (by omega) (by omega)) rfl rfl (Nat.le_of_ble_eq_true rfl) ⟨Nat.zero_le _, Nat.zero_le _⟩ (fun v h1 sz1 hq => ?_)
    obtain ⟨t18, rfl, ht18, rfl, rfl⟩ := hq
    refine J_if_ne (tgt := 26) dX8_addDirt_21 (by decide) (by omega) (fun c21 => ?_) (fun c21 => ?_)
    · refine V_aload_n dX8_addDirt_26 rfl ?_
      refine V_get dX8_addDirt_27 fX8_22 hm.1 rfl ?_
      refine J_bipush dX8_addDirt_30 (by decide) ?_
      refine R_aldk_NW 8 dX8_addDirt_32 hm rfl (by decide) ?_
      refine J_iconst dX8_addDirt_33 ?_
      refine J_icmp_ne (tgt := 40) dX8_addDirt_34 (by decide) (by omega) (by omega) (fun c34 => ?_) (fun c34 => ?_)
      · refine V_aload_n dX8_addDirt_40 rfl ?_
        refine V_callV (Y' := YX8_keeps) dX8_addDirt_41 lX8_122 gX8_keeps (m8_keeps hm (by omega)) hm.1 rfl rfl rfl (Nat.le_of_ble_eq_true rfl) ⟨Nat.zero_le _, Nat.zero_le _⟩ (fun v h1 sz1 hq => ?_)
        obtain ⟨rfl, rfl, km2, KP2, hk2, hm⟩ := hq
        obtain ⟨e, he⟩ : ∃ e : Nat, NW 8 = e := ⟨(NW 8).toNat, by omega⟩
        refine V_aload_n dX8_addDirt_44 rfl ?_
        refine V_get dX8_addDirt_45 fX8_22 hm.1 rfl ?_
        refine J_bipush dX8_addDirt_48 (by decide) ?_
        refine J_iconst dX8_addDirt_50 ?_
        refine V_aload_n dX8_addDirt_51 rfl ?_
        refine V_get dX8_addDirt_52 fX8_22 hm.1 rfl ?_
        refine J_bipush dX8_addDirt_55 (by decide) ?_
        refine R_aldk_NW 8 dX8_addDirt_57 hm rfl (by decide) ?_
        refine J_imul dX8_addDirt_58 ?_
        refine J_iadd dX8_addDirt_59 ?_
        refine V_iload_n dX8_addDirt_60 rfl ?_
        refine R_astk_NW (9 + 2 * e) dX8_addDirt_61 hm (by omega) (by omega) (fun h hm => ?_)
        refine V_aload_n dX8_addDirt_62 rfl ?_
        refine V_get dX8_addDirt_63 fX8_22 hm.1 rfl ?_
        refine J_bipush dX8_addDirt_66 (by decide) ?_
        refine J_iconst dX8_addDirt_68 ?_
        refine V_aload_n dX8_addDirt_69 rfl ?_
        refine V_get dX8_addDirt_70 fX8_22 hm.1 rfl ?_
        refine J_bipush dX8_addDirt_73 (by decide) ?_
        refine R_aldk_NW 8 dX8_addDirt_75 hm rfl (by decide) ?_
        have e1 : va_up NW (9 + 2 * e) x 8 = NW 8 := if_neg (by omega)
        rw [e1]
        refine J_imul dX8_addDirt_76 ?_
        refine J_iadd dX8_addDirt_77 ?_
        refine J_iconst dX8_addDirt_78 ?_
        refine J_iadd dX8_addDirt_79 ?_
        refine V_iload_n dX8_addDirt_80 rfl ?_
        refine R_astk_NW (10 + 2 * e) dX8_addDirt_81 hm (by omega) (by omega) (fun h hm => ?_)
        refine V_aload_n dX8_addDirt_82 rfl ?_
        refine V_get dX8_addDirt_83 fX8_22 hm.1 rfl ?_
        refine J_bipush dX8_addDirt_86 (by decide) ?_
        refine V_dup2 dX8_addDirt_88 rfl rfl ?_
        refine R_aldk_NW 8 dX8_addDirt_89 hm rfl (by decide) ?_
        have e2 : va_up (va_up NW (9 + 2 * e) x) (10 + 2 * e) y 8 = NW 8 := (if_neg (by omega)).trans (if_neg (by omega))
        rw [e2]
        refine J_iconst dX8_addDirt_90 ?_
        refine J_iadd dX8_addDirt_91 ?_
        refine R_astk_NW 8 dX8_addDirt_92 hm rfl (by decide) (fun h hm => ?_)
        refine V_aload_n dX8_addDirt_93 rfl ?_
        refine V_get dX8_addDirt_94 fX8_22 hm.1 rfl ?_
        refine J_bipush dX8_addDirt_97 (by decide) ?_
        refine R_aldk_NW 8 dX8_addDirt_99 hm rfl (by decide) ?_
        change V z YX8_addDirt _ _ _ _ (.int (I (NW 8 + 1)) :: _) _ _ _ _
        exact V_iret dX8_addDirt_100 rfl rfl ⟨Nat.zero_le _, Nat.zero_le _⟩ ⟨rfl, Or.inr (Or.inr ⟨by omega, e, he, by omega, by rw [he], _, _, hk2, hm.eNW (fun j hj => by unfold adR; rw [he])⟩)⟩
      · refine J_bipush dX8_addDirt_37 (by decide) ?_
        exact V_iret dX8_addDirt_39 rfl rfl ⟨Nat.zero_le _, Nat.zero_le _⟩ ⟨rfl, Or.inr (Or.inl ⟨by omega, by omega, rfl, hm⟩)⟩
    · refine J_iconst dX8_addDirt_24 ?_
      exact V_iret dX8_addDirt_25 rfl rfl ⟨Nat.zero_le _, Nat.zero_le _⟩ ⟨rfl, Or.inl ⟨by omega, rfl, hm⟩⟩
def rmS (NW : Nat → Int) (e j : Nat) : Int := if 9 + 2 * e ≤ j ∧ j < 15 then NW (j + 2) else NW j
def rmR (NW : Nat → Int) (e : Nat) : Nat → Int := va_up (rmS NW e) 8 (NW 8 - 1)
set_option maxHeartbeats 4000000 in
set_option maxRecDepth 100000 in
theorem l8_removeDirt_43 {z : ZG} {d sz r n s : Nat} {g : AH} {l sp nu rs rm sc mk km : Int} {T RA RD MA SD KP : Nat → Int} {N0 : Nat → Int} {e : Nat} {ix : Int} (he : e ≤ 3) : ∀ (f i : Nat) (NW : Nat → Int) (h : AH), 2 * e ≤ i → i ≤ 6 → 6 - i < f → (∀ j : Nat, j < 42 → NW j = if 9 + 2 * e ≤ j ∧ j < 9 + i then N0 (j + 2) else N0 j) → MS g r n s l sp nu rs rm sc mk km T RA RD MA NW SD KP h → V z YX8_removeDirt (zroom (d + 1) 0 0) (fun w h' sz' => w = some (.int (I (N0 (10 + 2 * e)))) ∧ sz' = sz ∧ MS g r n s l sp nu rs rm sc mk km T RA RD MA (rmR N0 e) SD KP h') 43 [some (.ref r), some (.int (I ix)), some (.int (I (N0 (10 + 2 * e)))), some (.int (I (i : Int)))] [] h sz 0 0 := by
  intro f
  induction f with
  | zero => intro i NW h h0 h1 h2; omega
  | succ f ih =>
    intro i NW h h0 h1 h2 hz hm
    refine V_iload_n dX8_removeDirt_43 rfl ?_
    refine J_bipush dX8_removeDirt_44 (by decide) ?_
    refine J_icmp_ge (tgt := 75) dX8_removeDirt_46 (by decide) (by omega) (by omega) (fun c46 => ?_) (fun c46 => ?_)
    · refine V_aload_n dX8_removeDirt_75 rfl ?_
      refine V_get dX8_removeDirt_76 fX8_22 hm.1 rfl ?_
      refine J_bipush dX8_removeDirt_79 (by decide) ?_
      refine V_dup2 dX8_removeDirt_81 rfl rfl ?_
      refine R_aldk_NW 8 dX8_removeDirt_82 hm rfl (by decide) ?_
      refine J_iconst dX8_removeDirt_83 ?_
      refine J_isub dX8_removeDirt_84 ?_
      refine R_astk_NW 8 dX8_removeDirt_85 hm rfl (by decide) (fun h hm => ?_)
      refine V_iload_n dX8_removeDirt_86 rfl ?_
      exact V_iret dX8_removeDirt_87 rfl rfl ⟨Nat.zero_le _, Nat.zero_le _⟩ ⟨rfl, rfl, hm.eNW (fun j hj => by unfold rmR rmS va_up; rw [hz j hj, hz 8 (by omega), if_neg (show ¬ (9 + 2 * e ≤ 8 ∧ 8 < 9 + i) by omega)]; congr 1; congr 1; apply propext; omega)⟩
    · refine V_aload_n dX8_removeDirt_49 rfl ?_
      refine V_get dX8_removeDirt_50 fX8_22 hm.1 rfl ?_
      refine J_bipush dX8_removeDirt_53 (by decide) ?_
      refine V_iload_n dX8_removeDirt_55 rfl ?_
      refine J_iadd dX8_removeDirt_56 ?_
      refine V_aload_n dX8_removeDirt_57 rfl ?_
      refine V_get dX8_removeDirt_58 fX8_22 hm.1 rfl ?_
      refine J_bipush dX8_removeDirt_61 (by decide) ?_
      refine V_iload_n dX8_removeDirt_63 rfl ?_
      refine J_iadd dX8_removeDirt_64 ?_
      refine J_iconst dX8_removeDirt_65 ?_
      refine J_iadd dX8_removeDirt_66 ?_
      refine R_aldk_NW (11 + i) dX8_removeDirt_67 hm (by omega) (by omega) ?_
      refine R_astk_NW (9 + i) dX8_removeDirt_68 hm (by omega) (by omega) (fun h hm => ?_)
      refine J_iinc dX8_removeDirt_69 rfl ?_
      refine V_goto (tgt := 43) dX8_removeDirt_72 (by decide) ?_
      refine ih (i + 1) _ h (by omega) (by omega) (by omega) ?_ hm
      intro j hj
      have e0 := hz j hj
      simp only [va_up]
      by_cases q1 : j = 9 + i
      · subst q1; rw [if_pos rfl, if_pos (by omega), hz (11 + i) (by omega), if_neg (by omega)]; congr 1; omega
      · rw [if_neg q1, e0]; split <;> split <;> first | rfl | omega
set_option maxHeartbeats 4000000 in
set_option maxRecDepth 100000 in
theorem m8_removeDirt {z : ZG} {d sz r n s : Nat} {g h : AH} {l sp nu rs rm sc mk km : Int} {T RA RD MA NW SD KP : Nat → Int} {x : Int} (hx : -2147483648 ≤ x ∧ x < 2147483648) (hm : MS g r n s l sp nu rs rm sc mk km T RA RD MA NW SD KP h) (hk : 0 ≤ km ∧ km ≤ 6) (h8 : 0 ≤ NW 8 ∧ NW 8 ≤ 4) : M z YX8_removeDirt (d + 1) 0 0 [.ref r, .int (I x)] h sz (fun w h' sz' => sz' = sz ∧ ((¬ (0 ≤ x ∧ x ≤ NW 8 - 1) ∧ w = some (.int (I (-1))) ∧ MS g r n s l sp nu rs rm sc mk km T RA RD MA NW SD KP h') ∨ (∃ e : Nat, x = e ∧ (0 ≤ x ∧ x ≤ NW 8 - 1) ∧ w = some (.int (I (NW (10 + 2 * e)))) ∧ ∃ (km2 : Int) (KP2 : Nat → Int), kq km KP NW km2 KP2 ∧ MS g r n s l sp nu rs rm sc mk km2 T RA RD MA (rmR NW e) SD KP2 h'))) := by
  refine M.of (by decide +kernel) (Nat.le_of_ble_eq_true rfl) ?_
  refine V_iload_n dX8_removeDirt_0 rfl ?_
  refine J_i2l dX8_removeDirt_1 (by omega) ?_
  refine J_lconst0 dX8_removeDirt_2 ?_
  refine V_aload_n dX8_removeDirt_3 rfl ?_
  refine V_get dX8_removeDirt_4 fX8_22 hm.1 rfl ?_
  refine J_bipush dX8_removeDirt_7 (by decide) ?_
  refine R_aldk_NW 8 dX8_removeDirt_9 hm rfl (by decide) ?_
  refine J_iconst dX8_removeDirt_10 ?_
  refine J_isub dX8_removeDirt_11 ?_
  refine J_i2l dX8_removeDirt_12 (by omega) ?_
  refine V_callS (Y' := YX8_in) dX8_removeDirt_13 lX8_57 gX8_in (m8_in (by omega) (by omega) (by omega)) rfl rfl (Nat.le_of_ble_eq_true rfl) ⟨Nat.zero_le _, Nat.zero_le _⟩ (fun v h1 sz1 hq => ?_)
  obtain ⟨t13, rfl, ht13, rfl, rfl⟩ := hq
  refine J_if_ne (tgt := 21) dX8_removeDirt_16 (by decide) (by omega) (fun c16 => ?_) (fun c16 => ?_)
  · refine V_aload_n dX8_removeDirt_21 rfl ?_
    refine V_callV (Y' := YX8_keeps) dX8_removeDirt_22 lX8_122 gX8_keeps (m8_keeps hm (by omega)) hm.1 rfl rfl rfl (Nat.le_of_ble_eq_true rfl) ⟨Nat.zero_le _, Nat.zero_le _⟩ (fun v h1 sz1 hq => ?_)
    obtain ⟨rfl, rfl, km2, KP2, hk2, hm⟩ := hq
    obtain ⟨e, rfl⟩ : ∃ e : Nat, x = e := ⟨x.toNat, by omega⟩
    refine V_aload_n dX8_removeDirt_25 rfl ?_
    refine V_get dX8_removeDirt_26 fX8_22 hm.1 rfl ?_
    refine J_bipush dX8_removeDirt_29 (by decide) ?_
    refine J_iconst dX8_removeDirt_31 ?_
    refine V_iload_n dX8_removeDirt_32 rfl ?_
    refine J_imul dX8_removeDirt_33 ?_
    refine J_iadd dX8_removeDirt_34 ?_
    refine J_iconst dX8_removeDirt_35 ?_
    refine J_iadd dX8_removeDirt_36 ?_
    refine R_aldk_NW (10 + 2 * e) dX8_removeDirt_37 hm (by omega) (by omega) ?_
    refine V_istore_n dX8_removeDirt_38 (Nat.le_of_ble_eq_true rfl) ?_
    refine J_iconst dX8_removeDirt_39 ?_
    refine V_iload_n dX8_removeDirt_40 rfl ?_
    refine J_imul dX8_removeDirt_41 ?_
    refine V_istore_n dX8_removeDirt_42 (Nat.le_of_ble_eq_true rfl) ?_
    have hp : (2 * (e : Int)) = ((2 * e : Nat) : Int) := by omega
    rw [hp]
    refine V_mono ?_ (l8_removeDirt_43 (N0 := NW) (e := e) (by omega) 7 (2 * e) _ _ (by omega) (by omega) (by omega) (fun j hj => by rw [if_neg (by omega)]) hm)
    rintro w h2 sz2 ⟨rfl, rfl, hm⟩
    exact ⟨rfl, Or.inr ⟨e, rfl, by omega, rfl, _, _, hk2, hm⟩⟩
  · refine J_iconst dX8_removeDirt_19 ?_
    exact V_iret dX8_removeDirt_20 rfl rfl ⟨Nat.zero_le _, Nat.zero_le _⟩ ⟨rfl, Or.inl ⟨by omega, rfl, hm⟩⟩
set_option maxHeartbeats 4000000 in
set_option maxRecDepth 100000 in
theorem m8_zeroSlip {z : ZG} {d sz r n s : Nat} {g h : AH} {l sp nu rs rm sc mk km : Int} {T RA RD MA NW SD KP : Nat → Int} (hm : MS g r n s l sp nu rs rm sc mk km T RA RD MA NW SD KP h) (hs : 8 ≤ sc ∧ sc ≤ 80) (hr : rok NW) (hk : 0 ≤ km ∧ km ≤ 6) : M z YX8_zeroSlip (d + 1) 0 0 [.ref r] h sz (fun w h' sz' => sz' = sz ∧ ∃ res : Int, w = some (.int (I res)) ∧ ((res = 0 ∧ I (NW 1) = I (NW 5 * NW 0 / sc)) ∨ (res = 1 ∧ ¬ I (NW 1) = I (NW 5 * NW 0 / sc))) ∧ ∃ (km2 : Int) (KP2 : Nat → Int), kq km KP NW km2 KP2 ∧ MS g r n s l sp nu rs rm sc mk km2 T RA RD MA (va_up NW 1 (NW 5 * NW 0 / sc)) SD KP2 h') := by
  refine M.of (by decide +kernel) (Nat.le_of_ble_eq_true rfl) ?_
  have hx0 := md_rg hr.2.2.1 hr.1
  refine V_aload_n dX8_zeroSlip_0 rfl ?_
  refine V_callV (Y' := YX8_keeps) dX8_zeroSlip_1 lX8_122 gX8_keeps (m8_keeps hm (by omega)) hm.1 rfl rfl rfl (Nat.le_of_ble_eq_true rfl) ⟨Nat.zero_le _, Nat.zero_le _⟩ (fun v h1 sz1 hq => ?_)
  obtain ⟨rfl, rfl, km2, KP2, hk2, hm⟩ := hq
  refine V_aload_n dX8_zeroSlip_4 rfl ?_
  refine V_aload_n dX8_zeroSlip_5 rfl ?_
  refine V_get dX8_zeroSlip_6 fX8_22 hm.1 rfl ?_
  refine J_iconst dX8_zeroSlip_9 ?_
  refine R_aldk_NW 0 dX8_zeroSlip_10 hm rfl (by decide) ?_
  refine V_aload_n dX8_zeroSlip_11 rfl ?_
  refine V_get dX8_zeroSlip_12 fX8_22 hm.1 rfl ?_
  refine J_iconst dX8_zeroSlip_15 ?_
  refine R_aldk_NW 5 dX8_zeroSlip_16 hm rfl (by decide) ?_
  refine V_callV (Y' := YX8_expects) dX8_zeroSlip_17 lX8_114 gX8_expects (m8_expects hm hs (by first | omega | exact hx0)) hm.1 rfl rfl rfl (Nat.le_of_ble_eq_true rfl) ⟨Nat.zero_le _, Nat.zero_le _⟩ (fun v h1 sz1 hq => ?_)
  obtain ⟨rfl, rfl, rfl⟩ := hq
  refine V_istore_n dX8_zeroSlip_20 (Nat.le_of_ble_eq_true rfl) ?_
  refine V_aload_n dX8_zeroSlip_21 rfl ?_
  refine V_get dX8_zeroSlip_22 fX8_22 hm.1 rfl ?_
  refine J_iconst dX8_zeroSlip_25 ?_
  refine R_aldk_NW 1 dX8_zeroSlip_26 hm rfl (by decide) ?_
  refine V_iload_n dX8_zeroSlip_27 rfl ?_
  refine V_icmp_ne (tgt := 35) dX8_zeroSlip_28 (by decide) (fun c28 => ?_) (fun c28 => ?_)
  · refine J_iconst dX8_zeroSlip_35 ?_
    refine V_istore_n dX8_zeroSlip_36 (Nat.le_of_ble_eq_true rfl) ?_
    refine V_aload_n dX8_zeroSlip_37 rfl ?_
    refine V_get dX8_zeroSlip_38 fX8_22 hm.1 rfl ?_
    refine J_iconst dX8_zeroSlip_41 ?_
    refine V_iload_n dX8_zeroSlip_42 rfl ?_
    refine R_astk_NW 1 dX8_zeroSlip_43 hm rfl (by decide) (fun h hm => ?_)
    refine V_iload_n dX8_zeroSlip_44 rfl ?_
    exact V_iret dX8_zeroSlip_45 rfl rfl ⟨Nat.zero_le _, Nat.zero_le _⟩ ⟨rfl, _, rfl, by first | exact Or.inl ⟨rfl, c28⟩ | exact Or.inr ⟨rfl, c28⟩, _, _, hk2, hm⟩
  · refine J_iconst dX8_zeroSlip_31 ?_
    refine V_goto (tgt := 36) dX8_zeroSlip_32 (by decide) ?_
    refine V_istore_n dX8_zeroSlip_36 (Nat.le_of_ble_eq_true rfl) ?_
    refine V_aload_n dX8_zeroSlip_37 rfl ?_
    refine V_get dX8_zeroSlip_38 fX8_22 hm.1 rfl ?_
    refine J_iconst dX8_zeroSlip_41 ?_
    refine V_iload_n dX8_zeroSlip_42 rfl ?_
    refine R_astk_NW 1 dX8_zeroSlip_43 hm rfl (by decide) (fun h hm => ?_)
    refine V_iload_n dX8_zeroSlip_44 rfl ?_
    exact V_iret dX8_zeroSlip_45 rfl rfl ⟨Nat.zero_le _, Nat.zero_le _⟩ ⟨rfl, _, rfl, by first | exact Or.inl ⟨rfl, c28⟩ | exact Or.inr ⟨rfl, c28⟩, _, _, hk2, hm⟩
def mEv (N : Nat → Int) : Nat → Nat → Int
  | 0, _ => -4
  | k + 1, left => if N (18 + 3 * k) = 0 then (if left = 0 then ((18 + 3 * k : Nat) : Int) else mEv N k (left - 1)) else mEv N k left
theorem mEv_s {N : Nat → Int} {k left : Nat} : mEv N (k + 1) left = if N (18 + 3 * k) = 0 then (if left = 0 then ((18 + 3 * k : Nat) : Int) else mEv N k (left - 1)) else mEv N k left := rfl
theorem mEv_rg {N : Nat → Int} : ∀ k left, k ≤ 8 → mEv N k left = -4 ∨ ∃ q : Nat, q < 8 ∧ mEv N k left = 18 + 3 * q := by
  intro k
  induction k with
  | zero => intro left h; exact Or.inl rfl
  | succ k ih =>
    intro left h
    rw [mEv_s]
    split
    · split
      · exact Or.inr ⟨k, by omega, by omega⟩
      · exact ih _ (by omega)
    · exact ih _ (by omega)
theorem mEv_10 {N : Nat → Int} : ∀ k, k ≤ 8 → mEv N k 0 = -4 → mEv N k 1 = -4 := by
  intro k
  induction k with
  | zero => intro _ _; rfl
  | succ k ih =>
    intro h
    rw [mEv_s, mEv_s]
    split
    · rw [if_pos rfl]; intro q; omega
    · exact ih (by omega)
set_option maxHeartbeats 4000000 in
set_option maxRecDepth 100000 in
theorem l8_markEvent_12 {z : ZG} {d sz r n s : Nat} {g h : AH} {l sp nu rs rm sc mk km : Int} {T RA RD MA NW SD KP : Nat → Int} {wh : Nat} {w0 : Int} (hm : MS g r n s l sp nu rs rm sc mk km T RA RD MA NW SD KP h) (hk : ∀ k : Nat, k < 8 → 0 ≤ NW (18 + 3 * k) ∧ NW (18 + 3 * k) ≤ 1) : ∀ (k left : Nat), k ≤ 8 → left ≤ 8 → mEv NW k left = mEv NW (NW 17).toNat wh → V z YX8_markEvent (zroom d 0 0) (fun w h' sz' => w = some (.int (I (mEv NW (NW 17).toNat wh))) ∧ h' = h ∧ sz' = sz) 12 [some (.ref r), some (.int (I w0)), some (.int (I (left : Int))), some (.int (I ((k : Int) - 1)))] [] h sz 0 0 := by
  intro k
  induction k with
  | zero =>
    intro left h1 h2 he
    refine V_iload_n dX8_markEvent_12 rfl ?_
    refine J_if_lt (tgt := 50) dX8_markEvent_13 (by decide) (by omega) (fun c13 => ?_) (fun c13 => ?_)
    · refine J_bipush dX8_markEvent_50 (by decide) ?_
      exact V_iret dX8_markEvent_52 rfl rfl ⟨Nat.zero_le _, Nat.zero_le _⟩ ⟨by rw [← he]; rfl, rfl, rfl⟩
    · exfalso
      omega
  | succ k ih =>
    intro left h1 h2 he
    have hkk := hk k (by omega)
    rw [mEv_s] at he
    rw [show (((k + 1 : Nat) : Int) - 1) = k by omega]
    refine V_iload_n dX8_markEvent_12 rfl ?_
    refine J_if_lt (tgt := 50) dX8_markEvent_13 (by decide) (by omega) (fun c13 => ?_) (fun c13 => ?_)
    · exfalso
      omega
    · refine V_aload_n dX8_markEvent_16 rfl ?_
      refine V_get dX8_markEvent_17 fX8_22 hm.1 rfl ?_
      refine J_bipush dX8_markEvent_20 (by decide) ?_
      refine J_iconst dX8_markEvent_22 ?_
      refine V_iload_n dX8_markEvent_23 rfl ?_
      refine J_imul dX8_markEvent_24 ?_
      refine J_iadd dX8_markEvent_25 ?_
      refine R_aldk_NW (18 + 3 * k) dX8_markEvent_26 hm (by omega) (by omega) ?_
      refine J_if_ne (tgt := 44) dX8_markEvent_27 (by decide) (by omega) (fun c27 => ?_) (fun c27 => ?_)
      · refine J_iinc dX8_markEvent_44 rfl ?_
        refine V_goto (tgt := 12) dX8_markEvent_47 (by decide) ?_
        first | exact ih left (by omega) (by omega) (by rw [if_neg c27] at he; exact he) | (rw [show ((left : Int) + -1) = ((left - 1 : Nat) : Int) by omega]; exact ih (left - 1) (by omega) (by omega) (by rw [if_pos c27, if_neg (by omega)] at he; exact he))
      · refine V_iload_n dX8_markEvent_30 rfl ?_
        refine J_if_ne (tgt := 41) dX8_markEvent_31 (by decide) (by omega) (fun c31 => ?_) (fun c31 => ?_)
        · refine J_iinc dX8_markEvent_41 rfl ?_
          refine J_iinc dX8_markEvent_44 rfl ?_
          refine V_goto (tgt := 12) dX8_markEvent_47 (by decide) ?_
          first | exact ih left (by omega) (by omega) (by rw [if_neg c27] at he; exact he) | (rw [show ((left : Int) + -1) = ((left - 1 : Nat) : Int) by omega]; exact ih (left - 1) (by omega) (by omega) (by rw [if_pos c27, if_neg (by omega)] at he; exact he))
        · refine J_bipush dX8_markEvent_34 (by decide) ?_
          refine J_iconst dX8_markEvent_36 ?_
          refine V_iload_n dX8_markEvent_37 rfl ?_
          refine J_imul dX8_markEvent_38 ?_
          refine J_iadd dX8_markEvent_39 ?_
          exact V_iret dX8_markEvent_40 rfl rfl ⟨Nat.zero_le _, Nat.zero_le _⟩ ⟨by rw [← he, if_pos c27, if_pos (by omega)]; congr 3, rfl, rfl⟩
set_option maxHeartbeats 4000000 in
set_option maxRecDepth 100000 in
theorem m8_markEvent {z : ZG} {d sz r n s : Nat} {g h : AH} {l sp nu rs rm sc mk km : Int} {T RA RD MA NW SD KP : Nat → Int} {wh : Nat} (hw : wh ≤ 1) (hm : MS g r n s l sp nu rs rm sc mk km T RA RD MA NW SD KP h) (hr : rok NW) : M z YX8_markEvent d 0 0 [.ref r, .int (I (wh : Int))] h sz (fun w h' sz' => w = some (.int (I (mEv NW (NW 17).toNat wh))) ∧ h' = h ∧ sz' = sz) := by
  refine M.of (by decide +kernel) (Nat.le_of_ble_eq_true rfl) ?_
  obtain ⟨e, he⟩ : ∃ e : Nat, NW 17 = e := ⟨(NW 17).toNat, by have := hr.2.2.2.2.2.2.1; omega⟩
  have h17 := hr.2.2.2.2.2.2.1
  refine V_iload_n dX8_markEvent_0 rfl ?_
  refine V_istore_n dX8_markEvent_1 (Nat.le_of_ble_eq_true rfl) ?_
  refine V_aload_n dX8_markEvent_2 rfl ?_
  refine V_get dX8_markEvent_3 fX8_22 hm.1 rfl ?_
  refine J_bipush dX8_markEvent_6 (by decide) ?_
  refine R_aldk_NW 17 dX8_markEvent_8 hm rfl (by decide) ?_
  refine J_iconst dX8_markEvent_9 ?_
  refine J_isub dX8_markEvent_10 ?_
  refine V_top (b := (e : Int) - 1) (by omega) ?_
  refine V_istore_n dX8_markEvent_11 (Nat.le_of_ble_eq_true rfl) ?_
  exact l8_markEvent_12 hm hr.2.2.2.2.2.2.2.2 e wh (by omega) (by omega) (by rw [he, Int.toNat_natCast])
set_option maxHeartbeats 4000000 in
set_option maxRecDepth 100000 in
theorem m8_apart {z : ZG} {d sz : Nat} {h : AH} {a b : Int} : M z YX8_apart d 0 0 [.int (I a), .int (I b)] h sz (fun w h' sz' => ∃ q : Int, w = some (.int (I q)) ∧ ((I a ≤ I b ∧ q = b - a) ∨ (¬ I a ≤ I b ∧ q = a - b)) ∧ h' = h ∧ sz' = sz) := by
  refine M.of (by decide +kernel) (Nat.le_of_ble_eq_true rfl) ?_
  refine V_iload_n dX8_apart_0 rfl ?_
  refine V_iload_n dX8_apart_1 rfl ?_
  refine V_icmp_le (tgt := 11) dX8_apart_2 (by decide) (fun c2 => ?_) (fun c2 => ?_)
  · refine V_iload_n dX8_apart_11 rfl ?_
    refine V_iload_n dX8_apart_12 rfl ?_
    refine J_isub dX8_apart_13 ?_
    exact V_iret dX8_apart_14 rfl rfl ⟨Nat.zero_le _, Nat.zero_le _⟩ ⟨_, rfl, by first | exact Or.inl ⟨c2, rfl⟩ | exact Or.inr ⟨c2, rfl⟩, rfl, rfl⟩
  · refine V_iload_n dX8_apart_5 rfl ?_
    refine V_iload_n dX8_apart_6 rfl ?_
    refine J_isub dX8_apart_7 ?_
    refine V_goto (tgt := 14) dX8_apart_8 (by decide) ?_
    exact V_iret dX8_apart_14 rfl rfl ⟨Nat.zero_le _, Nat.zero_le _⟩ ⟨_, rfl, by first | exact Or.inl ⟨c2, rfl⟩ | exact Or.inr ⟨c2, rfl⟩, rfl, rfl⟩
