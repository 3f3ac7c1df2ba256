/-! THE REFERENCE: counting, the log, dirt, decoding -/
set_option maxHeartbeats 4000000 in
set_option maxRecDepth 100000 in
theorem m8_isCounted {z : ZG} {d sz r n s : Nat} {g h : AH} {l sp nu rs rm sc mk km : Int} {T RA RD MA NW SD KP : Nat → Int} {b : Int} (hm : MS g r n s l sp nu rs rm sc mk km T RA RD MA NW SD KP h) (hb : -2147483648 ≤ b ∧ b < 2147483648) (h5 : -2147483648 ≤ SD 5 ∧ SD 5 < 2147483648) : M z YX8_isCounted d 0 0 [.ref r, .int (I b)] h sz (fun w h' sz' => w = some (.int (I (cnb (SD 5) b))) ∧ h' = h ∧ sz' = sz) := by
  refine M.of (by decide +kernel) (Nat.le_of_ble_eq_true rfl) ?_
  refine V_aload_n dX8_isCounted_0 rfl ?_
  refine V_get dX8_isCounted_1 fX8_25 hm.1 rfl ?_
  refine J_iconst dX8_isCounted_4 ?_
  refine R_aldk_SD 5 dX8_isCounted_5 hm rfl (by decide) ?_
  refine J_iconst dX8_isCounted_6 ?_
  refine J_icmp_eq (tgt := 30) dX8_isCounted_7 (by decide) (by omega) (by omega) (fun c7 => ?_) (fun c7 => ?_)
  · refine J_iconst dX8_isCounted_30 ?_
    refine V_goto (tgt := 35) dX8_isCounted_31 (by decide) ?_
    exact V_iret dX8_isCounted_35 rfl rfl ⟨Nat.zero_le _, Nat.zero_le _⟩ ⟨by unfold cnb; first | rw [if_pos (by omega)] | rw [if_neg (by omega)], rfl, rfl⟩
  · refine V_iload_n dX8_isCounted_10 rfl ?_
    refine J_iconst dX8_isCounted_11 ?_
    refine J_icmp_eq (tgt := 30) dX8_isCounted_12 (by decide) (by omega) (by omega) (fun c12 => ?_) (fun c12 => ?_)
    · refine J_iconst dX8_isCounted_30 ?_
      refine V_goto (tgt := 35) dX8_isCounted_31 (by decide) ?_
      exact V_iret dX8_isCounted_35 rfl rfl ⟨Nat.zero_le _, Nat.zero_le _⟩ ⟨by unfold cnb; first | rw [if_pos (by omega)] | rw [if_neg (by omega)], rfl, rfl⟩
    · refine V_aload_n dX8_isCounted_15 rfl ?_
      refine V_get dX8_isCounted_16 fX8_25 hm.1 rfl ?_
      refine J_iconst dX8_isCounted_19 ?_
      refine R_aldk_SD 5 dX8_isCounted_20 hm rfl (by decide) ?_
      refine J_iconst dX8_isCounted_21 ?_
      refine J_icmp_ne (tgt := 34) dX8_isCounted_22 (by decide) (by omega) (by omega) (fun c22 => ?_) (fun c22 => ?_)
      · refine J_iconst dX8_isCounted_34 ?_
        exact V_iret dX8_isCounted_35 rfl rfl ⟨Nat.zero_le _, Nat.zero_le _⟩ ⟨by unfold cnb; first | rw [if_pos (by omega)] | rw [if_neg (by omega)], rfl, rfl⟩
      · refine V_iload_n dX8_isCounted_25 rfl ?_
        refine J_iconst dX8_isCounted_26 ?_
        refine J_icmp_ne (tgt := 34) dX8_isCounted_27 (by decide) (by omega) (by omega) (fun c27 => ?_) (fun c27 => ?_)
        · refine J_iconst dX8_isCounted_34 ?_
          exact V_iret dX8_isCounted_35 rfl rfl ⟨Nat.zero_le _, Nat.zero_le _⟩ ⟨by unfold cnb; first | rw [if_pos (by omega)] | rw [if_neg (by omega)], rfl, rfl⟩
        · refine J_iconst dX8_isCounted_30 ?_
          refine V_goto (tgt := 35) dX8_isCounted_31 (by decide) ?_
          exact V_iret dX8_isCounted_35 rfl rfl ⟨Nat.zero_le _, Nat.zero_le _⟩ ⟨by unfold cnb; first | rw [if_pos (by omega)] | rw [if_neg (by omega)], rfl, rfl⟩
set_option maxHeartbeats 4000000 in
set_option maxRecDepth 100000 in
theorem l8_logs_55 {z : ZG} {d sz r n s : Nat} {g h : AH} {l sp nu rs rm sc mk km : Int} {T RA RD MA NW SD KP : Nat → Int} {kind x : Int} {e : Nat} {o3 : Option Value} (hm : MS g r n s l sp nu rs rm sc mk km T RA RD MA NW SD KP h) (h17 : SD 17 = e) (he : e ≤ 7) : V z YX8_logs (zroom d 0 0) (fun w h' sz' => w = none ∧ sz' = sz ∧ MS g r n s l sp nu rs rm sc mk km T RA RD MA NW (lgA SD e kind x) KP h') 55 [some (.ref r), some (.int (I kind)), some (.int (I x)), o3] [] h sz 0 0 := by
  refine J_bipush dX8_logs_55 (by decide) ?_
  refine J_iconst dX8_logs_57 ?_
  refine V_aload_n dX8_logs_58 rfl ?_
  refine V_get dX8_logs_59 fX8_25 hm.1 rfl ?_
  refine J_bipush dX8_logs_62 (by decide) ?_
  refine R_aldk_SD 17 dX8_logs_64 hm rfl (by decide) ?_
  refine J_imul dX8_logs_65 ?_
  refine J_iadd dX8_logs_66 ?_
  refine V_istore_n dX8_logs_67 (Nat.le_of_ble_eq_true rfl) ?_
  refine V_aload_n dX8_logs_68 rfl ?_
  refine V_get dX8_logs_69 fX8_25 hm.1 rfl ?_
  refine V_iload_n dX8_logs_72 rfl ?_
  refine V_iload_n dX8_logs_73 rfl ?_
  refine R_astk_SD (18 + 3 * e) dX8_logs_74 hm (by omega) (by omega) (fun h hm => ?_)
  refine V_aload_n dX8_logs_75 rfl ?_
  refine V_get dX8_logs_76 fX8_25 hm.1 rfl ?_
  refine V_iload_n dX8_logs_79 rfl ?_
  refine J_iconst dX8_logs_80 ?_
  refine J_iadd dX8_logs_81 ?_
  refine V_iload_n dX8_logs_82 rfl ?_
  refine R_astk_SD (19 + 3 * e) dX8_logs_83 hm (by omega) (by omega) (fun h hm => ?_)
  refine V_aload_n dX8_logs_84 rfl ?_
  refine V_get dX8_logs_85 fX8_25 hm.1 rfl ?_
  refine V_iload_n dX8_logs_88 rfl ?_
  refine J_iconst dX8_logs_89 ?_
  refine J_iadd dX8_logs_90 ?_
  refine V_aload_n dX8_logs_91 rfl ?_
  refine V_get dX8_logs_92 fX8_25 hm.1 rfl ?_
  refine J_iconst dX8_logs_95 ?_
  refine R_aldk_SD 1 dX8_logs_96 hm rfl (by decide) ?_
  refine R_astk_SD (20 + 3 * e) dX8_logs_97 hm (by omega) (by omega) (fun h hm => ?_)
  refine V_aload_n dX8_logs_98 rfl ?_
  refine V_get dX8_logs_99 fX8_25 hm.1 rfl ?_
  refine J_bipush dX8_logs_102 (by decide) ?_
  refine V_dup2 dX8_logs_104 rfl rfl ?_
  refine R_aldk_SD 17 dX8_logs_105 hm rfl (by decide) ?_
  refine J_iconst dX8_logs_106 ?_
  refine J_iadd dX8_logs_107 ?_
  refine R_astk_SD 17 dX8_logs_108 hm rfl (by decide) (fun h hm => ?_)
  refine V_ret dX8_logs_109 rfl ⟨Nat.zero_le _, Nat.zero_le _⟩ ⟨rfl, rfl, hm.eSD (fun j hj => ?_)⟩
  have e1 : va_up (va_up SD (18 + 3 * e) kind) (19 + 3 * e) x 1 = SD 1 := by unfold va_up; rw [if_neg (by omega), if_neg (by omega)]
  have e2 : va_up (va_up (va_up SD (18 + 3 * e) kind) (19 + 3 * e) x) (20 + 3 * e) (SD 1) 17 = e := by unfold va_up; rw [if_neg (by omega), if_neg (by omega), if_neg (by omega)]; exact h17
  rw [e1, e2]
  rfl
set_option maxHeartbeats 4000000 in
set_option maxRecDepth 100000 in
theorem l8_logs_14 {z : ZG} {d sz r n s : Nat} {g : AH} {l sp nu rs rm sc mk km : Int} {T RA RD MA NW KP : Nat → Int} {kind x : Int} {S0 : Nat → Int} (h17 : S0 17 = 8) : ∀ (f i : Nat) (SD : Nat → Int) (h : AH), i ≤ 21 → 21 - i < f → (∀ j : Nat, j < 42 → SD j = if 18 ≤ j ∧ j < 18 + i then S0 (j + 3) else S0 j) → MS g r n s l sp nu rs rm sc mk km T RA RD MA NW SD KP h → V z YX8_logs (zroom d 0 0) (fun w h' sz' => w = none ∧ sz' = sz ∧ MS g r n s l sp nu rs rm sc mk km T RA RD MA NW (lgA (lgT S0) 7 kind x) KP h') 14 [some (.ref r), some (.int (I kind)), some (.int (I x)), some (.int (I (i : Int)))] [] h sz 0 0 := by
  intro f
  induction f with
  | zero => intro i SD h h1 h2; omega
  | succ f ih =>
    intro i SD h h1 h2 hz hm
    refine V_iload_n dX8_logs_14 rfl ?_
    refine J_bipush dX8_logs_15 (by decide) ?_
    refine J_icmp_ge (tgt := 44) dX8_logs_17 (by decide) (by omega) (by omega) (fun c17 => ?_) (fun c17 => ?_)
    · refine V_aload_n dX8_logs_44 rfl ?_
      refine V_get dX8_logs_45 fX8_25 hm.1 rfl ?_
      refine J_bipush dX8_logs_48 (by decide) ?_
      refine V_dup2 dX8_logs_50 rfl rfl ?_
      refine R_aldk_SD 17 dX8_logs_51 hm rfl (by decide) ?_
      refine J_iconst dX8_logs_52 ?_
      refine J_isub dX8_logs_53 ?_
      refine R_astk_SD 17 dX8_logs_54 hm rfl (by decide) (fun h hm => ?_)
      have e17 : SD 17 = 8 := by rw [hz 17 (by omega), if_neg (by omega)]; exact h17
      have he : ∀ j, j < 42 → va_up SD 17 (SD 17 - 1) j = lgT S0 j := by
        intro j hj
        unfold lgT va_up
        by_cases q1 : j = 17
        · rw [if_pos q1, if_pos q1]; omega
        · rw [if_neg q1, if_neg q1, hz j hj]; congr 1; apply propext; omega
      exact l8_logs_55 (hm.eSD he) rfl (by omega)
    · refine V_aload_n dX8_logs_20 rfl ?_
      refine V_get dX8_logs_21 fX8_25 hm.1 rfl ?_
      refine J_bipush dX8_logs_24 (by decide) ?_
      refine V_iload_n dX8_logs_26 rfl ?_
      refine J_iadd dX8_logs_27 ?_
      refine V_aload_n dX8_logs_28 rfl ?_
      refine V_get dX8_logs_29 fX8_25 hm.1 rfl ?_
      refine J_bipush dX8_logs_32 (by decide) ?_
      refine V_iload_n dX8_logs_34 rfl ?_
      refine J_iadd dX8_logs_35 ?_
      refine R_aldk_SD (21 + i) dX8_logs_36 hm (by omega) (by omega) ?_
      refine R_astk_SD (18 + i) dX8_logs_37 hm (by omega) (by omega) (fun h hm => ?_)
      refine J_iinc dX8_logs_38 rfl ?_
      refine V_goto (tgt := 14) dX8_logs_41 (by decide) ?_
      refine ih (i + 1) _ h (by omega) (by omega) ?_ hm
      intro j hj
      have e := hz j hj
      simp only [va_up]
      by_cases q1 : j = 18 + i
      · subst q1; rw [if_pos rfl, if_pos (by omega), hz (21 + i) (by omega), if_neg (by omega)]; congr 1; omega
      · rw [if_neg q1, e]; split <;> split <;> first | rfl | omega
set_option maxHeartbeats 4000000 in
set_option maxRecDepth 100000 in
theorem m8_logs {z : ZG} {d sz r n s : Nat} {g h : AH} {l sp nu rs rm sc mk km : Int} {T RA RD MA NW SD KP : Nat → Int} {kind x : Int} (hm : MS g r n s l sp nu rs rm sc mk km T RA RD MA NW SD KP h) (h17 : 0 ≤ SD 17 ∧ SD 17 ≤ 8) : M z YX8_logs d 0 0 [.ref r, .int (I kind), .int (I x)] h sz (fun w h' sz' => w = none ∧ sz' = sz ∧ MS g r n s l sp nu rs rm sc mk km T RA RD MA NW (lgE SD kind x) KP h') := by
  refine M.of (by decide +kernel) (Nat.le_of_ble_eq_true rfl) ?_
  refine V_aload_n dX8_logs_0 rfl ?_
  refine V_get dX8_logs_1 fX8_25 hm.1 rfl ?_
  refine J_bipush dX8_logs_4 (by decide) ?_
  refine R_aldk_SD 17 dX8_logs_6 hm rfl (by decide) ?_
  refine J_bipush dX8_logs_7 (by decide) ?_
  refine J_icmp_ne (tgt := 55) dX8_logs_9 (by decide) (by omega) (by omega) (fun c9 => ?_) (fun c9 => ?_)
  · refine V_mono ?_ (l8_logs_55 hm (e := (SD 17).toNat) (by omega) (by omega))
    rintro w h2 sz2 ⟨rfl, rfl, hm⟩
    exact ⟨rfl, rfl, hm.eSD (fun j hj => by unfold lgE; rw [if_neg (by omega)])⟩
  · refine J_iconst dX8_logs_12 ?_
    refine V_istore_n dX8_logs_13 (Nat.le_of_ble_eq_true rfl) ?_
    have q : SD 17 = 8 := by omega
    refine V_mono ?_ (l8_logs_14 (S0 := SD) q 22 0 _ _ (by omega) (by omega) (fun j hj => by rw [if_neg (by omega)]) hm)
    rintro w h2 sz2 ⟨rfl, rfl, hm⟩
    exact ⟨rfl, rfl, hm.eSD (fun j hj => by unfold lgE; rw [if_pos q])⟩
theorem drt_s {S : Nat → Int} {m : Nat} {x : Int} : drt S (m + 1) x ↔ drt S m x ∨ (S (9 + 2 * m) ≤ x ∧ x ≤ S (9 + 2 * m) + S (10 + 2 * m) - 1) := by
  constructor
  · rintro ⟨k, h1, h2⟩
    by_cases q : k = m
    · subst q; exact Or.inr h2
    · exact Or.inl ⟨k, by omega, h2⟩
  · rintro (⟨k, h1, h2⟩ | h)
    · exact ⟨k, by omega, h2⟩
    · exact ⟨m, by omega, h⟩
theorem drt_0 {S : Nat → Int} {x : Int} : ¬ drt S 0 x := fun ⟨k, h, _⟩ => by omega
set_option maxHeartbeats 4000000 in
set_option maxRecDepth 100000 in
theorem l8_isDirty_4 {z : ZG} {d sz r n s : Nat} {g h : AH} {l sp nu rs rm sc mk km : Int} {T RA RD MA NW SD KP : Nat → Int} {x : Int} (hx : -2147483648 ≤ x ∧ x < 2147483648) (hm : MS g r n s l sp nu rs rm sc mk km T RA RD MA NW SD KP h) (h8 : 0 ≤ SD 8 ∧ SD 8 ≤ 4) (hdr : ∀ k : Nat, k < 4 → (0 ≤ SD (9 + 2 * k) ∧ SD (9 + 2 * k) ≤ 9999) ∧ (0 ≤ SD (10 + 2 * k) ∧ SD (10 + 2 * k) ≤ 99)) : ∀ (f k : Nat) (t : Int) (o4 : Option Value), (k : Int) ≤ SD 8 → SD 8 - k < f → ((t = 1 ∧ drt SD k x) ∨ (t = 0 ∧ ¬ drt SD k x)) → V z YX8_isDirty (zroom (d + 1) 0 0) (fun w h' sz' => ∃ t : Int, w = some (.int (I t)) ∧ ((t = 1 ∧ drt SD (SD 8).toNat x) ∨ (t = 0 ∧ ¬ drt SD (SD 8).toNat x)) ∧ h' = h ∧ sz' = sz) 4 [some (.ref r), some (.int (I x)), some (.int (I t)), some (.int (I (k : Int))), o4] [] h sz 0 0 := by
  intro f
  induction f with
  | zero => intro k t o4 h1 h2; omega
  | succ f ih =>
    intro k t o4 h1 h2 ht
    have htr : t = 1 ∨ t = 0 := by rcases ht with q | q <;> omega
    refine V_iload_n dX8_isDirty_4 rfl ?_
    refine V_aload_n dX8_isDirty_5 rfl ?_
    refine V_get dX8_isDirty_6 fX8_25 hm.1 rfl ?_
    refine J_bipush dX8_isDirty_9 (by decide) ?_
    refine R_aldk_SD 8 dX8_isDirty_11 hm rfl (by decide) ?_
    refine J_icmp_ge (tgt := 74) dX8_isDirty_12 (by decide) (by omega) (by omega) (fun c12 => ?_) (fun c12 => ?_)
    · refine V_iload_n dX8_isDirty_74 rfl ?_
      exact V_iret dX8_isDirty_75 rfl (by rcases htr with rfl | rfl <;> rfl) ⟨Nat.zero_le _, Nat.zero_le _⟩ ⟨t, rfl, by rw [show (SD 8).toNat = k by omega]; exact ht, rfl, rfl⟩
    · have hd := hdr k (by omega)
      refine V_aload_n dX8_isDirty_15 rfl ?_
      refine V_get dX8_isDirty_16 fX8_25 hm.1 rfl ?_
      refine J_bipush dX8_isDirty_19 (by decide) ?_
      refine J_iconst dX8_isDirty_21 ?_
      refine V_iload_n dX8_isDirty_22 rfl ?_
      refine J_imul dX8_isDirty_23 ?_
      refine J_iadd dX8_isDirty_24 ?_
      refine R_aldk_SD (9 + 2 * k) dX8_isDirty_25 hm (by omega) (by omega) ?_
      refine V_istore dX8_isDirty_26 (Nat.le_of_ble_eq_true rfl) ?_
      refine V_iload_n dX8_isDirty_28 rfl ?_
      refine J_if_ne (tgt := 62) dX8_isDirty_29 (by decide) (by omega) (fun c29 => ?_) (fun c29 => ?_)
      · refine J_iconst dX8_isDirty_62 ?_
        refine V_goto (tgt := 67) dX8_isDirty_63 (by decide) ?_
        refine V_istore_n dX8_isDirty_67 (Nat.le_of_ble_eq_true rfl) ?_
        refine J_iinc dX8_isDirty_68 rfl ?_
        refine V_goto (tgt := 4) dX8_isDirty_71 (by decide) ?_
        refine ih (k + 1) _ _ (by omega) (by omega) ?_
        rcases ht with ⟨q, hD⟩ | ⟨q, hD⟩ <;> first | (exfalso; omega) | exact Or.inl ⟨rfl, drt_s.mpr (Or.inl hD)⟩ | exact Or.inl ⟨rfl, drt_s.mpr (Or.inr (by omega))⟩ | exact Or.inr ⟨rfl, fun w => (drt_s.mp w).elim hD (fun w => by omega)⟩
      · refine V_iload_n dX8_isDirty_32 rfl ?_
        refine J_i2l dX8_isDirty_33 (by omega) ?_
        refine V_iload dX8_isDirty_34 rfl ?_
        refine J_i2l dX8_isDirty_36 (by omega) ?_
        refine V_iload dX8_isDirty_37 rfl ?_
        refine V_aload_n dX8_isDirty_39 rfl ?_
        refine V_get dX8_isDirty_40 fX8_25 hm.1 rfl ?_
        refine J_bipush dX8_isDirty_43 (by decide) ?_
        refine J_iconst dX8_isDirty_45 ?_
        refine V_iload_n dX8_isDirty_46 rfl ?_
        refine J_imul dX8_isDirty_47 ?_
        refine J_iadd dX8_isDirty_48 ?_
        refine J_iconst dX8_isDirty_49 ?_
        refine J_iadd dX8_isDirty_50 ?_
        refine R_aldk_SD (10 + 2 * k) dX8_isDirty_51 hm (by omega) (by omega) ?_
        refine J_iadd dX8_isDirty_52 ?_
        refine J_iconst dX8_isDirty_53 ?_
        refine J_isub dX8_isDirty_54 ?_
        refine J_i2l dX8_isDirty_55 (by omega) ?_
        refine V_callS (Y' := YX8_in) dX8_isDirty_56 lX8_57 gX8_in (m8_in (by omega) (by omega) (by omega)) rfl rfl (Nat.le_of_ble_eq_true rfl) ⟨Nat.zero_le _, Nat.zero_le _⟩ (fun v h1 sz1 hq => ?_)
        obtain ⟨t56, rfl, ht56, rfl, rfl⟩ := hq
        refine J_if_eq (tgt := 66) dX8_isDirty_59 (by decide) (by omega) (fun c59 => ?_) (fun c59 => ?_)
        · refine J_iconst dX8_isDirty_66 ?_
          refine V_istore_n dX8_isDirty_67 (Nat.le_of_ble_eq_true rfl) ?_
          refine J_iinc dX8_isDirty_68 rfl ?_
          refine V_goto (tgt := 4) dX8_isDirty_71 (by decide) ?_
          refine ih (k + 1) _ _ (by omega) (by omega) ?_
          rcases ht with ⟨q, hD⟩ | ⟨q, hD⟩ <;> first | (exfalso; omega) | exact Or.inl ⟨rfl, drt_s.mpr (Or.inl hD)⟩ | exact Or.inl ⟨rfl, drt_s.mpr (Or.inr (by omega))⟩ | exact Or.inr ⟨rfl, fun w => (drt_s.mp w).elim hD (fun w => by omega)⟩
        · refine J_iconst dX8_isDirty_62 ?_
          refine V_goto (tgt := 67) dX8_isDirty_63 (by decide) ?_
          refine V_istore_n dX8_isDirty_67 (Nat.le_of_ble_eq_true rfl) ?_
          refine J_iinc dX8_isDirty_68 rfl ?_
          refine V_goto (tgt := 4) dX8_isDirty_71 (by decide) ?_
          refine ih (k + 1) _ _ (by omega) (by omega) ?_
          rcases ht with ⟨q, hD⟩ | ⟨q, hD⟩ <;> first | (exfalso; omega) | exact Or.inl ⟨rfl, drt_s.mpr (Or.inl hD)⟩ | exact Or.inl ⟨rfl, drt_s.mpr (Or.inr (by omega))⟩ | exact Or.inr ⟨rfl, fun w => (drt_s.mp w).elim hD (fun w => by omega)⟩
set_option maxHeartbeats 4000000 in
set_option maxRecDepth 100000 in
theorem m8_isDirty {z : ZG} {d sz r n s : Nat} {g h : AH} {l sp nu rs rm sc mk km : Int} {T RA RD MA NW SD KP : Nat → Int} {x : Int} (hx : -2147483648 ≤ x ∧ x < 2147483648) (hm : MS g r n s l sp nu rs rm sc mk km T RA RD MA NW SD KP h) (h8 : 0 ≤ SD 8 ∧ SD 8 ≤ 4) (hdr : ∀ k : Nat, k < 4 → (0 ≤ SD (9 + 2 * k) ∧ SD (9 + 2 * k) ≤ 9999) ∧ (0 ≤ SD (10 + 2 * k) ∧ SD (10 + 2 * k) ≤ 99)) : M z YX8_isDirty (d + 1) 0 0 [.ref r, .int (I x)] h sz (fun w h' sz' => ∃ t : Int, w = some (.int (I t)) ∧ ((t = 1 ∧ drt SD (SD 8).toNat x) ∨ (t = 0 ∧ ¬ drt SD (SD 8).toNat x)) ∧ h' = h ∧ sz' = sz) := by
  refine M.of (by decide +kernel) (Nat.le_of_ble_eq_true rfl) ?_
  refine J_iconst dX8_isDirty_0 ?_
  refine V_istore_n dX8_isDirty_1 (Nat.le_of_ble_eq_true rfl) ?_
  refine J_iconst dX8_isDirty_2 ?_
  refine V_istore_n dX8_isDirty_3 (Nat.le_of_ble_eq_true rfl) ?_
  exact l8_isDirty_4 hx hm h8 hdr 5 0 0 _ (by omega) (by omega) (Or.inr ⟨rfl, drt_0⟩)
theorem cnb_rg {m b : Int} : 0 ≤ cnb m b ∧ cnb m b ≤ 1 := by unfold cnb; split <;> omega
set_option maxHeartbeats 4000000 in
set_option maxRecDepth 100000 in
theorem m8_decodes {z : ZG} {d sz r n s : Nat} {g h : AH} {l sp nu rs rm sc mk km : Int} {T RA RD MA NW SD KP : Nat → Int} {x : Int} (hx : 0 ≤ x ∧ x ≤ 99999) (hs : 8 ≤ sc ∧ sc ≤ 80) (hm : MS g r n s l sp nu rs rm sc mk km T RA RD MA NW SD KP h) (hr : rok SD) : M z YX8_decodes (d + 1) 0 0 [.ref r, .int (I x)] h sz (fun w h' sz' => w = none ∧ sz' = sz ∧ MS g r n s l sp nu rs rm sc mk km T RA RD MA NW (dcd sc SD x) KP h') := by
  refine M.of (by decide +kernel) (Nat.le_of_ble_eq_true rfl) ?_
  have hq0 : 0 ≤ x % sc ∧ x % sc < sc := ⟨Int.emod_nonneg x (by omega), Int.emod_lt_of_pos x (by omega)⟩
  have hq1 := quad_rg (sc := sc) (x := x) (by omega)
  obtain ⟨hr0, hr2, hr5, hr6, hr7, hr8, hr17, hrd, hre⟩ := id hr
  refine J_iconst dX8_decodes_0 ?_
  refine V_iload_n dX8_decodes_1 rfl ?_
  refine V_aload_n dX8_decodes_2 rfl ?_
  refine V_get dX8_decodes_3 fX8_44 hm.1 rfl ?_
  refine J_irem dX8_decodes_6 (by omega) (by omega) ?_
  refine J_imul dX8_decodes_7 ?_
  refine V_aload_n dX8_decodes_8 rfl ?_
  refine V_get dX8_decodes_9 fX8_44 hm.1 rfl ?_
  refine J_idiv dX8_decodes_12 (by omega) (by omega) ?_
  change V z YX8_decodes _ _ _ _ (.int (I (quad sc x)) :: _) _ _ _ _
  refine V_istore_n dX8_decodes_13 (Nat.le_of_ble_eq_true rfl) ?_
  refine V_iload_n dX8_decodes_14 rfl ?_
  refine V_aload_n dX8_decodes_15 rfl ?_
  refine V_get dX8_decodes_16 fX8_25 hm.1 rfl ?_
  refine J_iconst dX8_decodes_19 ?_
  refine R_aldk_SD 2 dX8_decodes_20 hm rfl (by decide) ?_
  refine J_isub dX8_decodes_21 ?_
  refine J_iconst dX8_decodes_22 ?_
  refine J_iadd dX8_decodes_23 ?_
  refine J_iconst dX8_decodes_24 ?_
  refine J_irem dX8_decodes_25 (by omega) (by omega) ?_
  refine V_istore_n dX8_decodes_26 (Nat.le_of_ble_eq_true rfl) ?_
  refine V_iload_n dX8_decodes_27 rfl ?_
  refine J_iconst dX8_decodes_28 ?_
  refine J_icmp_ne (tgt := 83) dX8_decodes_29 (by decide) (by omega) (by omega) (fun c29 => ?_) (fun c29 => ?_)
  · refine V_iload_n dX8_decodes_83 rfl ?_
    refine J_iconst dX8_decodes_84 ?_
    refine J_icmp_ne (tgt := 118) dX8_decodes_85 (by decide) (by omega) (by omega) (fun c85 => ?_) (fun c85 => ?_)
    · refine V_iload_n dX8_decodes_118 rfl ?_
      refine J_iconst dX8_decodes_119 ?_
      refine J_icmp_ne (tgt := 145) dX8_decodes_120 (by decide) (by omega) (by omega) (fun c120 => ?_) (fun c120 => ?_)
      · refine V_aload_n dX8_decodes_145 rfl ?_
        refine V_get dX8_decodes_146 fX8_25 hm.1 rfl ?_
        refine J_iconst dX8_decodes_149 ?_
        refine V_iload_n dX8_decodes_150 rfl ?_
        refine R_astk_SD 2 dX8_decodes_151 hm rfl (by decide) (fun h hm => ?_)
        exact V_ret dX8_decodes_152 rfl ⟨Nat.zero_le _, Nat.zero_le _⟩ ⟨rfl, rfl, hm.eSD (fun j hj => by unfold dcd; (first | rw [if_pos c29] | (rw [if_neg c29]; first | rw [if_pos c85] | (rw [if_neg c85]; first | rw [if_pos c120] | rw [if_neg c120]))) <;> first | done | rfl | (unfold dcM; rw [if_pos (Or.inl c49)]; done) | (unfold dcM; rw [if_pos (Or.inr c71)]; done) | (unfold dcM; rw [if_neg (fun w => w.elim c49 c71)]; done) | (rw [show cnb (SD 5) (SD 2) = 0 by omega, Int.add_zero]; done) | (rw [show cnb (SD 5) (SD 2) = 1 by omega]; done) | (rw [show cnb (SD 5) (quad sc x) = 0 by omega]; done) | (rw [show cnb (SD 5) (quad sc x) = 1 by omega]; done))⟩
      · refine V_aload_n dX8_decodes_123 rfl ?_
        refine V_get dX8_decodes_124 fX8_25 hm.1 rfl ?_
        refine J_iconst dX8_decodes_127 ?_
        refine V_dup2 dX8_decodes_128 rfl rfl ?_
        refine R_aldk_SD 1 dX8_decodes_129 hm rfl (by decide) ?_
        refine V_aload_n dX8_decodes_130 rfl ?_
        refine V_iload_n dX8_decodes_131 rfl ?_
        refine V_callV (Y' := YX8_isCounted) dX8_decodes_132 lX8_96 gX8_isCounted (m8_isCounted hm (by omega) (by omega)) hm.1 rfl rfl rfl (Nat.le_of_ble_eq_true rfl) ⟨Nat.zero_le _, Nat.zero_le _⟩ (fun v h1 sz1 hq => ?_)
        obtain ⟨rfl, rfl, rfl⟩ := hq
        have hcn132 : 0 ≤ cnb _ _ ∧ cnb _ _ ≤ 1 := cnb_rg (m := SD 5) (b := quad sc x)
        refine J_if_eq (tgt := 142) dX8_decodes_135 (by decide) (by omega) (fun c135 => ?_) (fun c135 => ?_)
        · refine J_iconst dX8_decodes_142 ?_
          refine J_isub dX8_decodes_143 ?_
          refine R_astk_SD 1 dX8_decodes_144 hm rfl (by decide) (fun h hm => ?_)
          refine V_aload_n dX8_decodes_145 rfl ?_
          refine V_get dX8_decodes_146 fX8_25 hm.1 rfl ?_
          refine J_iconst dX8_decodes_149 ?_
          refine V_iload_n dX8_decodes_150 rfl ?_
          refine R_astk_SD 2 dX8_decodes_151 hm rfl (by decide) (fun h hm => ?_)
          exact V_ret dX8_decodes_152 rfl ⟨Nat.zero_le _, Nat.zero_le _⟩ ⟨rfl, rfl, hm.eSD (fun j hj => by unfold dcd; (first | rw [if_pos c29] | (rw [if_neg c29]; first | rw [if_pos c85] | (rw [if_neg c85]; first | rw [if_pos c120] | rw [if_neg c120]))) <;> first | done | rfl | (unfold dcM; rw [if_pos (Or.inl c49)]; done) | (unfold dcM; rw [if_pos (Or.inr c71)]; done) | (unfold dcM; rw [if_neg (fun w => w.elim c49 c71)]; done) | (rw [show cnb (SD 5) (SD 2) = 0 by omega, Int.add_zero]; done) | (rw [show cnb (SD 5) (SD 2) = 1 by omega]; done) | (rw [show cnb (SD 5) (quad sc x) = 0 by omega]; done) | (rw [show cnb (SD 5) (quad sc x) = 1 by omega]; done))⟩
        · refine J_iconst dX8_decodes_138 ?_
          refine V_goto (tgt := 143) dX8_decodes_139 (by decide) ?_
          refine J_isub dX8_decodes_143 ?_
          refine R_astk_SD 1 dX8_decodes_144 hm rfl (by decide) (fun h hm => ?_)
          refine V_aload_n dX8_decodes_145 rfl ?_
          refine V_get dX8_decodes_146 fX8_25 hm.1 rfl ?_
          refine J_iconst dX8_decodes_149 ?_
          refine V_iload_n dX8_decodes_150 rfl ?_
          refine R_astk_SD 2 dX8_decodes_151 hm rfl (by decide) (fun h hm => ?_)
          exact V_ret dX8_decodes_152 rfl ⟨Nat.zero_le _, Nat.zero_le _⟩ ⟨rfl, rfl, hm.eSD (fun j hj => by unfold dcd; (first | rw [if_pos c29] | (rw [if_neg c29]; first | rw [if_pos c85] | (rw [if_neg c85]; first | rw [if_pos c120] | rw [if_neg c120]))) <;> first | done | rfl | (unfold dcM; rw [if_pos (Or.inl c49)]; done) | (unfold dcM; rw [if_pos (Or.inr c71)]; done) | (unfold dcM; rw [if_neg (fun w => w.elim c49 c71)]; done) | (rw [show cnb (SD 5) (SD 2) = 0 by omega, Int.add_zero]; done) | (rw [show cnb (SD 5) (SD 2) = 1 by omega]; done) | (rw [show cnb (SD 5) (quad sc x) = 0 by omega]; done) | (rw [show cnb (SD 5) (quad sc x) = 1 by omega]; done))⟩
    · refine V_aload_n dX8_decodes_88 rfl ?_
      refine V_get dX8_decodes_89 fX8_25 hm.1 rfl ?_
      refine J_iconst dX8_decodes_92 ?_
      refine V_dup2 dX8_decodes_93 rfl rfl ?_
      refine R_aldk_SD 1 dX8_decodes_94 hm rfl (by decide) ?_
      refine V_aload_n dX8_decodes_95 rfl ?_
      refine V_aload_n dX8_decodes_96 rfl ?_
      refine V_get dX8_decodes_97 fX8_25 hm.1 rfl ?_
      refine J_iconst dX8_decodes_100 ?_
      refine R_aldk_SD 2 dX8_decodes_101 hm rfl (by decide) ?_
      refine V_callV (Y' := YX8_isCounted) dX8_decodes_102 lX8_96 gX8_isCounted (m8_isCounted hm (by omega) (by omega)) hm.1 rfl rfl rfl (Nat.le_of_ble_eq_true rfl) ⟨Nat.zero_le _, Nat.zero_le _⟩ (fun v h1 sz1 hq => ?_)
      obtain ⟨rfl, rfl, rfl⟩ := hq
      have hcn102 : 0 ≤ cnb _ _ ∧ cnb _ _ ≤ 1 := cnb_rg (m := SD 5) (b := SD 2)
      refine J_if_eq (tgt := 112) dX8_decodes_105 (by decide) (by omega) (fun c105 => ?_) (fun c105 => ?_)
      · refine J_iconst dX8_decodes_112 ?_
        refine J_iadd dX8_decodes_113 ?_
        refine R_astk_SD 1 dX8_decodes_114 hm rfl (by decide) (fun h hm => ?_)
        refine V_goto (tgt := 145) dX8_decodes_115 (by decide) ?_
        refine V_aload_n dX8_decodes_145 rfl ?_
        refine V_get dX8_decodes_146 fX8_25 hm.1 rfl ?_
        refine J_iconst dX8_decodes_149 ?_
        refine V_iload_n dX8_decodes_150 rfl ?_
        refine R_astk_SD 2 dX8_decodes_151 hm rfl (by decide) (fun h hm => ?_)
        exact V_ret dX8_decodes_152 rfl ⟨Nat.zero_le _, Nat.zero_le _⟩ ⟨rfl, rfl, hm.eSD (fun j hj => by unfold dcd; (first | rw [if_pos c29] | (rw [if_neg c29]; first | rw [if_pos c85] | (rw [if_neg c85]; first | rw [if_pos c120] | rw [if_neg c120]))) <;> first | done | rfl | (unfold dcM; rw [if_pos (Or.inl c49)]; done) | (unfold dcM; rw [if_pos (Or.inr c71)]; done) | (unfold dcM; rw [if_neg (fun w => w.elim c49 c71)]; done) | (rw [show cnb (SD 5) (SD 2) = 0 by omega, Int.add_zero]; done) | (rw [show cnb (SD 5) (SD 2) = 1 by omega]; done) | (rw [show cnb (SD 5) (quad sc x) = 0 by omega]; done) | (rw [show cnb (SD 5) (quad sc x) = 1 by omega]; done))⟩
      · refine J_iconst dX8_decodes_108 ?_
        refine V_goto (tgt := 113) dX8_decodes_109 (by decide) ?_
        refine J_iadd dX8_decodes_113 ?_
        refine R_astk_SD 1 dX8_decodes_114 hm rfl (by decide) (fun h hm => ?_)
        refine V_goto (tgt := 145) dX8_decodes_115 (by decide) ?_
        refine V_aload_n dX8_decodes_145 rfl ?_
        refine V_get dX8_decodes_146 fX8_25 hm.1 rfl ?_
        refine J_iconst dX8_decodes_149 ?_
        refine V_iload_n dX8_decodes_150 rfl ?_
        refine R_astk_SD 2 dX8_decodes_151 hm rfl (by decide) (fun h hm => ?_)
        exact V_ret dX8_decodes_152 rfl ⟨Nat.zero_le _, Nat.zero_le _⟩ ⟨rfl, rfl, hm.eSD (fun j hj => by unfold dcd; (first | rw [if_pos c29] | (rw [if_neg c29]; first | rw [if_pos c85] | (rw [if_neg c85]; first | rw [if_pos c120] | rw [if_neg c120]))) <;> first | done | rfl | (unfold dcM; rw [if_pos (Or.inl c49)]; done) | (unfold dcM; rw [if_pos (Or.inr c71)]; done) | (unfold dcM; rw [if_neg (fun w => w.elim c49 c71)]; done) | (rw [show cnb (SD 5) (SD 2) = 0 by omega, Int.add_zero]; done) | (rw [show cnb (SD 5) (SD 2) = 1 by omega]; done) | (rw [show cnb (SD 5) (quad sc x) = 0 by omega]; done) | (rw [show cnb (SD 5) (quad sc x) = 1 by omega]; done))⟩
  · refine V_aload_n dX8_decodes_32 rfl ?_
    refine V_get dX8_decodes_33 fX8_25 hm.1 rfl ?_
    refine J_iconst dX8_decodes_36 ?_
    refine V_dup2 dX8_decodes_37 rfl rfl ?_
    refine R_aldk_SD 3 dX8_decodes_38 hm rfl (by decide) ?_
    refine J_iconst dX8_decodes_39 ?_
    refine J_iadd dX8_decodes_40 ?_
    refine R_astk_SD 3 dX8_decodes_41 hm rfl (by decide) (fun h hm => ?_)
    refine V_aload_n dX8_decodes_42 rfl ?_
    refine V_get dX8_decodes_43 fX8_25 hm.1 rfl ?_
    refine J_bipush dX8_decodes_46 (by decide) ?_
    refine R_aldk_SD 17 dX8_decodes_48 hm rfl (by decide) ?_
    change V z YX8_decodes _ _ _ _ (.int (I (SD 17)) :: _) _ _ _ _
    refine J_if_eq (tgt := 74) dX8_decodes_49 (by decide) (by omega) (fun c49 => ?_) (fun c49 => ?_)
    · refine V_aload_n dX8_decodes_74 rfl ?_
      refine J_iconst dX8_decodes_75 ?_
      refine V_iload_n dX8_decodes_76 rfl ?_
      refine V_callV (Y' := YX8_logs) dX8_decodes_77 lX8_92 gX8_logs (m8_logs hm (by first | omega | exact hr17)) hm.1 rfl rfl rfl (Nat.le_of_ble_eq_true rfl) ⟨Nat.zero_le _, Nat.zero_le _⟩ (fun v h1 sz1 hq => ?_)
      obtain ⟨rfl, rfl, hm⟩ := hq
      refine V_goto (tgt := 145) dX8_decodes_80 (by decide) ?_
      refine V_aload_n dX8_decodes_145 rfl ?_
      refine V_get dX8_decodes_146 fX8_25 hm.1 rfl ?_
      refine J_iconst dX8_decodes_149 ?_
      refine V_iload_n dX8_decodes_150 rfl ?_
      refine R_astk_SD 2 dX8_decodes_151 hm rfl (by decide) (fun h hm => ?_)
      exact V_ret dX8_decodes_152 rfl ⟨Nat.zero_le _, Nat.zero_le _⟩ ⟨rfl, rfl, hm.eSD (fun j hj => by unfold dcd; (first | rw [if_pos c29] | (rw [if_neg c29]; first | rw [if_pos c85] | (rw [if_neg c85]; first | rw [if_pos c120] | rw [if_neg c120]))) <;> first | done | rfl | (unfold dcM; rw [if_pos (Or.inl c49)]; done) | (unfold dcM; rw [if_pos (Or.inr c71)]; done) | (unfold dcM; rw [if_neg (fun w => w.elim c49 c71)]; done) | (rw [show cnb (SD 5) (SD 2) = 0 by omega, Int.add_zero]; done) | (rw [show cnb (SD 5) (SD 2) = 1 by omega]; done) | (rw [show cnb (SD 5) (quad sc x) = 0 by omega]; done) | (rw [show cnb (SD 5) (quad sc x) = 1 by omega]; done))⟩
    · refine V_aload_n dX8_decodes_52 rfl ?_
      refine V_get dX8_decodes_53 fX8_25 hm.1 rfl ?_
      refine J_bipush dX8_decodes_56 (by decide) ?_
      refine J_iconst dX8_decodes_58 ?_
      refine V_aload_n dX8_decodes_59 rfl ?_
      refine V_get dX8_decodes_60 fX8_25 hm.1 rfl ?_
      refine J_bipush dX8_decodes_63 (by decide) ?_
      refine R_aldk_SD 17 dX8_decodes_65 hm rfl (by decide) ?_
      change V z YX8_decodes _ _ _ _ (.int (I (SD 17)) :: _) _ _ _ _
      refine J_imul dX8_decodes_66 ?_
      refine J_iadd dX8_decodes_67 ?_
      refine J_iconst dX8_decodes_68 ?_
      refine J_isub dX8_decodes_69 ?_
      refine R_ald_SD dX8_decodes_70 hm (by omega) ?_
      have hv : va_up SD 3 (SD 3 + 1) (18 + 3 * SD 17 - 3).toNat = SD (18 + 3 * SD 17 - 3).toNat := if_neg (by omega)
      rw [hv]
      have hke := hre (SD 17 - 1).toNat (by omega)
      rw [show 18 + 3 * (SD 17 - 1).toNat = (18 + 3 * SD 17 - 3).toNat by omega] at hke
      refine J_if_ne (tgt := 145) dX8_decodes_71 (by decide) (by omega) (fun c71 => ?_) (fun c71 => ?_)
      · refine V_aload_n dX8_decodes_145 rfl ?_
        refine V_get dX8_decodes_146 fX8_25 hm.1 rfl ?_
        refine J_iconst dX8_decodes_149 ?_
        refine V_iload_n dX8_decodes_150 rfl ?_
        refine R_astk_SD 2 dX8_decodes_151 hm rfl (by decide) (fun h hm => ?_)
        exact V_ret dX8_decodes_152 rfl ⟨Nat.zero_le _, Nat.zero_le _⟩ ⟨rfl, rfl, hm.eSD (fun j hj => by unfold dcd; (first | rw [if_pos c29] | (rw [if_neg c29]; first | rw [if_pos c85] | (rw [if_neg c85]; first | rw [if_pos c120] | rw [if_neg c120]))) <;> first | done | rfl | (unfold dcM; rw [if_pos (Or.inl c49)]; done) | (unfold dcM; rw [if_pos (Or.inr c71)]; done) | (unfold dcM; rw [if_neg (fun w => w.elim c49 c71)]; done) | (rw [show cnb (SD 5) (SD 2) = 0 by omega, Int.add_zero]; done) | (rw [show cnb (SD 5) (SD 2) = 1 by omega]; done) | (rw [show cnb (SD 5) (quad sc x) = 0 by omega]; done) | (rw [show cnb (SD 5) (quad sc x) = 1 by omega]; done))⟩
      · refine V_aload_n dX8_decodes_74 rfl ?_
        refine J_iconst dX8_decodes_75 ?_
        refine V_iload_n dX8_decodes_76 rfl ?_
        refine V_callV (Y' := YX8_logs) dX8_decodes_77 lX8_92 gX8_logs (m8_logs hm (by first | omega | exact hr17)) hm.1 rfl rfl rfl (Nat.le_of_ble_eq_true rfl) ⟨Nat.zero_le _, Nat.zero_le _⟩ (fun v h1 sz1 hq => ?_)
        obtain ⟨rfl, rfl, hm⟩ := hq
        refine V_goto (tgt := 145) dX8_decodes_80 (by decide) ?_
        refine V_aload_n dX8_decodes_145 rfl ?_
        refine V_get dX8_decodes_146 fX8_25 hm.1 rfl ?_
        refine J_iconst dX8_decodes_149 ?_
        refine V_iload_n dX8_decodes_150 rfl ?_
        refine R_astk_SD 2 dX8_decodes_151 hm rfl (by decide) (fun h hm => ?_)
        exact V_ret dX8_decodes_152 rfl ⟨Nat.zero_le _, Nat.zero_le _⟩ ⟨rfl, rfl, hm.eSD (fun j hj => by unfold dcd; (first | rw [if_pos c29] | (rw [if_neg c29]; first | rw [if_pos c85] | (rw [if_neg c85]; first | rw [if_pos c120] | rw [if_neg c120]))) <;> first | done | rfl | (unfold dcM; rw [if_pos (Or.inl c49)]; done) | (unfold dcM; rw [if_pos (Or.inr c71)]; done) | (unfold dcM; rw [if_neg (fun w => w.elim c49 c71)]; done) | (rw [show cnb (SD 5) (SD 2) = 0 by omega, Int.add_zero]; done) | (rw [show cnb (SD 5) (SD 2) = 1 by omega]; done) | (rw [show cnb (SD 5) (quad sc x) = 0 by omega]; done) | (rw [show cnb (SD 5) (quad sc x) = 1 by omega]; done))⟩
