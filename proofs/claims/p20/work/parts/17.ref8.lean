/-! THE REFERENCE: bright cells, fringes -/
theorem V_under {z : ZG} {Y : ZM} {R : Room} {Q : ZQ} {pc : Nat} {L : AL} {st : List Value} {h : AH} {sz kc nc : Nat} {x : Value} {a b : Int} (e : a = b) (k : V z Y R Q pc L (x :: .int (I b) :: st) h sz kc nc) : V z Y R Q pc L (x :: .int (I a) :: st) h sz kc nc := by rw [e]; exact k
def brt (sc : Int) (N : Nat → Int) (c : Int) : Int := if sc / 2 ≤ (N 0 + c) % sc ∧ N 6 / 2 ≤ (c + N 7) % N 6 then 1 else 0
def brs (sc : Int) (N : Nat → Int) (a : Int) : Nat → Int
  | 0 => 0
  | k + 1 => brs sc N a k + brt sc N (a + k)
theorem brs_s {sc : Int} {N : Nat → Int} {a : Int} {k : Nat} : brs sc N a (k + 1) = brs sc N a k + brt sc N (a + k) := rfl
theorem brs_rg {sc : Int} {N : Nat → Int} {a : Int} : ∀ k : Nat, 0 ≤ brs sc N a k ∧ brs sc N a k ≤ k := by
  intro k
  induction k with
  | zero => exact ⟨Int.le_refl _, Int.le_refl _⟩
  | succ k ih =>
    rw [brs_s]
    have : 0 ≤ brt sc N (a + k) ∧ brt sc N (a + k) ≤ 1 := by unfold brt; split <;> omega
    omega
set_option maxHeartbeats 4000000 in
set_option maxRecDepth 100000 in
theorem l8_brightIn_5 {z : ZG} {d sz r n s : Nat} {g h : AH} {l sp nu rs rm sc mk km : Int} {T RA RD MA NW SD KP : Nat → Int} {a wd : Int} (ha : 0 ≤ a ∧ a ≤ 100000) (hw : 0 ≤ wd ∧ wd ≤ 1000) (hm : MS g r n s l sp nu rs rm sc mk km T RA RD MA NW SD KP h) (hs : 8 ≤ sc ∧ sc ≤ 80) (hr : rok NW) : ∀ (f : Nat) (c v : Int) (o5 : Option Value), a ≤ c → c ≤ a + wd → a + wd - c < f → v = brs sc NW a (c - a).toNat → V z YX8_brightIn (zroom d 0 0) (fun w h' sz' => w = some (.int (I (brs sc NW a wd.toNat))) ∧ h' = h ∧ sz' = sz) 5 [some (.ref r), some (.int (I a)), some (.int (I wd)), some (.int (I v)), some (.int (I c)), o5] [] h sz 0 0 := by
  intro f
  induction f with
  | zero => intro c v o5 h1 h2 h3; omega
  | succ f ih =>
    intro c v o5 h1 h2 h3 hv
    have hr0 := hr.1
    have hr6 := hr.2.2.2.1
    have hr7 := hr.2.2.2.2.1
    have hvr := brs_rg (sc := sc) (N := NW) (a := a) (c - a).toNat
    have e1 : 0 ≤ (NW 0 + c) % sc ∧ (NW 0 + c) % sc < sc := ⟨Int.emod_nonneg _ (by omega), Int.emod_lt_of_pos _ (by omega)⟩
    have e2 : 0 ≤ (c + NW 7) % NW 6 ∧ (c + NW 7) % NW 6 < NW 6 := ⟨Int.emod_nonneg _ (by omega), Int.emod_lt_of_pos _ (by omega)⟩
    have hst : brs sc NW a (c + 1 - a).toNat = v + brt sc NW c := by
      rw [show (c + 1 - a).toNat = (c - a).toNat + 1 by omega, brs_s, hv, show a + ((c - a).toNat : Int) = c by omega]
    refine V_iload dX8_brightIn_5 rfl ?_
    refine V_iload_n dX8_brightIn_7 rfl ?_
    refine V_iload_n dX8_brightIn_8 rfl ?_
    refine J_iadd dX8_brightIn_9 ?_
    refine J_icmp_ge (tgt := 92) dX8_brightIn_10 (by decide) (by omega) (by omega) (fun c10 => ?_) (fun c10 => ?_)
    · refine V_iload_n dX8_brightIn_92 rfl ?_
      exact V_iret dX8_brightIn_93 rfl rfl ⟨Nat.zero_le _, Nat.zero_le _⟩ ⟨by rw [hv, show c - a = wd by omega], rfl, rfl⟩
    · refine V_aload_n dX8_brightIn_13 rfl ?_
      refine V_get dX8_brightIn_14 fX8_22 hm.1 rfl ?_
      refine J_iconst dX8_brightIn_17 ?_
      refine R_aldk_NW 0 dX8_brightIn_18 hm rfl (by decide) ?_
      refine V_iload dX8_brightIn_19 rfl ?_
      refine J_iadd dX8_brightIn_21 ?_
      refine V_aload_n dX8_brightIn_22 rfl ?_
      refine V_get dX8_brightIn_23 fX8_44 hm.1 rfl ?_
      refine J_irem dX8_brightIn_26 (by omega) (by omega) ?_
      refine V_aload_n dX8_brightIn_27 rfl ?_
      refine V_get dX8_brightIn_28 fX8_44 hm.1 rfl ?_
      refine J_iconst dX8_brightIn_31 ?_
      refine J_idiv dX8_brightIn_32 (by omega) (by omega) ?_
      refine J_icmp_lt (tgt := 70) dX8_brightIn_33 (by decide) (by omega) (by omega) (fun c33 => ?_) (fun c33 => ?_)
      · refine J_iconst dX8_brightIn_70 ?_
        refine V_istore dX8_brightIn_71 (Nat.le_of_ble_eq_true rfl) ?_
        refine V_iload_n dX8_brightIn_73 rfl ?_
        refine V_iload dX8_brightIn_74 rfl ?_
        refine J_if_eq (tgt := 83) dX8_brightIn_76 (by decide) (by omega) (fun c76 => ?_) (fun c76 => ?_)
        · refine J_iconst dX8_brightIn_83 ?_
          refine J_iadd dX8_brightIn_84 ?_
          refine V_istore_n dX8_brightIn_85 (Nat.le_of_ble_eq_true rfl) ?_
          refine J_iinc dX8_brightIn_86 rfl ?_
          refine V_goto (tgt := 5) dX8_brightIn_89 (by decide) ?_
          first | (exfalso; omega) | exact ih (c + 1) _ _ (by omega) (by omega) (by omega) (by rw [hst]; unfold brt; first | rw [if_pos (by omega)] | rw [if_neg (by omega)])
        · refine J_iconst dX8_brightIn_79 ?_
          refine V_goto (tgt := 84) dX8_brightIn_80 (by decide) ?_
          refine J_iadd dX8_brightIn_84 ?_
          refine V_istore_n dX8_brightIn_85 (Nat.le_of_ble_eq_true rfl) ?_
          refine J_iinc dX8_brightIn_86 rfl ?_
          refine V_goto (tgt := 5) dX8_brightIn_89 (by decide) ?_
          first | (exfalso; omega) | exact ih (c + 1) _ _ (by omega) (by omega) (by omega) (by rw [hst]; unfold brt; first | rw [if_pos (by omega)] | rw [if_neg (by omega)])
      · refine V_iload dX8_brightIn_36 rfl ?_
        refine V_aload_n dX8_brightIn_38 rfl ?_
        refine V_get dX8_brightIn_39 fX8_22 hm.1 rfl ?_
        refine J_bipush dX8_brightIn_42 (by decide) ?_
        refine R_aldk_NW 7 dX8_brightIn_44 hm rfl (by decide) ?_
        refine J_iadd dX8_brightIn_45 ?_
        refine V_aload_n dX8_brightIn_46 rfl ?_
        refine V_get dX8_brightIn_47 fX8_22 hm.1 rfl ?_
        refine J_bipush dX8_brightIn_50 (by decide) ?_
        refine R_aldk_NW 6 dX8_brightIn_52 hm rfl (by decide) ?_
        refine J_irem dX8_brightIn_53 (by omega) (by omega) ?_
        refine V_aload_n dX8_brightIn_54 rfl ?_
        refine V_get dX8_brightIn_55 fX8_22 hm.1 rfl ?_
        refine J_bipush dX8_brightIn_58 (by decide) ?_
        refine R_aldk_NW 6 dX8_brightIn_60 hm rfl (by decide) ?_
        refine J_iconst dX8_brightIn_61 ?_
        refine J_idiv dX8_brightIn_62 (by omega) (by omega) ?_
        refine J_icmp_lt (tgt := 70) dX8_brightIn_63 (by decide) (by omega) (by omega) (fun c63 => ?_) (fun c63 => ?_)
        · refine J_iconst dX8_brightIn_70 ?_
          refine V_istore dX8_brightIn_71 (Nat.le_of_ble_eq_true rfl) ?_
          refine V_iload_n dX8_brightIn_73 rfl ?_
          refine V_iload dX8_brightIn_74 rfl ?_
          refine J_if_eq (tgt := 83) dX8_brightIn_76 (by decide) (by omega) (fun c76 => ?_) (fun c76 => ?_)
          · refine J_iconst dX8_brightIn_83 ?_
            refine J_iadd dX8_brightIn_84 ?_
            refine V_istore_n dX8_brightIn_85 (Nat.le_of_ble_eq_true rfl) ?_
            refine J_iinc dX8_brightIn_86 rfl ?_
            refine V_goto (tgt := 5) dX8_brightIn_89 (by decide) ?_
            first | (exfalso; omega) | exact ih (c + 1) _ _ (by omega) (by omega) (by omega) (by rw [hst]; unfold brt; first | rw [if_pos (by omega)] | rw [if_neg (by omega)])
          · refine J_iconst dX8_brightIn_79 ?_
            refine V_goto (tgt := 84) dX8_brightIn_80 (by decide) ?_
            refine J_iadd dX8_brightIn_84 ?_
            refine V_istore_n dX8_brightIn_85 (Nat.le_of_ble_eq_true rfl) ?_
            refine J_iinc dX8_brightIn_86 rfl ?_
            refine V_goto (tgt := 5) dX8_brightIn_89 (by decide) ?_
            first | (exfalso; omega) | exact ih (c + 1) _ _ (by omega) (by omega) (by omega) (by rw [hst]; unfold brt; first | rw [if_pos (by omega)] | rw [if_neg (by omega)])
        · refine J_iconst dX8_brightIn_66 ?_
          refine V_goto (tgt := 71) dX8_brightIn_67 (by decide) ?_
          refine V_istore dX8_brightIn_71 (Nat.le_of_ble_eq_true rfl) ?_
          refine V_iload_n dX8_brightIn_73 rfl ?_
          refine V_iload dX8_brightIn_74 rfl ?_
          refine J_if_eq (tgt := 83) dX8_brightIn_76 (by decide) (by omega) (fun c76 => ?_) (fun c76 => ?_)
          · refine J_iconst dX8_brightIn_83 ?_
            refine J_iadd dX8_brightIn_84 ?_
            refine V_istore_n dX8_brightIn_85 (Nat.le_of_ble_eq_true rfl) ?_
            refine J_iinc dX8_brightIn_86 rfl ?_
            refine V_goto (tgt := 5) dX8_brightIn_89 (by decide) ?_
            first | (exfalso; omega) | exact ih (c + 1) _ _ (by omega) (by omega) (by omega) (by rw [hst]; unfold brt; first | rw [if_pos (by omega)] | rw [if_neg (by omega)])
          · refine J_iconst dX8_brightIn_79 ?_
            refine V_goto (tgt := 84) dX8_brightIn_80 (by decide) ?_
            refine J_iadd dX8_brightIn_84 ?_
            refine V_istore_n dX8_brightIn_85 (Nat.le_of_ble_eq_true rfl) ?_
            refine J_iinc dX8_brightIn_86 rfl ?_
            refine V_goto (tgt := 5) dX8_brightIn_89 (by decide) ?_
            first | (exfalso; omega) | exact ih (c + 1) _ _ (by omega) (by omega) (by omega) (by rw [hst]; unfold brt; first | rw [if_pos (by omega)] | rw [if_neg (by omega)])
set_option maxHeartbeats 4000000 in
set_option maxRecDepth 100000 in
theorem m8_brightIn {z : ZG} {d sz r n s : Nat} {g h : AH} {l sp nu rs rm sc mk km : Int} {T RA RD MA NW SD KP : Nat → Int} {a wd : Int} (ha : 0 ≤ a ∧ a ≤ 100000) (hw : 0 ≤ wd ∧ wd ≤ 1000) (hm : MS g r n s l sp nu rs rm sc mk km T RA RD MA NW SD KP h) (hs : 8 ≤ sc ∧ sc ≤ 80) (hr : rok NW) : M z YX8_brightIn d 0 0 [.ref r, .int (I a), .int (I wd)] h sz (fun w h' sz' => w = some (.int (I (brs sc NW a wd.toNat))) ∧ h' = h ∧ sz' = sz) := by
  refine M.of (by decide +kernel) (Nat.le_of_ble_eq_true rfl) ?_
  refine J_iconst dX8_brightIn_0 ?_
  refine V_istore_n dX8_brightIn_1 (Nat.le_of_ble_eq_true rfl) ?_
  refine V_iload_n dX8_brightIn_2 rfl ?_
  refine V_istore dX8_brightIn_3 (Nat.le_of_ble_eq_true rfl) ?_
  exact l8_brightIn_5 ha hw hm hs hr 1002 a 0 _ (by omega) (by omega) (by omega) (by rw [show (a - a).toNat = 0 by omega]; rfl)
set_option maxHeartbeats 4000000 in
set_option maxRecDepth 100000 in
theorem m8_brightness {z : ZG} {d sz r n s : Nat} {g h : AH} {l sp nu rs rm sc mk km : Int} {T RA RD MA NW SD KP : Nat → Int} {a wd : Int} (ha : -2147483648 ≤ a ∧ a < 2147483648) (hw : -2147483648 ≤ wd ∧ wd < 2147483648) (hm : MS g r n s l sp nu rs rm sc mk km T RA RD MA NW SD KP h) (hs : 8 ≤ sc ∧ sc ≤ 80) (hr : rok NW) : M z YX8_brightness (d + 1) 0 0 [.ref r, .int (I a), .int (I wd)] h sz (fun w h' sz' => ∃ v : Int, w = some (.int (I v)) ∧ ((v = brs sc NW a wd.toNat ∧ (0 ≤ a ∧ a ≤ 999) ∧ 1 ≤ wd ∧ wd ≤ 200) ∨ (v = -1 ∧ ¬ ((0 ≤ a ∧ a ≤ 999) ∧ 1 ≤ wd ∧ wd ≤ 200))) ∧ h' = h ∧ sz' = sz) := by
  refine M.of (by decide +kernel) (Nat.le_of_ble_eq_true rfl) ?_
  refine V_iload_n dX8_brightness_0 rfl ?_
  refine J_i2l dX8_brightness_1 (by omega) ?_
  refine J_lconst0 dX8_brightness_2 ?_
  refine J_ldc2 999 dX8_brightness_3 cX8_164 rfl ?_
  refine V_callS (Y' := YX8_in) dX8_brightness_6 lX8_57 gX8_in (m8_in (by omega) (by omega) (by omega)) rfl rfl (Nat.le_of_ble_eq_true rfl) ⟨Nat.zero_le _, Nat.zero_le _⟩ (fun v h1 sz1 hq => ?_)
  obtain ⟨t6, rfl, ht6, rfl, rfl⟩ := hq
  refine J_if_eq (tgt := 33) dX8_brightness_9 (by decide) (by omega) (fun c9 => ?_) (fun c9 => ?_)
  · refine J_iconst dX8_brightness_33 ?_
    exact V_iret dX8_brightness_34 rfl rfl ⟨Nat.zero_le _, Nat.zero_le _⟩ ⟨_, rfl, by first | exact Or.inl ⟨rfl, by omega⟩ | exact Or.inr ⟨rfl, by omega⟩, rfl, rfl⟩
  · refine V_iload_n dX8_brightness_12 rfl ?_
    refine J_i2l dX8_brightness_13 (by omega) ?_
    refine J_lconst1 dX8_brightness_14 ?_
    refine J_ldc2 200 dX8_brightness_15 cX8_166 rfl ?_
    refine V_callS (Y' := YX8_in) dX8_brightness_18 lX8_57 gX8_in (m8_in (by omega) (by omega) (by omega)) rfl rfl (Nat.le_of_ble_eq_true rfl) ⟨Nat.zero_le _, Nat.zero_le _⟩ (fun v h1 sz1 hq => ?_)
    obtain ⟨t18, rfl, ht18, rfl, rfl⟩ := hq
    refine J_if_eq (tgt := 33) dX8_brightness_21 (by decide) (by omega) (fun c21 => ?_) (fun c21 => ?_)
    · refine J_iconst dX8_brightness_33 ?_
      exact V_iret dX8_brightness_34 rfl rfl ⟨Nat.zero_le _, Nat.zero_le _⟩ ⟨_, rfl, by first | exact Or.inl ⟨rfl, by omega⟩ | exact Or.inr ⟨rfl, by omega⟩, rfl, rfl⟩
    · refine V_aload_n dX8_brightness_24 rfl ?_
      refine V_iload_n dX8_brightness_25 rfl ?_
      refine V_iload_n dX8_brightness_26 rfl ?_
      refine V_callV (Y' := YX8_brightIn) dX8_brightness_27 lX8_168 gX8_brightIn (m8_brightIn (by omega) (by omega) hm hs hr) hm.1 rfl rfl rfl (Nat.le_of_ble_eq_true rfl) ⟨Nat.zero_le _, Nat.zero_le _⟩ (fun v h1 sz1 hq => ?_)
      obtain ⟨rfl, rfl, rfl⟩ := hq
      refine V_goto (tgt := 34) dX8_brightness_30 (by decide) ?_
      exact V_iret dX8_brightness_34 rfl rfl ⟨Nat.zero_le _, Nat.zero_le _⟩ ⟨_, rfl, by first | exact Or.inl ⟨rfl, by omega⟩ | exact Or.inr ⟨rfl, by omega⟩, rfl, rfl⟩
/-- the brightest start so far, and how bright -/
def bb (sc : Int) (N : Nat → Int) (wd : Nat) : Nat → Int × Int
  | 0 => (0, -1)
  | k + 1 => if (bb sc N wd k).2 < brs sc N k wd then ((k : Int), brs sc N k wd) else bb sc N wd k
theorem bb_s {sc : Int} {N : Nat → Int} {wd k : Nat} : bb sc N wd (k + 1) = if (bb sc N wd k).2 < brs sc N k wd then ((k : Int), brs sc N k wd) else bb sc N wd k := rfl
theorem bb_rg {sc : Int} {N : Nat → Int} {wd : Nat} : ∀ k : Nat, (0 ≤ (bb sc N wd k).1 ∧ (bb sc N wd k).1 ≤ k) ∧ (-1 ≤ (bb sc N wd k).2 ∧ (bb sc N wd k).2 ≤ wd) := by
  intro k
  induction k with
  | zero => exact ⟨⟨Int.le_refl _, Int.le_refl _⟩, ⟨Int.le_refl _, by show (-1 : Int) ≤ wd; omega⟩⟩
  | succ k ih =>
    rw [bb_s]
    have := brs_rg (sc := sc) (N := N) (a := k) wd
    split
    · exact ⟨⟨by show (0 : Int) ≤ k; omega, by show (k : Int) ≤ (k + 1 : Nat); omega⟩, ⟨by show -1 ≤ brs sc N k wd; omega, this.2⟩⟩
    · omega
set_option maxHeartbeats 4000000 in
set_option maxRecDepth 100000 in
theorem l8_bs_21 {z : ZG} {d sz r n s : Nat} {g h : AH} {l sp nu rs rm sc mk km : Int} {T RA RD MA NW SD KP : Nat → Int} {wd : Nat} (hw : 1 ≤ wd ∧ wd ≤ 200) (hm : MS g r n s l sp nu rs rm sc mk km T RA RD MA NW SD KP h) (hs : 8 ≤ sc ∧ sc ≤ 80) (hr : rok NW) : ∀ (f k : Nat) (best most : Int) (o5 : Option Value), k ≤ 200 → 200 - k < f → best = (bb sc NW wd k).1 → most = (bb sc NW wd k).2 → V z YX8_brightestStart (zroom (d + 1) 0 0) (fun w h' sz' => w = some (.int (I (bb sc NW wd 200).1)) ∧ h' = h ∧ sz' = sz) 21 [some (.ref r), some (.int (I (wd : Int))), some (.int (I best)), some (.int (I most)), some (.int (I (k : Int))), o5] [] h sz 0 0 := by
  intro f
  induction f with
  | zero => intro k best most o5 h1 h2; omega
  | succ f ih =>
    intro k best most o5 h1 h2 hb hmo
    have hbr := bb_rg (sc := sc) (N := NW) (wd := wd) k
    have hn := brs_rg (sc := sc) (N := NW) (a := k) wd
    have hst := bb_s (sc := sc) (N := NW) (wd := wd) (k := k)
    refine V_iload dX8_brightestStart_21 rfl ?_
    refine J_sipush dX8_brightestStart_23 (by decide) ?_
    refine J_icmp_ge (tgt := 70) dX8_brightestStart_26 (by decide) (by omega) (by omega) (fun c26 => ?_) (fun c26 => ?_)
    · refine V_iload_n dX8_brightestStart_70 rfl ?_
      exact V_iret dX8_brightestStart_71 rfl rfl ⟨Nat.zero_le _, Nat.zero_le _⟩ ⟨by rw [hb, show k = 200 by omega], rfl, rfl⟩
    · refine V_aload_n dX8_brightestStart_29 rfl ?_
      refine V_iload dX8_brightestStart_30 rfl ?_
      refine V_iload_n dX8_brightestStart_32 rfl ?_
      refine V_callV (Y' := YX8_brightIn) dX8_brightestStart_33 lX8_168 gX8_brightIn (m8_brightIn (by omega) (by omega) hm hs hr) hm.1 rfl rfl rfl (Nat.le_of_ble_eq_true rfl) ⟨Nat.zero_le _, Nat.zero_le _⟩ (fun v h1 sz1 hq => ?_)
      obtain ⟨rfl, rfl, rfl⟩ := hq
      rw [show ((wd : Int).toNat) = wd from Int.toNat_natCast wd]
      refine V_istore dX8_brightestStart_36 (Nat.le_of_ble_eq_true rfl) ?_
      refine V_iload dX8_brightestStart_38 rfl ?_
      refine V_iload_n dX8_brightestStart_40 rfl ?_
      refine J_icmp_le (tgt := 49) dX8_brightestStart_41 (by decide) (by omega) (by omega) (fun c41 => ?_) (fun c41 => ?_)
      · refine V_iload_n dX8_brightestStart_49 rfl ?_
        refine V_istore_n dX8_brightestStart_50 (Nat.le_of_ble_eq_true rfl) ?_
        refine V_iload dX8_brightestStart_51 rfl ?_
        refine V_iload_n dX8_brightestStart_53 rfl ?_
        refine J_icmp_le (tgt := 62) dX8_brightestStart_54 (by decide) (by omega) (by omega) (fun c54 => ?_) (fun c54 => ?_)
        · refine V_iload_n dX8_brightestStart_62 rfl ?_
          refine V_istore_n dX8_brightestStart_63 (Nat.le_of_ble_eq_true rfl) ?_
          refine J_iinc dX8_brightestStart_64 rfl ?_
          refine V_goto (tgt := 21) dX8_brightestStart_67 (by decide) ?_
          first | (exfalso; omega) | exact ih (k + 1) _ _ _ (by omega) (by omega) (by rw [hst, if_pos (by omega)]) (by rw [hst, if_pos (by omega)]) | exact ih (k + 1) _ _ _ (by omega) (by omega) (by rw [hst, if_neg (by omega)]; exact hb) (by rw [hst, if_neg (by omega)]; exact hmo)
        · refine V_iload dX8_brightestStart_57 rfl ?_
          refine V_goto (tgt := 63) dX8_brightestStart_59 (by decide) ?_
          refine V_istore_n dX8_brightestStart_63 (Nat.le_of_ble_eq_true rfl) ?_
          refine J_iinc dX8_brightestStart_64 rfl ?_
          refine V_goto (tgt := 21) dX8_brightestStart_67 (by decide) ?_
          first | (exfalso; omega) | exact ih (k + 1) _ _ _ (by omega) (by omega) (by rw [hst, if_pos (by omega)]) (by rw [hst, if_pos (by omega)]) | exact ih (k + 1) _ _ _ (by omega) (by omega) (by rw [hst, if_neg (by omega)]; exact hb) (by rw [hst, if_neg (by omega)]; exact hmo)
      · refine V_iload dX8_brightestStart_44 rfl ?_
        refine V_goto (tgt := 50) dX8_brightestStart_46 (by decide) ?_
        refine V_istore_n dX8_brightestStart_50 (Nat.le_of_ble_eq_true rfl) ?_
        refine V_iload dX8_brightestStart_51 rfl ?_
        refine V_iload_n dX8_brightestStart_53 rfl ?_
        refine J_icmp_le (tgt := 62) dX8_brightestStart_54 (by decide) (by omega) (by omega) (fun c54 => ?_) (fun c54 => ?_)
        · refine V_iload_n dX8_brightestStart_62 rfl ?_
          refine V_istore_n dX8_brightestStart_63 (Nat.le_of_ble_eq_true rfl) ?_
          refine J_iinc dX8_brightestStart_64 rfl ?_
          refine V_goto (tgt := 21) dX8_brightestStart_67 (by decide) ?_
          first | (exfalso; omega) | exact ih (k + 1) _ _ _ (by omega) (by omega) (by rw [hst, if_pos (by omega)]) (by rw [hst, if_pos (by omega)]) | exact ih (k + 1) _ _ _ (by omega) (by omega) (by rw [hst, if_neg (by omega)]; exact hb) (by rw [hst, if_neg (by omega)]; exact hmo)
        · refine V_iload dX8_brightestStart_57 rfl ?_
          refine V_goto (tgt := 63) dX8_brightestStart_59 (by decide) ?_
          refine V_istore_n dX8_brightestStart_63 (Nat.le_of_ble_eq_true rfl) ?_
          refine J_iinc dX8_brightestStart_64 rfl ?_
          refine V_goto (tgt := 21) dX8_brightestStart_67 (by decide) ?_
          first | (exfalso; omega) | exact ih (k + 1) _ _ _ (by omega) (by omega) (by rw [hst, if_pos (by omega)]) (by rw [hst, if_pos (by omega)]) | exact ih (k + 1) _ _ _ (by omega) (by omega) (by rw [hst, if_neg (by omega)]; exact hb) (by rw [hst, if_neg (by omega)]; exact hmo)
set_option maxHeartbeats 4000000 in
set_option maxRecDepth 100000 in
theorem m8_brightestStart {z : ZG} {d sz r n s : Nat} {g h : AH} {l sp nu rs rm sc mk km : Int} {T RA RD MA NW SD KP : Nat → Int} {wd : Int} (hw : -2147483648 ≤ wd ∧ wd < 2147483648) (hm : MS g r n s l sp nu rs rm sc mk km T RA RD MA NW SD KP h) (hs : 8 ≤ sc ∧ sc ≤ 80) (hr : rok NW) : M z YX8_brightestStart (d + 1) 0 0 [.ref r, .int (I wd)] h sz (fun w h' sz' => ∃ v : Int, w = some (.int (I v)) ∧ ((v = (bb sc NW wd.toNat 200).1 ∧ 1 ≤ wd ∧ wd ≤ 200) ∨ (v = -1 ∧ ¬ (1 ≤ wd ∧ wd ≤ 200))) ∧ h' = h ∧ sz' = sz) := by
  refine M.of (by decide +kernel) (Nat.le_of_ble_eq_true rfl) ?_
  refine V_iload_n dX8_brightestStart_0 rfl ?_
  refine J_i2l dX8_brightestStart_1 (by omega) ?_
  refine J_lconst1 dX8_brightestStart_2 ?_
  refine J_ldc2 200 dX8_brightestStart_3 cX8_166 rfl ?_
  refine V_callS (Y' := YX8_in) dX8_brightestStart_6 lX8_57 gX8_in (m8_in (by omega) (by omega) (by omega)) rfl rfl (Nat.le_of_ble_eq_true rfl) ⟨Nat.zero_le _, Nat.zero_le _⟩ (fun v h1 sz1 hq => ?_)
  obtain ⟨t6, rfl, ht6, rfl, rfl⟩ := hq
  refine J_if_ne (tgt := 14) dX8_brightestStart_9 (by decide) (by omega) (fun c9 => ?_) (fun c9 => ?_)
  · refine J_iconst dX8_brightestStart_14 ?_
    refine V_istore_n dX8_brightestStart_15 (Nat.le_of_ble_eq_true rfl) ?_
    refine J_iconst dX8_brightestStart_16 ?_
    refine V_istore_n dX8_brightestStart_17 (Nat.le_of_ble_eq_true rfl) ?_
    refine J_iconst dX8_brightestStart_18 ?_
    refine V_istore dX8_brightestStart_19 (Nat.le_of_ble_eq_true rfl) ?_
    obtain ⟨q, rfl⟩ : ∃ q : Nat, wd = q := ⟨wd.toNat, by omega⟩
    refine V_mono ?_ (l8_bs_21 (wd := q) (by omega) hm hs hr 201 0 0 (-1) _ (by omega) (by omega) rfl rfl)
    rintro w h2 sz2 ⟨rfl, rfl, rfl⟩
    exact ⟨_, rfl, Or.inl ⟨by rw [Int.toNat_natCast], by omega⟩, rfl, rfl⟩
  · refine J_iconst dX8_brightestStart_12 ?_
    exact V_iret dX8_brightestStart_13 rfl rfl ⟨Nat.zero_le _, Nat.zero_le _⟩ ⟨_, rfl, Or.inr ⟨rfl, by omega⟩, rfl, rfl⟩
set_option maxHeartbeats 4000000 in
set_option maxRecDepth 100000 in
theorem l8_common_4 {z : ZG} {d sz : Nat} {h : AH} {a0 b0 : Int} : ∀ (f v u : Nat) (o4 : Option Value), u < f → v < 2147483648 → u < 2147483648 → V z YX8_common (zroom d 0 0) (fun w h' sz' => w = some (.int (I (Nat.gcd v u : Int))) ∧ h' = h ∧ sz' = sz) 4 [some (.int (I a0)), some (.int (I b0)), some (.int (I (v : Int))), some (.int (I (u : Int))), o4] [] h sz 0 0 := by
  intro f
  induction f with
  | zero => intro v u o4 h1; omega
  | succ f ih =>
    intro v u o4 h1 h2 h3
    refine V_iload_n dX8_common_4 rfl ?_
    refine J_if_eq (tgt := 21) dX8_common_5 (by decide) (by omega) (fun c5 => ?_) (fun c5 => ?_)
    · refine V_iload_n dX8_common_21 rfl ?_
      exact V_iret dX8_common_22 rfl rfl ⟨Nat.zero_le _, Nat.zero_le _⟩ ⟨by rw [show u = 0 by omega, Nat.gcd_zero_right], rfl, rfl⟩
    · refine V_iload_n dX8_common_8 rfl ?_
      refine V_iload_n dX8_common_9 rfl ?_
      refine J_irem dX8_common_10 (by omega) (by omega) ?_
      refine V_istore dX8_common_11 (Nat.le_of_ble_eq_true rfl) ?_
      refine V_iload_n dX8_common_13 rfl ?_
      refine V_istore_n dX8_common_14 (Nat.le_of_ble_eq_true rfl) ?_
      refine V_iload dX8_common_15 rfl ?_
      refine V_istore_n dX8_common_17 (Nat.le_of_ble_eq_true rfl) ?_
      refine V_goto (tgt := 4) dX8_common_18 (by decide) ?_
      have e0 := Nat.mod_lt v (show 0 < u by omega)
      have e1 : ((v : Int) % (u : Int)) = ((v % u : Nat) : Int) := (Int.natCast_emod v u).symm
      rw [e1]
      refine V_mono ?_ (ih u (v % u) _ (by omega) (by omega) (by omega))
      rintro w h2 sz2 ⟨rfl, rfl, rfl⟩
      exact ⟨by rw [Nat.gcd_comm u, ← Nat.gcd_rec, Nat.gcd_comm], rfl, rfl⟩
set_option maxHeartbeats 4000000 in
set_option maxRecDepth 100000 in
theorem m8_common {z : ZG} {d sz : Nat} {h : AH} {v u : Nat} (hv : v < 2147483648) (hu : u < 2147483648) : M z YX8_common d 0 0 [.int (I (v : Int)), .int (I (u : Int))] h sz (fun w h' sz' => w = some (.int (I (Nat.gcd v u : Int))) ∧ h' = h ∧ sz' = sz) := by
  refine M.of (by decide +kernel) (Nat.le_of_ble_eq_true rfl) ?_
  refine V_iload_n dX8_common_0 rfl ?_
  refine V_istore_n dX8_common_1 (Nat.le_of_ble_eq_true rfl) ?_
  refine V_iload_n dX8_common_2 rfl ?_
  refine V_istore_n dX8_common_3 (Nat.le_of_ble_eq_true rfl) ?_
  exact l8_common_4 (u + 1) v u _ (by omega) hv hu
theorem pq_rg {a b : Int} (ha : 8 ≤ a ∧ a ≤ 80) (hb : 8 ≤ b ∧ b ≤ 80) : 64 ≤ a * b ∧ a * b ≤ 6400 := by
  constructor
  · have := Int.mul_le_mul ha.1 hb.1 (by omega) (by omega); omega
  · have := Int.mul_le_mul ha.2 hb.2 (by omega) (by omega); omega
theorem gcd_rg {a b : Nat} (ha : 0 < a) : 0 < Nat.gcd a b ∧ Nat.gcd a b ≤ a := ⟨Nat.gcd_pos_of_pos_left _ ha, Nat.gcd_le_left _ ha⟩
set_option maxHeartbeats 4000000 in
set_option maxRecDepth 100000 in
theorem m8_overlayPeriod {z : ZG} {d sz r n s : Nat} {g h : AH} {l sp nu rs rm sc mk km : Int} {T RA RD MA NW SD KP : Nat → Int} (hm : MS g r n s l sp nu rs rm sc mk km T RA RD MA NW SD KP h) (hs : 8 ≤ sc ∧ sc ≤ 80) (hr : rok NW) : M z YX8_overlayPeriod (d + 1) 0 0 [.ref r] h sz (fun w h' sz' => w = some (.int (I (sc / (Nat.gcd sc.toNat (NW 6).toNat : Int) * NW 6))) ∧ h' = h ∧ sz' = sz) := by
  refine M.of (by decide +kernel) (Nat.le_of_ble_eq_true rfl) ?_
  have hr6 := hr.2.2.2.1
  have hg := gcd_rg (a := sc.toNat) (b := (NW 6).toNat) (by omega)
  refine V_aload_n dX8_overlayPeriod_0 rfl ?_
  refine V_get dX8_overlayPeriod_1 fX8_44 hm.1 rfl ?_
  refine V_aload_n dX8_overlayPeriod_4 rfl ?_
  refine V_get dX8_overlayPeriod_5 fX8_44 hm.1 rfl ?_
  refine V_aload_n dX8_overlayPeriod_8 rfl ?_
  refine V_get dX8_overlayPeriod_9 fX8_22 hm.1 rfl ?_
  refine J_bipush dX8_overlayPeriod_12 (by decide) ?_
  refine R_aldk_NW 6 dX8_overlayPeriod_14 hm rfl (by decide) ?_
  rw [show (I (NW 6)) = I ((NW 6).toNat : Int) by rw [Int.toNat_of_nonneg (by omega)]]
  refine V_under (a := sc) (b := (sc.toNat : Int)) (by omega) ?_
  refine V_callS (Y' := YX8_common) dX8_overlayPeriod_15 lX8_171 gX8_common (m8_common (v := sc.toNat) (u := (NW 6).toNat) (by omega) (by omega)) rfl rfl (Nat.le_of_ble_eq_true rfl) ⟨Nat.zero_le _, Nat.zero_le _⟩ (fun v h1 sz1 hq => ?_)
  obtain ⟨rfl, rfl, rfl⟩ := hq
  refine J_idiv dX8_overlayPeriod_18 (by omega) (by omega) ?_
  refine V_aload_n dX8_overlayPeriod_19 rfl ?_
  refine V_get dX8_overlayPeriod_20 fX8_22 hm.1 rfl ?_
  refine J_bipush dX8_overlayPeriod_23 (by decide) ?_
  refine R_aldk_NW 6 dX8_overlayPeriod_25 hm rfl (by decide) ?_
  refine J_imul dX8_overlayPeriod_26 ?_
  exact V_iret dX8_overlayPeriod_27 rfl rfl ⟨Nat.zero_le _, Nat.zero_le _⟩ ⟨rfl, rfl, rfl⟩
theorem dif_rg {a b q : Int} (ha : 8 ≤ a ∧ a ≤ 80) (hb : 8 ≤ b ∧ b ≤ 80) (h : (I a ≤ I b ∧ q = b - a) ∨ (¬ I a ≤ I b ∧ q = a - b)) : q = ((a - b).natAbs : Int) := by
  rw [I_le (by omega) (by omega)] at h
  omega
set_option maxHeartbeats 4000000 in
set_option maxRecDepth 100000 in
theorem m8_fringe_1 {z : ZG} {d sz r n s : Nat} {g h : AH} {l sp nu rs rm sc mk km : Int} {T RA RD MA NW SD KP : Nat → Int} (hm : MS g r n s l sp nu rs rm sc mk km T RA RD MA NW SD KP h) (hs : 8 ≤ sc ∧ sc ≤ 80) (hr : rok NW) : M z YX8_fringe (d + 1) 0 0 [.ref r, .int (I 1)] h sz (fun w h' sz' => ∃ v : Int, w = some (.int (I v)) ∧ (((sc - NW 6).natAbs = 0 ∧ v = -4) ∨ (¬ (sc - NW 6).natAbs = 0 ∧ v = (sc * NW 6) / (Nat.gcd (sc * NW 6).toNat (sc - NW 6).natAbs : Int))) ∧ h' = h ∧ sz' = sz) := by
  refine M.of (by decide +kernel) (Nat.le_of_ble_eq_true rfl) ?_
  have hr6 := hr.2.2.2.1
  have hpq := pq_rg hs hr6
  have hg := gcd_rg (a := (sc * NW 6).toNat) (b := (sc - NW 6).natAbs) (by omega)
  refine V_aload_n dX8_fringe_0 rfl ?_
  refine V_get dX8_fringe_1 fX8_44 hm.1 rfl ?_
  refine V_aload_n dX8_fringe_4 rfl ?_
  refine V_get dX8_fringe_5 fX8_22 hm.1 rfl ?_
  refine J_bipush dX8_fringe_8 (by decide) ?_
  refine R_aldk_NW 6 dX8_fringe_10 hm rfl (by decide) ?_
  refine J_imul dX8_fringe_11 ?_
  refine V_istore_n dX8_fringe_12 (Nat.le_of_ble_eq_true rfl) ?_
  refine V_aload_n dX8_fringe_13 rfl ?_
  refine V_get dX8_fringe_14 fX8_44 hm.1 rfl ?_
  refine V_aload_n dX8_fringe_17 rfl ?_
  refine V_get dX8_fringe_18 fX8_22 hm.1 rfl ?_
  refine J_bipush dX8_fringe_21 (by decide) ?_
  refine R_aldk_NW 6 dX8_fringe_23 hm rfl (by decide) ?_
  refine V_callS (Y' := YX8_apart) dX8_fringe_24 lX8_149 gX8_apart m8_apart rfl rfl (Nat.le_of_ble_eq_true rfl) ⟨Nat.zero_le _, Nat.zero_le _⟩ (fun v h1 sz1 hq => ?_)
  obtain ⟨q, rfl, hq0, rfl, rfl⟩ := hq
  have hq1 := dif_rg hs hr6 hq0
  subst hq1
  refine V_istore_n dX8_fringe_27 (Nat.le_of_ble_eq_true rfl) ?_
  refine V_iload_n dX8_fringe_28 rfl ?_
  refine J_if_ne (tgt := 35) dX8_fringe_29 (by decide) (by omega) (fun c29 => ?_) (fun c29 => ?_)
  · refine V_iload_n dX8_fringe_35 rfl ?_
    refine V_iload_n dX8_fringe_36 rfl ?_
    refine V_under (b := (((sc * NW 6).toNat : Nat) : Int)) (by omega) ?_
    refine V_callS (Y' := YX8_common) dX8_fringe_37 lX8_171 gX8_common (m8_common (v := (sc * NW 6).toNat) (u := (sc - NW 6).natAbs) (by omega) (by omega)) rfl rfl (Nat.le_of_ble_eq_true rfl) ⟨Nat.zero_le _, Nat.zero_le _⟩ (fun v h1 sz1 hq => ?_)
    obtain ⟨rfl, rfl, rfl⟩ := hq
    refine V_istore dX8_fringe_40 (Nat.le_of_ble_eq_true rfl) ?_
    refine V_iload_n dX8_fringe_42 rfl ?_
    refine J_if_eq (tgt := 53) dX8_fringe_43 (by decide) (by omega) (fun c43 => ?_) (fun c43 => ?_)
    · exfalso
      omega
    · refine V_iload_n dX8_fringe_46 rfl ?_
      refine V_iload dX8_fringe_47 rfl ?_
      refine J_idiv dX8_fringe_49 (by omega) (by omega) ?_
      refine V_goto (tgt := 57) dX8_fringe_50 (by decide) ?_
      exact V_iret dX8_fringe_57 rfl rfl ⟨Nat.zero_le _, Nat.zero_le _⟩ ⟨_, rfl, by first | exact Or.inl ⟨by omega, rfl⟩ | exact Or.inr ⟨by omega, rfl⟩, rfl, rfl⟩
  · refine J_bipush dX8_fringe_32 (by decide) ?_
    exact V_iret dX8_fringe_34 rfl rfl ⟨Nat.zero_le _, Nat.zero_le _⟩ ⟨_, rfl, by first | exact Or.inl ⟨by omega, rfl⟩ | exact Or.inr ⟨by omega, rfl⟩, rfl, rfl⟩
set_option maxHeartbeats 4000000 in
set_option maxRecDepth 100000 in
theorem m8_fringe_0 {z : ZG} {d sz r n s : Nat} {g h : AH} {l sp nu rs rm sc mk km : Int} {T RA RD MA NW SD KP : Nat → Int} (hm : MS g r n s l sp nu rs rm sc mk km T RA RD MA NW SD KP h) (hs : 8 ≤ sc ∧ sc ≤ 80) (hr : rok NW) : M z YX8_fringe (d + 1) 0 0 [.ref r, .int (I 0)] h sz (fun w h' sz' => ∃ v : Int, w = some (.int (I v)) ∧ (((sc - NW 6).natAbs = 0 ∧ v = -4) ∨ (¬ (sc - NW 6).natAbs = 0 ∧ v = ((sc - NW 6).natAbs : Int) / (Nat.gcd (sc * NW 6).toNat (sc - NW 6).natAbs : Int))) ∧ h' = h ∧ sz' = sz) := by
  refine M.of (by decide +kernel) (Nat.le_of_ble_eq_true rfl) ?_
  have hr6 := hr.2.2.2.1
  have hpq := pq_rg hs hr6
  have hg := gcd_rg (a := (sc * NW 6).toNat) (b := (sc - NW 6).natAbs) (by omega)
  refine V_aload_n dX8_fringe_0 rfl ?_
  refine V_get dX8_fringe_1 fX8_44 hm.1 rfl ?_
  refine V_aload_n dX8_fringe_4 rfl ?_
  refine V_get dX8_fringe_5 fX8_22 hm.1 rfl ?_
  refine J_bipush dX8_fringe_8 (by decide) ?_
  refine R_aldk_NW 6 dX8_fringe_10 hm rfl (by decide) ?_
  refine J_imul dX8_fringe_11 ?_
  refine V_istore_n dX8_fringe_12 (Nat.le_of_ble_eq_true rfl) ?_
  refine V_aload_n dX8_fringe_13 rfl ?_
  refine V_get dX8_fringe_14 fX8_44 hm.1 rfl ?_
  refine V_aload_n dX8_fringe_17 rfl ?_
  refine V_get dX8_fringe_18 fX8_22 hm.1 rfl ?_
  refine J_bipush dX8_fringe_21 (by decide) ?_
  refine R_aldk_NW 6 dX8_fringe_23 hm rfl (by decide) ?_
  refine V_callS (Y' := YX8_apart) dX8_fringe_24 lX8_149 gX8_apart m8_apart rfl rfl (Nat.le_of_ble_eq_true rfl) ⟨Nat.zero_le _, Nat.zero_le _⟩ (fun v h1 sz1 hq => ?_)
  obtain ⟨q, rfl, hq0, rfl, rfl⟩ := hq
  have hq1 := dif_rg hs hr6 hq0
  subst hq1
  refine V_istore_n dX8_fringe_27 (Nat.le_of_ble_eq_true rfl) ?_
  refine V_iload_n dX8_fringe_28 rfl ?_
  refine J_if_ne (tgt := 35) dX8_fringe_29 (by decide) (by omega) (fun c29 => ?_) (fun c29 => ?_)
  · refine V_iload_n dX8_fringe_35 rfl ?_
    refine V_iload_n dX8_fringe_36 rfl ?_
    refine V_under (b := (((sc * NW 6).toNat : Nat) : Int)) (by omega) ?_
    refine V_callS (Y' := YX8_common) dX8_fringe_37 lX8_171 gX8_common (m8_common (v := (sc * NW 6).toNat) (u := (sc - NW 6).natAbs) (by omega) (by omega)) rfl rfl (Nat.le_of_ble_eq_true rfl) ⟨Nat.zero_le _, Nat.zero_le _⟩ (fun v h1 sz1 hq => ?_)
    obtain ⟨rfl, rfl, rfl⟩ := hq
    refine V_istore dX8_fringe_40 (Nat.le_of_ble_eq_true rfl) ?_
    refine V_iload_n dX8_fringe_42 rfl ?_
    refine J_if_eq (tgt := 53) dX8_fringe_43 (by decide) (by omega) (fun c43 => ?_) (fun c43 => ?_)
    · refine V_iload_n dX8_fringe_53 rfl ?_
      refine V_iload dX8_fringe_54 rfl ?_
      refine J_idiv dX8_fringe_56 (by omega) (by omega) ?_
      exact V_iret dX8_fringe_57 rfl rfl ⟨Nat.zero_le _, Nat.zero_le _⟩ ⟨_, rfl, by first | exact Or.inl ⟨by omega, rfl⟩ | exact Or.inr ⟨by omega, rfl⟩, rfl, rfl⟩
    · exfalso
      omega
  · refine J_bipush dX8_fringe_32 (by decide) ?_
    exact V_iret dX8_fringe_34 rfl rfl ⟨Nat.zero_le _, Nat.zero_le _⟩ ⟨_, rfl, by first | exact Or.inl ⟨by omega, rfl⟩ | exact Or.inr ⟨by omega, rfl⟩, rfl, rfl⟩
set_option maxHeartbeats 4000000 in
set_option maxRecDepth 100000 in
theorem m8_fringePeriodNumerator {z : ZG} {d sz r n s : Nat} {g h : AH} {l sp nu rs rm sc mk km : Int} {T RA RD MA NW SD KP : Nat → Int} (hm : MS g r n s l sp nu rs rm sc mk km T RA RD MA NW SD KP h) (hs : 8 ≤ sc ∧ sc ≤ 80) (hr : rok NW) : M z YX8_fringePeriodNumerator (d + 2) 0 0 [.ref r] h sz (fun w h' sz' => ∃ v : Int, w = some (.int (I v)) ∧ (((sc - NW 6).natAbs = 0 ∧ v = -4) ∨ (¬ (sc - NW 6).natAbs = 0 ∧ v = (sc * NW 6) / (Nat.gcd (sc * NW 6).toNat (sc - NW 6).natAbs : Int))) ∧ h' = h ∧ sz' = sz) := by
  refine M.of (by decide +kernel) (Nat.le_of_ble_eq_true rfl) ?_
  refine V_aload_n dX8_fringePeriodNumerator_0 rfl ?_
  refine J_iconst dX8_fringePeriodNumerator_1 ?_
  refine V_callV (Y' := YX8_fringe) dX8_fringePeriodNumerator_2 lX8_174 gX8_fringe (m8_fringe_1 hm hs hr) hm.1 rfl rfl rfl (Nat.le_of_ble_eq_true rfl) ⟨Nat.zero_le _, Nat.zero_le _⟩ (fun v h1 sz1 hq => ?_)
  obtain ⟨v, rfl, hv, rfl, rfl⟩ := hq
  exact V_iret dX8_fringePeriodNumerator_5 rfl rfl ⟨Nat.zero_le _, Nat.zero_le _⟩ ⟨_, rfl, hv, rfl, rfl⟩
set_option maxHeartbeats 4000000 in
set_option maxRecDepth 100000 in
theorem m8_fringePeriodDenominator {z : ZG} {d sz r n s : Nat} {g h : AH} {l sp nu rs rm sc mk km : Int} {T RA RD MA NW SD KP : Nat → Int} (hm : MS g r n s l sp nu rs rm sc mk km T RA RD MA NW SD KP h) (hs : 8 ≤ sc ∧ sc ≤ 80) (hr : rok NW) : M z YX8_fringePeriodDenominator (d + 2) 0 0 [.ref r] h sz (fun w h' sz' => ∃ v : Int, w = some (.int (I v)) ∧ (((sc - NW 6).natAbs = 0 ∧ v = -4) ∨ (¬ (sc - NW 6).natAbs = 0 ∧ v = ((sc - NW 6).natAbs : Int) / (Nat.gcd (sc * NW 6).toNat (sc - NW 6).natAbs : Int))) ∧ h' = h ∧ sz' = sz) := by
  refine M.of (by decide +kernel) (Nat.le_of_ble_eq_true rfl) ?_
  refine V_aload_n dX8_fringePeriodDenominator_0 rfl ?_
  refine J_iconst dX8_fringePeriodDenominator_1 ?_
  refine V_callV (Y' := YX8_fringe) dX8_fringePeriodDenominator_2 lX8_174 gX8_fringe (m8_fringe_0 hm hs hr) hm.1 rfl rfl rfl (Nat.le_of_ble_eq_true rfl) ⟨Nat.zero_le _, Nat.zero_le _⟩ (fun v h1 sz1 hq => ?_)
  obtain ⟨v, rfl, hv, rfl, rfl⟩ := hq
  exact V_iret dX8_fringePeriodDenominator_5 rfl rfl ⟨Nat.zero_le _, Nat.zero_le _⟩ ⟨_, rfl, hv, rfl, rfl⟩
set_option maxHeartbeats 4000000 in
set_option maxRecDepth 100000 in
theorem m8_magnificationBits {z : ZG} {d sz r n s : Nat} {g h : AH} {l sp nu rs rm sc mk km : Int} {T RA RD MA NW SD KP : Nat → Int} (hm : MS g r n s l sp nu rs rm sc mk km T RA RD MA NW SD KP h) (hs : 8 ≤ sc ∧ sc ≤ 80) (hr : rok NW) : M z YX8_magnificationBits (d + 2) 0 0 [.ref r] h sz (fun w h' sz' => (∃ v : Int32, w = some (.int v) ∧ (((sc - NW 6).natAbs = 0 ∧ v = I (-4)) ∨ (¬ (sc - NW 6).natAbs = 0 ∧ ∃ f1 : UInt32, alike32 f1 (FP.fdiv (FP.i2f (I (NW 6))) (FP.i2f (I ((sc - NW 6).natAbs : Int)))) = true ∧ (Op.cmpValue (FP.fcmp f1 f1) .l = 0 → v = f1.toInt32)))) ∧ h' = h ∧ sz' = sz) := by
  refine M.of (by decide +kernel) (Nat.le_of_ble_eq_true rfl) ?_
  have hr6 := hr.2.2.2.1
  refine V_aload_n dX8_magnificationBits_0 rfl ?_
  refine V_get dX8_magnificationBits_1 fX8_44 hm.1 rfl ?_
  refine V_aload_n dX8_magnificationBits_4 rfl ?_
  refine V_get dX8_magnificationBits_5 fX8_22 hm.1 rfl ?_
  refine J_bipush dX8_magnificationBits_8 (by decide) ?_
  refine R_aldk_NW 6 dX8_magnificationBits_10 hm rfl (by decide) ?_
  refine V_callS (Y' := YX8_apart) dX8_magnificationBits_11 lX8_149 gX8_apart m8_apart rfl rfl (Nat.le_of_ble_eq_true rfl) ⟨Nat.zero_le _, Nat.zero_le _⟩ (fun v h1 sz1 hq => ?_)
  obtain ⟨q, rfl, hq0, rfl, rfl⟩ := hq
  have hq1 := dif_rg hs hr6 hq0
  subst hq1
  refine V_istore_n dX8_magnificationBits_14 (Nat.le_of_ble_eq_true rfl) ?_
  refine V_iload_n dX8_magnificationBits_15 rfl ?_
  refine J_if_ne (tgt := 24) dX8_magnificationBits_16 (by decide) (by omega) (fun c16 => ?_) (fun c16 => ?_)
  · refine V_aload_n dX8_magnificationBits_24 rfl ?_
    refine V_get dX8_magnificationBits_25 fX8_22 hm.1 rfl ?_
    refine J_bipush dX8_magnificationBits_28 (by decide) ?_
    refine R_aldk_NW 6 dX8_magnificationBits_30 hm rfl (by decide) ?_
    refine V_i2f dX8_magnificationBits_31 ?_
    refine V_iload_n dX8_magnificationBits_32 rfl ?_
    refine V_i2f dX8_magnificationBits_33 ?_
    refine V_fdiv dX8_magnificationBits_34 (fun f34 hf34 => ?_)
    refine V_callS (Y' := YJxf58ca_floatToIntBits_5c35a) dX8_magnificationBits_35 lX8_152 gJxf58ca_floatToIntBits_5c35a mJ_ftb rfl rfl (Nat.le_of_ble_eq_true rfl) ⟨Nat.zero_le _, Nat.zero_le _⟩ (fun v h1 sz1 hq => ?_)
    obtain ⟨fv, rfl, hfv, rfl, rfl⟩ := hq
    exact V_iret dX8_magnificationBits_38 rfl rfl ⟨Nat.zero_le _, Nat.zero_le _⟩ ⟨⟨_, rfl, by first | exact Or.inl ⟨by omega, rfl⟩ | exact Or.inr ⟨by omega, _, hf34, hfv⟩⟩, rfl, rfl⟩
  · refine J_bipush dX8_magnificationBits_19 (by decide) ?_
    refine V_goto (tgt := 38) dX8_magnificationBits_21 (by decide) ?_
    exact V_iret dX8_magnificationBits_38 rfl rfl ⟨Nat.zero_le _, Nat.zero_le _⟩ ⟨⟨_, rfl, by first | exact Or.inl ⟨by omega, rfl⟩ | exact Or.inr ⟨by omega, _, hf34, hfv⟩⟩, rfl, rfl⟩
set_option maxHeartbeats 4000000 in
set_option maxRecDepth 100000 in
theorem m8_crossedSpacingBits {z : ZG} {d sz r n s : Nat} {g h : AH} {l sp nu rs rm sc mk km : Int} {T RA RD MA NW SD KP : Nat → Int} {x y : Int} (hx : -2147483648 ≤ x ∧ x < 2147483648) (hy : -2147483648 ≤ y ∧ y < 2147483648) (hm : MS g r n s l sp nu rs rm sc mk km T RA RD MA NW SD KP h) : M z YX8_crossedSpacingBits (d + 2) 0 0 [.ref r, .int (I x), .int (I y)] h sz (fun w h' sz' => (∃ v : Int32, w = some (.int v) ∧ ((¬ ((1 ≤ x ∧ x ≤ 99) ∧ 1 ≤ y ∧ y ≤ 999) ∧ v = I (-1)) ∨ (((1 ≤ x ∧ x ≤ 99) ∧ 1 ≤ y ∧ y ≤ 999) ∧ ∃ f1 f2 : UInt32, alike32 f1 (FP.fmul (FP.i2f (I sc)) (FP.i2f (I y))) = true ∧ alike32 f2 (FP.fdiv f1 (FP.i2f (I x))) = true ∧ (Op.cmpValue (FP.fcmp f2 f2) .l = 0 → v = f2.toInt32)))) ∧ h' = h ∧ sz' = sz) := by
  refine M.of (by decide +kernel) (Nat.le_of_ble_eq_true rfl) ?_
  refine V_iload_n dX8_crossedSpacingBits_0 rfl ?_
  refine J_i2l dX8_crossedSpacingBits_1 (by omega) ?_
  refine J_lconst1 dX8_crossedSpacingBits_2 ?_
  refine J_ldc2 99 dX8_crossedSpacingBits_3 cX8_112 rfl ?_
  refine V_callS (Y' := YX8_in) dX8_crossedSpacingBits_6 lX8_57 gX8_in (m8_in (by omega) (by omega) (by omega)) rfl rfl (Nat.le_of_ble_eq_true rfl) ⟨Nat.zero_le _, Nat.zero_le _⟩ (fun v h1 sz1 hq => ?_)
  obtain ⟨t6, rfl, ht6, rfl, rfl⟩ := hq
  refine J_if_eq (tgt := 24) dX8_crossedSpacingBits_9 (by decide) (by omega) (fun c9 => ?_) (fun c9 => ?_)
  · refine J_iconst dX8_crossedSpacingBits_24 ?_
    exact V_iret dX8_crossedSpacingBits_25 rfl rfl ⟨Nat.zero_le _, Nat.zero_le _⟩ ⟨⟨_, rfl, Or.inl ⟨by omega, rfl⟩⟩, rfl, rfl⟩
  · refine V_iload_n dX8_crossedSpacingBits_12 rfl ?_
    refine J_i2l dX8_crossedSpacingBits_13 (by omega) ?_
    refine J_lconst1 dX8_crossedSpacingBits_14 ?_
    refine J_ldc2 999 dX8_crossedSpacingBits_15 cX8_164 rfl ?_
    refine V_callS (Y' := YX8_in) dX8_crossedSpacingBits_18 lX8_57 gX8_in (m8_in (by omega) (by omega) (by omega)) rfl rfl (Nat.le_of_ble_eq_true rfl) ⟨Nat.zero_le _, Nat.zero_le _⟩ (fun v h1 sz1 hq => ?_)
    obtain ⟨t18, rfl, ht18, rfl, rfl⟩ := hq
    refine J_if_ne (tgt := 26) dX8_crossedSpacingBits_21 (by decide) (by omega) (fun c21 => ?_) (fun c21 => ?_)
    · refine V_aload_n dX8_crossedSpacingBits_26 rfl ?_
      refine V_get dX8_crossedSpacingBits_27 fX8_44 hm.1 rfl ?_
      refine V_i2f dX8_crossedSpacingBits_30 ?_
      refine V_iload_n dX8_crossedSpacingBits_31 rfl ?_
      refine V_i2f dX8_crossedSpacingBits_32 ?_
      refine V_fmul dX8_crossedSpacingBits_33 (fun f33 hf33 => ?_)
      refine V_fstore_n dX8_crossedSpacingBits_34 (Nat.le_of_ble_eq_true rfl) ?_
      refine V_fload_n dX8_crossedSpacingBits_35 rfl ?_
      refine V_iload_n dX8_crossedSpacingBits_36 rfl ?_
      refine V_i2f dX8_crossedSpacingBits_37 ?_
      refine V_fdiv dX8_crossedSpacingBits_38 (fun f38 hf38 => ?_)
      refine V_callS (Y' := YJxf58ca_floatToIntBits_5c35a) dX8_crossedSpacingBits_39 lX8_152 gJxf58ca_floatToIntBits_5c35a mJ_ftb rfl rfl (Nat.le_of_ble_eq_true rfl) ⟨Nat.zero_le _, Nat.zero_le _⟩ (fun v h1 sz1 hq => ?_)
      obtain ⟨fv, rfl, hfv, rfl, rfl⟩ := hq
      exact V_iret dX8_crossedSpacingBits_42 rfl rfl ⟨Nat.zero_le _, Nat.zero_le _⟩ ⟨⟨_, rfl, Or.inr ⟨by omega, _, _, hf33, hf38, hfv⟩⟩, rfl, rfl⟩
    · refine J_iconst dX8_crossedSpacingBits_24 ?_
      exact V_iret dX8_crossedSpacingBits_25 rfl rfl ⟨Nat.zero_le _, Nat.zero_le _⟩ ⟨⟨_, rfl, Or.inl ⟨by omega, rfl⟩⟩, rfl, rfl⟩
