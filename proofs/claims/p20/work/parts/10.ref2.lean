/-! THE REFERENCE: rows copied (takeRead, keeps, undo, aside), dirt, the log, counting -/
set_option maxHeartbeats 4000000 in
set_option maxRecDepth 100000 in
theorem l8_aside_2 {z : ZG} {d sz r n s : Nat} {g : AH} {l sp nu rs rm sc mk km : Int} {T RA RD MA NW KP : Nat → Int} {SD0 : Nat → Int} : ∀ (f : Nat) (i : Nat) (SD : Nat → Int) (h : AH), i ≤ 42 → 42 - i < f → (∀ j : Nat, j < 42 → SD j = if j < i then NW j else SD0 j) → MS g r n s l sp nu rs rm sc mk km T RA RD MA NW SD KP h → V z YX8_aside (zroom d 0 0) (fun w h' sz' => w = none ∧ sz' = sz ∧ MS g r n s l sp nu rs rm sc mk km T RA RD MA NW NW KP h') 2 [some (.ref r), some (.int (I (i : Int)))] [] h sz 0 0 := by
  intro f
  induction f with
  | zero => intro i SD h h1 h2; omega
  | succ f ih =>
    intro i SD h h1 h2 hz hm
    refine V_iload_n dX8_aside_2 rfl ?_
    refine J_bipush dX8_aside_3 (by decide) ?_
    refine J_icmp_ge (tgt := 26) dX8_aside_5 (by decide) (by omega) (by omega) (fun c5 => ?_) (fun c5 => ?_)
    · exact V_ret dX8_aside_26 rfl ⟨Nat.zero_le _, Nat.zero_le _⟩ ⟨rfl, rfl, hm.eSD (fun j hj => by rw [hz j hj, if_pos (by omega)])⟩
    · refine V_aload_n dX8_aside_8 rfl ?_
      refine V_get dX8_aside_9 fX8_25 hm.1 rfl ?_
      refine V_iload_n dX8_aside_12 rfl ?_
      refine V_aload_n dX8_aside_13 rfl ?_
      refine V_get dX8_aside_14 fX8_22 hm.1 rfl ?_
      refine V_iload_n dX8_aside_17 rfl ?_
      refine R_aldk_NW i dX8_aside_18 hm (by omega) (by omega) ?_
      refine R_astk_SD i dX8_aside_19 hm (by omega) (by omega) (fun h hm => ?_)
      refine J_iinc dX8_aside_20 rfl ?_
      refine V_goto (tgt := 2) dX8_aside_23 (by decide) ?_
      refine ih (i + 1) _ h (by omega) (by omega) ?_ hm
      intro j hj
      have e := hz j hj
      simp only [va_up]
      by_cases q1 : j = i
      · subst q1; rw [if_pos rfl, if_pos (by omega)]
      · rw [if_neg q1, e]; split <;> split <;> first | rfl | omega
set_option maxHeartbeats 4000000 in
set_option maxRecDepth 100000 in
theorem m8_aside {z : ZG} {d sz r n s : Nat} {g h : AH} {l sp nu rs rm sc mk km : Int} {T RA RD MA NW SD KP : Nat → Int} (hm : MS g r n s l sp nu rs rm sc mk km T RA RD MA NW SD KP h) : M z YX8_aside d 0 0 [.ref r] h sz (fun w h' sz' => w = none ∧ sz' = sz ∧ MS g r n s l sp nu rs rm sc mk km T RA RD MA NW NW KP h') := by
  refine M.of (by decide +kernel) (Nat.le_of_ble_eq_true rfl) ?_
  refine J_iconst dX8_aside_0 ?_
  refine V_istore_n dX8_aside_1 (Nat.le_of_ble_eq_true rfl) ?_
  exact l8_aside_2 (SD0 := SD) 43 0 _ _ (by omega) (by omega) (fun j hj => by rw [if_neg (by omega)]) hm
set_option maxHeartbeats 4000000 in
set_option maxRecDepth 100000 in
theorem l8_takeRead_44 {z : ZG} {d sz r n s : Nat} {g : AH} {l sp nu rs rm km : Int} {T RA RD SD KP : Nat → Int} {NW0 : Nat → Int} : ∀ (f : Nat) (i : Nat) (NW : Nat → Int) (h : AH), i ≤ 42 → 42 - i < f → (∀ j : Nat, j < 42 → NW j = if j < i then RD j else NW0 j) → MS g r n s l sp nu rs rm rs rm km T RA RD RA NW SD KP h → V z YX8_takeRead (zroom d 0 0) (fun w h' sz' => w = none ∧ sz' = sz ∧ MS g r n s l sp nu rs rm rs rm 0 T RA RD RA RD SD KP h') 44 [some (.ref r), some (.int (I (i : Int)))] [] h sz 0 0 := by
  intro f
  induction f with
  | zero => intro i NW h h1 h2; omega
  | succ f ih =>
    intro i NW h h1 h2 hz hm
    refine V_iload_n dX8_takeRead_44 rfl ?_
    refine J_bipush dX8_takeRead_45 (by decide) ?_
    refine J_icmp_ge (tgt := 68) dX8_takeRead_47 (by decide) (by omega) (by omega) (fun c47 => ?_) (fun c47 => ?_)
    · refine V_aload_n dX8_takeRead_68 rfl ?_
      refine J_iconst dX8_takeRead_69 ?_
      refine R_put_14 dX8_takeRead_70 fX8_50 hm (fun h hm => ?_)
      exact V_ret dX8_takeRead_73 rfl ⟨Nat.zero_le _, Nat.zero_le _⟩ ⟨rfl, rfl, hm.eNW (fun j hj => by rw [hz j hj, if_pos (by omega)])⟩
    · refine V_aload_n dX8_takeRead_50 rfl ?_
      refine V_get dX8_takeRead_51 fX8_22 hm.1 rfl ?_
      refine V_iload_n dX8_takeRead_54 rfl ?_
      refine V_aload_n dX8_takeRead_55 rfl ?_
      refine V_get dX8_takeRead_56 fX8_16 hm.1 rfl ?_
      refine V_iload_n dX8_takeRead_59 rfl ?_
      refine R_aldk_RD i dX8_takeRead_60 hm (by omega) (by omega) ?_
      refine R_astk_NW i dX8_takeRead_61 hm (by omega) (by omega) (fun h hm => ?_)
      refine J_iinc dX8_takeRead_62 rfl ?_
      refine V_goto (tgt := 44) dX8_takeRead_65 (by decide) ?_
      refine ih (i + 1) _ h (by omega) (by omega) ?_ hm
      intro j hj
      have e := hz j hj
      simp only [va_up]
      by_cases q1 : j = i
      · subst q1; rw [if_pos rfl, if_pos (by omega)]
      · rw [if_neg q1, e]; split <;> split <;> first | rfl | omega
set_option maxHeartbeats 4000000 in
set_option maxRecDepth 100000 in
theorem l8_takeRead_18 {z : ZG} {d sz r n s : Nat} {g : AH} {l sp nu rs rm km : Int} {T RA RD NW SD KP : Nat → Int} {MA0 : Nat → Int} : ∀ (f : Nat) (i : Nat) (MA : Nat → Int) (h : AH), i ≤ 6 → 6 - i < f → (∀ j : Nat, j < 6 → MA j = if j < i then RA j else MA0 j) → MS g r n s l sp nu rs rm rs rm km T RA RD MA NW SD KP h → V z YX8_takeRead (zroom d 0 0) (fun w h' sz' => w = none ∧ sz' = sz ∧ MS g r n s l sp nu rs rm rs rm 0 T RA RD RA RD SD KP h') 18 [some (.ref r), some (.int (I (i : Int)))] [] h sz 0 0 := by
  intro f
  induction f with
  | zero => intro i MA h h1 h2; omega
  | succ f ih =>
    intro i MA h h1 h2 hz hm
    refine V_iload_n dX8_takeRead_18 rfl ?_
    refine J_bipush dX8_takeRead_19 (by decide) ?_
    refine J_icmp_ge (tgt := 42) dX8_takeRead_21 (by decide) (by omega) (by omega) (fun c21 => ?_) (fun c21 => ?_)
    · refine J_iconst dX8_takeRead_42 ?_
      refine V_istore_n dX8_takeRead_43 (Nat.le_of_ble_eq_true rfl) ?_
      exact l8_takeRead_44 (NW0 := NW) 43 0 _ _ (by omega) (by omega) (fun j hj => by rw [if_neg (by omega)]) (hm.eMA (fun j hj => by rw [hz j hj, if_pos (by omega)]))
    · refine V_aload_n dX8_takeRead_24 rfl ?_
      refine V_get dX8_takeRead_25 fX8_19 hm.1 rfl ?_
      refine V_iload_n dX8_takeRead_28 rfl ?_
      refine V_aload_n dX8_takeRead_29 rfl ?_
      refine V_get dX8_takeRead_30 fX8_13 hm.1 rfl ?_
      refine V_iload_n dX8_takeRead_33 rfl ?_
      refine R_aldk_RA i dX8_takeRead_34 hm (by omega) (by omega) ?_
      refine R_astk_MA i dX8_takeRead_35 hm (by omega) (by omega) (fun h hm => ?_)
      refine J_iinc dX8_takeRead_36 rfl ?_
      refine V_goto (tgt := 18) dX8_takeRead_39 (by decide) ?_
      refine ih (i + 1) _ h (by omega) (by omega) ?_ hm
      intro j hj
      have e := hz j hj
      simp only [va_up]
      by_cases q1 : j = i
      · subst q1; rw [if_pos rfl, if_pos (by omega)]
      · rw [if_neg q1, e]; split <;> split <;> first | rfl | omega
set_option maxHeartbeats 4000000 in
set_option maxRecDepth 100000 in
theorem m8_takeRead {z : ZG} {d sz r n s : Nat} {g h : AH} {l sp nu rs rm sc mk km : Int} {T RA RD MA NW SD KP : Nat → Int} (hm : MS g r n s l sp nu rs rm sc mk km T RA RD MA NW SD KP h) : M z YX8_takeRead d 0 0 [.ref r] h sz (fun w h' sz' => w = none ∧ sz' = sz ∧ MS g r n s l sp nu rs rm rs rm 0 T RA RD RA RD SD KP h') := by
  refine M.of (by decide +kernel) (Nat.le_of_ble_eq_true rfl) ?_
  refine V_aload_n dX8_takeRead_0 rfl ?_
  refine V_aload_n dX8_takeRead_1 rfl ?_
  refine V_get dX8_takeRead_2 fX8_34 hm.1 rfl ?_
  refine R_put_8 dX8_takeRead_5 fX8_44 hm (fun h hm => ?_)
  refine V_aload_n dX8_takeRead_8 rfl ?_
  refine V_aload_n dX8_takeRead_9 rfl ?_
  refine V_get dX8_takeRead_10 fX8_38 hm.1 rfl ?_
  refine R_put_9 dX8_takeRead_13 fX8_47 hm (fun h hm => ?_)
  refine J_iconst dX8_takeRead_16 ?_
  refine V_istore_n dX8_takeRead_17 (Nat.le_of_ble_eq_true rfl) ?_
  exact l8_takeRead_18 (MA0 := MA) 7 0 _ _ (by omega) (by omega) (fun j hj => by rw [if_neg (by omega)]) hm
def kS (KP : Nat → Int) (j : Nat) : Int := if j < 210 then KP (42 + j) else KP j
def kP (KP NW : Nat → Int) (k j : Nat) : Int := if 42 * k ≤ j ∧ j < 42 * k + 42 then NW (j - 42 * k) else KP j
/-- the states kept, after one more -/
def kq (km : Int) (KP NW : Nat → Int) (km2 : Int) (KP2 : Nat → Int) : Prop := (km = 6 ∧ km2 = 6 ∧ KP2 = kP (kS KP) NW 5) ∨ (km < 6 ∧ km2 = km + 1 ∧ KP2 = kP KP NW km.toNat)
set_option maxHeartbeats 4000000 in
set_option maxRecDepth 100000 in
theorem l8_keeps_51 {z : ZG} {d sz r n s : Nat} {g : AH} {l sp nu rs rm sc mk : Int} {T RA RD MA NW SD : Nat → Int} {KP0 : Nat → Int} {k : Nat} (hk : k ≤ 5) : ∀ (f : Nat) (i : Nat) (KP : Nat → Int) (h : AH), i ≤ 42 → 42 - i < f → (∀ j : Nat, j < 252 → KP j = if 42 * k ≤ j ∧ j < 42 * k + i then NW (j - 42 * k) else KP0 j) → MS g r n s l sp nu rs rm sc mk k T RA RD MA NW SD KP h → V z YX8_keeps (zroom d 0 0) (fun w h' sz' => w = none ∧ sz' = sz ∧ MS g r n s l sp nu rs rm sc mk (k + 1) T RA RD MA NW SD (kP KP0 NW k) h') 51 [some (.ref r), some (.int (I (i : Int)))] [] h sz 0 0 := by
  intro f
  induction f with
  | zero => intro i KP h h1 h2; omega
  | succ f ih =>
    intro i KP h h1 h2 hz hm
    refine V_iload_n dX8_keeps_51 rfl ?_
    refine J_bipush dX8_keeps_52 (by decide) ?_
    refine J_icmp_ge (tgt := 83) dX8_keeps_54 (by decide) (by omega) (by omega) (fun c54 => ?_) (fun c54 => ?_)
    · refine V_aload_n dX8_keeps_83 rfl ?_
      refine V_dup dX8_keeps_84 rfl ?_
      refine V_get dX8_keeps_85 fX8_50 hm.1 rfl ?_
      refine J_iconst dX8_keeps_88 ?_
      refine J_iadd dX8_keeps_89 ?_
      refine R_put_14 dX8_keeps_90 fX8_50 hm (fun h hm => ?_)
      exact V_ret dX8_keeps_93 rfl ⟨Nat.zero_le _, Nat.zero_le _⟩ ⟨rfl, rfl, hm.eKP (fun j hj => by rw [hz j hj, show i = 42 by omega]; rfl)⟩
    · refine V_aload_n dX8_keeps_57 rfl ?_
      refine V_get dX8_keeps_58 fX8_28 hm.1 rfl ?_
      refine J_bipush dX8_keeps_61 (by decide) ?_
      refine V_aload_n dX8_keeps_63 rfl ?_
      refine V_get dX8_keeps_64 fX8_50 hm.1 rfl ?_
      refine J_imul dX8_keeps_67 ?_
      refine V_iload_n dX8_keeps_68 rfl ?_
      refine J_iadd dX8_keeps_69 ?_
      refine V_aload_n dX8_keeps_70 rfl ?_
      refine V_get dX8_keeps_71 fX8_22 hm.1 rfl ?_
      refine V_iload_n dX8_keeps_74 rfl ?_
      refine R_aldk_NW i dX8_keeps_75 hm (by omega) (by omega) ?_
      refine R_astk_KP (42 * k + i) dX8_keeps_76 hm (by omega) (by omega) (fun h hm => ?_)
      refine J_iinc dX8_keeps_77 rfl ?_
      refine V_goto (tgt := 51) dX8_keeps_80 (by decide) ?_
      refine ih (i + 1) _ h (by omega) (by omega) ?_ hm
      intro j hj
      have e := hz j hj
      simp only [va_up]
      by_cases q1 : j = 42 * k + i
      · subst q1; rw [if_pos rfl, if_pos (by omega)]; congr 1; omega
      · rw [if_neg q1, e]; split <;> split <;> first | rfl | omega
set_option maxHeartbeats 4000000 in
set_option maxRecDepth 100000 in
theorem l8_keeps_11 {z : ZG} {d sz r n s : Nat} {g : AH} {l sp nu rs rm sc mk : Int} {T RA RD MA NW SD : Nat → Int} {KP0 : Nat → Int} : ∀ (f : Nat) (i : Nat) (KP : Nat → Int) (h : AH), i ≤ 210 → 210 - i < f → (∀ j : Nat, j < 252 → KP j = if j < i then KP0 (42 + j) else KP0 j) → MS g r n s l sp nu rs rm sc mk 6 T RA RD MA NW SD KP h → V z YX8_keeps (zroom d 0 0) (fun w h' sz' => w = none ∧ sz' = sz ∧ MS g r n s l sp nu rs rm sc mk 6 T RA RD MA NW SD (kP (kS KP0) NW 5) h') 11 [some (.ref r), some (.int (I (i : Int)))] [] h sz 0 0 := by
  intro f
  induction f with
  | zero => intro i KP h h1 h2; omega
  | succ f ih =>
    intro i KP h h1 h2 hz hm
    refine V_iload_n dX8_keeps_11 rfl ?_
    refine J_sipush dX8_keeps_12 (by decide) ?_
    refine J_icmp_ge (tgt := 39) dX8_keeps_15 (by decide) (by omega) (by omega) (fun c15 => ?_) (fun c15 => ?_)
    · refine V_aload_n dX8_keeps_39 rfl ?_
      refine V_dup dX8_keeps_40 rfl ?_
      refine V_get dX8_keeps_41 fX8_50 hm.1 rfl ?_
      refine J_iconst dX8_keeps_44 ?_
      refine J_isub dX8_keeps_45 ?_
      refine R_put_14 dX8_keeps_46 fX8_50 hm (fun h hm => ?_)
      refine J_iconst dX8_keeps_49 ?_
      refine V_istore_n dX8_keeps_50 (Nat.le_of_ble_eq_true rfl) ?_
      exact l8_keeps_51 (KP0 := kS KP0) (k := 5) (by omega) 43 0 _ _ (by omega) (by omega) (fun j hj => by rw [if_neg (by omega), hz j hj]; unfold kS; congr 1; apply propext; omega) hm
    · refine V_aload_n dX8_keeps_18 rfl ?_
      refine V_get dX8_keeps_19 fX8_28 hm.1 rfl ?_
      refine V_iload_n dX8_keeps_22 rfl ?_
      refine V_aload_n dX8_keeps_23 rfl ?_
      refine V_get dX8_keeps_24 fX8_28 hm.1 rfl ?_
      refine J_bipush dX8_keeps_27 (by decide) ?_
      refine V_iload_n dX8_keeps_29 rfl ?_
      refine J_iadd dX8_keeps_30 ?_
      refine R_aldk_KP (42 + i) dX8_keeps_31 hm (by omega) (by omega) ?_
      refine R_astk_KP i dX8_keeps_32 hm (by omega) (by omega) (fun h hm => ?_)
      refine J_iinc dX8_keeps_33 rfl ?_
      refine V_goto (tgt := 11) dX8_keeps_36 (by decide) ?_
      refine ih (i + 1) _ h (by omega) (by omega) ?_ hm
      intro j hj
      have e := hz j hj
      simp only [va_up]
      by_cases q1 : j = i
      · subst q1; rw [if_pos rfl, if_pos (by omega)]; rw [hz (42 + j) (by omega), if_neg (by omega)]
      · rw [if_neg q1, e]; split <;> split <;> first | rfl | omega
set_option maxHeartbeats 4000000 in
set_option maxRecDepth 100000 in
theorem m8_keeps {z : ZG} {d sz r n s : Nat} {g h : AH} {l sp nu rs rm sc mk km : Int} {T RA RD MA NW SD KP : Nat → Int} (hm : MS g r n s l sp nu rs rm sc mk km T RA RD MA NW SD KP h) (hk : 0 ≤ km ∧ km ≤ 6) : M z YX8_keeps d 0 0 [.ref r] h sz (fun w h' sz' => w = none ∧ sz' = sz ∧ ∃ (km2 : Int) (KP2 : Nat → Int), kq km KP NW km2 KP2 ∧ MS g r n s l sp nu rs rm sc mk km2 T RA RD MA NW SD KP2 h') := by
  refine M.of (by decide +kernel) (Nat.le_of_ble_eq_true rfl) ?_
  refine V_aload_n dX8_keeps_0 rfl ?_
  refine V_get dX8_keeps_1 fX8_50 hm.1 rfl ?_
  refine J_bipush dX8_keeps_4 (by decide) ?_
  refine J_icmp_ne (tgt := 49) dX8_keeps_6 (by decide) (by omega) (by omega) (fun c6 => ?_) (fun c6 => ?_)
  · refine J_iconst dX8_keeps_49 ?_
    refine V_istore_n dX8_keeps_50 (Nat.le_of_ble_eq_true rfl) ?_
    obtain ⟨k, rfl⟩ : ∃ k : Nat, km = k := ⟨km.toNat, by omega⟩
    refine V_mono ?_ (l8_keeps_51 (KP0 := KP) (k := k) (by omega) 43 0 _ _ (by omega) (by omega) (fun j hj => by rw [if_neg (by omega)]) hm)
    rintro w h2 sz2 ⟨rfl, rfl, hm⟩
    exact ⟨rfl, rfl, _, _, Or.inr ⟨by omega, rfl, by rw [Int.toNat_natCast]⟩, hm⟩
  · refine J_iconst dX8_keeps_9 ?_
    refine V_istore_n dX8_keeps_10 (Nat.le_of_ble_eq_true rfl) ?_
    obtain rfl : km = 6 := by omega
    refine V_mono ?_ (l8_keeps_11 (KP0 := KP) 211 0 _ _ (by omega) (by omega) (fun j hj => by rw [if_neg (by omega)]) hm)
    rintro w h2 sz2 ⟨rfl, rfl, hm⟩
    exact ⟨rfl, rfl, _, _, Or.inl ⟨rfl, rfl, rfl⟩, hm⟩
set_option maxHeartbeats 4000000 in
set_option maxRecDepth 100000 in
theorem l8_undo_22 {z : ZG} {d sz r n s : Nat} {g : AH} {l sp nu rs rm sc mk : Int} {T RA RD MA SD KP : Nat → Int} {NW0 : Nat → Int} {k : Nat} (hk : k ≤ 5) : ∀ (f : Nat) (i : Nat) (NW : Nat → Int) (h : AH), i ≤ 42 → 42 - i < f → (∀ j : Nat, j < 42 → NW j = if j < i then KP (42 * k + j) else NW0 j) → MS g r n s l sp nu rs rm sc mk k T RA RD MA NW SD KP h → V z YX8_undo (zroom d 0 0) (fun w h' sz' => w = some (.int (I k)) ∧ sz' = sz ∧ MS g r n s l sp nu rs rm sc mk k T RA RD MA (fun j => KP (42 * k + j)) SD KP h') 22 [some (.ref r), some (.int (I (i : Int)))] [] h sz 0 0 := by
  intro f
  induction f with
  | zero => intro i NW h h1 h2; omega
  | succ f ih =>
    intro i NW h h1 h2 hz hm
    refine V_iload_n dX8_undo_22 rfl ?_
    refine J_bipush dX8_undo_23 (by decide) ?_
    refine J_icmp_ge (tgt := 54) dX8_undo_25 (by decide) (by omega) (by omega) (fun c25 => ?_) (fun c25 => ?_)
    · refine V_aload_n dX8_undo_54 rfl ?_
      refine V_get dX8_undo_55 fX8_50 hm.1 rfl ?_
      exact V_iret dX8_undo_58 rfl rfl ⟨Nat.zero_le _, Nat.zero_le _⟩ ⟨rfl, rfl, hm.eNW (fun j hj => by rw [hz j hj, if_pos (by omega)])⟩
    · refine V_aload_n dX8_undo_28 rfl ?_
      refine V_get dX8_undo_29 fX8_22 hm.1 rfl ?_
      refine V_iload_n dX8_undo_32 rfl ?_
      refine V_aload_n dX8_undo_33 rfl ?_
      refine V_get dX8_undo_34 fX8_28 hm.1 rfl ?_
      refine J_bipush dX8_undo_37 (by decide) ?_
      refine V_aload_n dX8_undo_39 rfl ?_
      refine V_get dX8_undo_40 fX8_50 hm.1 rfl ?_
      refine J_imul dX8_undo_43 ?_
      refine V_iload_n dX8_undo_44 rfl ?_
      refine J_iadd dX8_undo_45 ?_
      refine R_aldk_KP (42 * k + i) dX8_undo_46 hm (by omega) (by omega) ?_
      refine R_astk_NW i dX8_undo_47 hm (by omega) (by omega) (fun h hm => ?_)
      refine J_iinc dX8_undo_48 rfl ?_
      refine V_goto (tgt := 22) dX8_undo_51 (by decide) ?_
      refine ih (i + 1) _ h (by omega) (by omega) ?_ hm
      intro j hj
      have e := hz j hj
      simp only [va_up]
      by_cases q1 : j = i
      · subst q1; rw [if_pos rfl, if_pos (by omega)]
      · rw [if_neg q1, e]; split <;> split <;> first | rfl | omega
set_option maxHeartbeats 4000000 in
set_option maxRecDepth 100000 in
theorem m8_undo {z : ZG} {d sz r n s : Nat} {g h : AH} {l sp nu rs rm sc mk km : Int} {T RA RD MA NW SD KP : Nat → Int} (hm : MS g r n s l sp nu rs rm sc mk km T RA RD MA NW SD KP h) (hk : 0 ≤ km ∧ km ≤ 6) : M z YX8_undo d 0 0 [.ref r] h sz (fun w h' sz' => sz' = sz ∧ ((km = 0 ∧ w = some (.int (I (-2))) ∧ MS g r n s l sp nu rs rm sc mk km T RA RD MA NW SD KP h') ∨ (∃ k : Nat, km = k + 1 ∧ w = some (.int (I k)) ∧ MS g r n s l sp nu rs rm sc mk k T RA RD MA (fun j => KP (42 * k + j)) SD KP h'))) := by
  refine M.of (by decide +kernel) (Nat.le_of_ble_eq_true rfl) ?_
  refine V_aload_n dX8_undo_0 rfl ?_
  refine V_get dX8_undo_1 fX8_50 hm.1 rfl ?_
  refine J_if_ne (tgt := 10) dX8_undo_4 (by decide) (by omega) (fun c4 => ?_) (fun c4 => ?_)
  · refine V_aload_n dX8_undo_10 rfl ?_
    refine V_dup dX8_undo_11 rfl ?_
    refine V_get dX8_undo_12 fX8_50 hm.1 rfl ?_
    refine J_iconst dX8_undo_15 ?_
    refine J_isub dX8_undo_16 ?_
    refine R_put_14 dX8_undo_17 fX8_50 hm (fun h hm => ?_)
    refine J_iconst dX8_undo_20 ?_
    refine V_istore_n dX8_undo_21 (Nat.le_of_ble_eq_true rfl) ?_
    obtain ⟨k, rfl⟩ : ∃ k : Nat, km = k + 1 := ⟨(km - 1).toNat, by omega⟩
    rw [show ((k : Int) + 1 - 1) = k by omega] at hm
    refine V_mono ?_ (l8_undo_22 (NW0 := NW) (k := k) (by omega) 43 0 _ _ (by omega) (by omega) (fun j hj => by rw [if_neg (by omega)]) hm)
    rintro w h2 sz2 ⟨rfl, rfl, hm⟩
    exact ⟨rfl, Or.inr ⟨k, rfl, rfl, hm⟩⟩
  · refine J_bipush dX8_undo_7 (by decide) ?_
    exact V_iret dX8_undo_9 rfl rfl ⟨Nat.zero_le _, Nat.zero_le _⟩ ⟨rfl, Or.inl ⟨by omega, rfl, hm⟩⟩
