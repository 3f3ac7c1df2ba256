/-! THE REFERENCE: the setup text read -/
noncomputable def cIf {α : Type} (c : Prop) (a b : α) : α := @ite α c (Classical.propDecidable c) a b
theorem cIf_p {α : Type} {c : Prop} {a b : α} (h : c) : cIf c a b = a := by unfold cIf; rw [if_pos h]
theorem cIf_n {α : Type} {c : Prop} {a b : α} (h : ¬ c) : cIf c a b = b := by unfold cIf; rw [if_neg h]
/-- up to k digits from a spot on: how many, and the number that they continue -/
def dgN (T : Nat → Int) (l : Int) : Nat → Int → Int → Nat × Int
  | 0, _, nu => (0, nu)
  | k + 1, sp, nu => if 48 ≤ lh T l sp ∧ lh T l sp ≤ 57 then ((dgN T l k (sp + 1) (10 * nu + lh T l sp - 48)).1 + 1, (dgN T l k (sp + 1) (10 * nu + lh T l sp - 48)).2) else (0, nu)
theorem dgN_s {T : Nat → Int} {l sp nu : Int} {k : Nat} : dgN T l (k + 1) sp nu = if 48 ≤ lh T l sp ∧ lh T l sp ≤ 57 then ((dgN T l k (sp + 1) (10 * nu + lh T l sp - 48)).1 + 1, (dgN T l k (sp + 1) (10 * nu + lh T l sp - 48)).2) else (0, nu) := rfl
theorem dgN_rg {T : Nat → Int} {l : Int} : ∀ (k j : Nat) (sp nu : Int), j + k = 4 → 0 ≤ nu → ((j = 0 ∧ nu = 0) ∨ (j = 1 ∧ nu ≤ 9) ∨ (j = 2 ∧ nu ≤ 99) ∨ (j = 3 ∧ nu ≤ 999) ∨ (j = 4 ∧ nu ≤ 9999)) → (dgN T l k sp nu).1 ≤ k ∧ 0 ≤ (dgN T l k sp nu).2 ∧ (dgN T l k sp nu).2 ≤ 9999 := by
  intro k
  induction k with
  | zero => intro j sp nu h1 h2 h3; exact ⟨Nat.le_refl _, h2, by show nu ≤ 9999; omega⟩
  | succ k ih =>
    intro j sp nu h1 h2 h3
    rw [dgN_s]
    split
    · have := ih (j + 1) (sp + 1) (10 * nu + lh T l sp - 48) (by omega) (by omega) (by omega)
      exact ⟨by show _ + 1 ≤ k + 1; omega, this.2⟩
    · exact ⟨Nat.zero_le _, h2, by show nu ≤ 9999; omega⟩
/-- the number at a spot, the spot behind it and its sign, whether it is one -/
def nmN (T : Nat → Int) (l sp : Int) : Int := (dgN T l 4 sp 0).2
def nmS (T : Nat → Int) (l sp : Int) : Int := sp + (dgN T l 4 sp 0).1 + 1
def nmO (T : Nat → Int) (l sp lo hi bh : Int) : Prop := 0 < (dgN T l 4 sp 0).1 ∧ (lo ≤ nmN T l sp ∧ nmN T l sp ≤ hi) ∧ lh T l (sp + (dgN T l 4 sp 0).1) = bh
theorem nm_rg {T : Nat → Int} {l sp : Int} : (0 ≤ nmN T l sp ∧ nmN T l sp ≤ 9999) ∧ sp + 1 ≤ nmS T l sp ∧ nmS T l sp ≤ sp + 5 := by
  have := dgN_rg (T := T) (l := l) 4 0 sp 0 (by omega) (by omega) (by omega)
  unfold nmN nmS
  omega
set_option maxHeartbeats 4000000 in
set_option maxRecDepth 100000 in
theorem l8_isNumber_66 {z : ZG} {d sz r n s : Nat} {g h : AH} {l sp nu rs rm sc mk km : Int} {T RA RD MA NW SD KP : Nat → Int} {lo hi bh : Int} {j : Nat} {o5 : Option Value} (hT : ∀ j, j < 200 → 0 ≤ T j ∧ T j ≤ 126) (hl : 0 ≤ l ∧ l ≤ 200) (hb : (0 ≤ lo ∧ lo ≤ 9999) ∧ (0 ≤ hi ∧ hi ≤ 9999) ∧ (0 ≤ bh ∧ bh ≤ 126)) (hsp : 0 ≤ sp ∧ sp ≤ 9999) (hj : j ≤ 4) (hnu : 0 ≤ nu ∧ nu ≤ 99999) (hm : MS g r n s l sp nu rs rm sc mk km T RA RD MA NW SD KP h) : V z YX8_isNumber (zroom (d + 1) 0 0) (fun w h' sz' => ∃ t : Int, w = some (.int (I t)) ∧ ((t = 1 ∧ 0 < j ∧ (lo ≤ nu ∧ nu ≤ hi) ∧ lh T l sp = bh) ∨ (t = 0 ∧ ¬ (0 < j ∧ (lo ≤ nu ∧ nu ≤ hi) ∧ lh T l sp = bh))) ∧ sz' = sz ∧ MS g r n s l (sp + 1) nu rs rm sc mk km T RA RD MA NW SD KP h') 66 [some (.ref r), some (.int (I lo)), some (.int (I hi)), some (.int (I bh)), some (.int (I (j : Int))), o5] [] h sz 0 0 := by
  have hlr := lh_rg (l := l) (sp := sp) hT (by omega)
  refine V_iload dX8_isNumber_66 rfl ?_
  refine J_if_le (tgt := 98) dX8_isNumber_68 (by decide) (by omega) (fun c68 => ?_) (fun c68 => ?_)
  · refine J_iconst dX8_isNumber_98 ?_
    refine V_istore dX8_isNumber_99 (Nat.le_of_ble_eq_true rfl) ?_
    refine V_aload_n dX8_isNumber_101 rfl ?_
    refine V_dup dX8_isNumber_102 rfl ?_
    refine V_get dX8_isNumber_103 fX8_64 hm.1 rfl ?_
    refine J_iconst dX8_isNumber_106 ?_
    refine J_iadd dX8_isNumber_107 ?_
    refine R_put_2 dX8_isNumber_108 fX8_64 hm (fun h hm => ?_)
    refine V_iload dX8_isNumber_111 rfl ?_
    exact V_iret dX8_isNumber_113 rfl rfl ⟨Nat.zero_le _, Nat.zero_le _⟩ ⟨_, rfl, by omega, rfl, hm⟩
  · refine V_aload_n dX8_isNumber_71 rfl ?_
    refine V_get dX8_isNumber_72 fX8_67 hm.1 rfl ?_
    refine J_i2l dX8_isNumber_75 (by omega) ?_
    refine V_iload_n dX8_isNumber_76 rfl ?_
    refine J_i2l dX8_isNumber_77 (by omega) ?_
    refine V_iload_n dX8_isNumber_78 rfl ?_
    refine J_i2l dX8_isNumber_79 (by omega) ?_
    refine V_callS (Y' := YX8_in) dX8_isNumber_80 lX8_57 gX8_in (m8_in (by omega) (by omega) (by omega)) rfl rfl (Nat.le_of_ble_eq_true rfl) ⟨Nat.zero_le _, Nat.zero_le _⟩ (fun v h1 sz1 hq => ?_)
    obtain ⟨t80, rfl, ht80, rfl, rfl⟩ := hq
    refine J_if_eq (tgt := 98) dX8_isNumber_83 (by decide) (by omega) (fun c83 => ?_) (fun c83 => ?_)
    · refine J_iconst dX8_isNumber_98 ?_
      refine V_istore dX8_isNumber_99 (Nat.le_of_ble_eq_true rfl) ?_
      refine V_aload_n dX8_isNumber_101 rfl ?_
      refine V_dup dX8_isNumber_102 rfl ?_
      refine V_get dX8_isNumber_103 fX8_64 hm.1 rfl ?_
      refine J_iconst dX8_isNumber_106 ?_
      refine J_iadd dX8_isNumber_107 ?_
      refine R_put_2 dX8_isNumber_108 fX8_64 hm (fun h hm => ?_)
      refine V_iload dX8_isNumber_111 rfl ?_
      exact V_iret dX8_isNumber_113 rfl rfl ⟨Nat.zero_le _, Nat.zero_le _⟩ ⟨_, rfl, by omega, rfl, hm⟩
    · refine V_aload_n dX8_isNumber_86 rfl ?_
      refine V_callV (Y' := YX8_letterHere) dX8_isNumber_87 lX8_70 gX8_letterHere (m8_letterHere hm hl (by omega)) hm.1 rfl rfl rfl (Nat.le_of_ble_eq_true rfl) ⟨Nat.zero_le _, Nat.zero_le _⟩ (fun v h1 sz1 hq => ?_)
      obtain ⟨rfl, rfl, rfl⟩ := hq
      refine V_iload_n dX8_isNumber_90 rfl ?_
      refine J_icmp_ne (tgt := 98) dX8_isNumber_91 (by decide) (by omega) (by omega) (fun c91 => ?_) (fun c91 => ?_)
      · refine J_iconst dX8_isNumber_98 ?_
        refine V_istore dX8_isNumber_99 (Nat.le_of_ble_eq_true rfl) ?_
        refine V_aload_n dX8_isNumber_101 rfl ?_
        refine V_dup dX8_isNumber_102 rfl ?_
        refine V_get dX8_isNumber_103 fX8_64 hm.1 rfl ?_
        refine J_iconst dX8_isNumber_106 ?_
        refine J_iadd dX8_isNumber_107 ?_
        refine R_put_2 dX8_isNumber_108 fX8_64 hm (fun h hm => ?_)
        refine V_iload dX8_isNumber_111 rfl ?_
        exact V_iret dX8_isNumber_113 rfl rfl ⟨Nat.zero_le _, Nat.zero_le _⟩ ⟨_, rfl, by omega, rfl, hm⟩
      · refine J_iconst dX8_isNumber_94 ?_
        refine V_goto (tgt := 99) dX8_isNumber_95 (by decide) ?_
        refine V_istore dX8_isNumber_99 (Nat.le_of_ble_eq_true rfl) ?_
        refine V_aload_n dX8_isNumber_101 rfl ?_
        refine V_dup dX8_isNumber_102 rfl ?_
        refine V_get dX8_isNumber_103 fX8_64 hm.1 rfl ?_
        refine J_iconst dX8_isNumber_106 ?_
        refine J_iadd dX8_isNumber_107 ?_
        refine R_put_2 dX8_isNumber_108 fX8_64 hm (fun h hm => ?_)
        refine V_iload dX8_isNumber_111 rfl ?_
        exact V_iret dX8_isNumber_113 rfl rfl ⟨Nat.zero_le _, Nat.zero_le _⟩ ⟨_, rfl, by omega, rfl, hm⟩
set_option maxHeartbeats 4000000 in
set_option maxRecDepth 100000 in
theorem l8_isNumber_8 {z : ZG} {d sz r n s : Nat} {g : AH} {l rs rm sc mk km : Int} {T RA RD MA NW SD KP : Nat → Int} {lo hi bh : Int} (hT : ∀ j, j < 200 → 0 ≤ T j ∧ T j ≤ 126) (hl : 0 ≤ l ∧ l ≤ 200) (hb : (0 ≤ lo ∧ lo ≤ 9999) ∧ (0 ≤ hi ∧ hi ≤ 9999) ∧ (0 ≤ bh ∧ bh ≤ 126)) : ∀ (k j : Nat) (sp nu : Int) (h : AH) (o5 : Option Value), j + k = 4 → (0 ≤ sp ∧ sp + k ≤ 9999) → 0 ≤ nu → ((j = 0 ∧ nu = 0) ∨ (j = 1 ∧ nu ≤ 9) ∨ (j = 2 ∧ nu ≤ 99) ∨ (j = 3 ∧ nu ≤ 999) ∨ (j = 4 ∧ nu ≤ 9999)) → MS g r n s l sp nu rs rm sc mk km T RA RD MA NW SD KP h → V z YX8_isNumber (zroom (d + 1) 0 0) (fun w h' sz' => ∃ t : Int, w = some (.int (I t)) ∧ ((t = 1 ∧ 0 < j + (dgN T l k sp nu).1 ∧ (lo ≤ (dgN T l k sp nu).2 ∧ (dgN T l k sp nu).2 ≤ hi) ∧ lh T l (sp + (dgN T l k sp nu).1) = bh) ∨ (t = 0 ∧ ¬ (0 < j + (dgN T l k sp nu).1 ∧ (lo ≤ (dgN T l k sp nu).2 ∧ (dgN T l k sp nu).2 ≤ hi) ∧ lh T l (sp + (dgN T l k sp nu).1) = bh))) ∧ sz' = sz ∧ MS g r n s l (sp + (dgN T l k sp nu).1 + 1) (dgN T l k sp nu).2 rs rm sc mk km T RA RD MA NW SD KP h') 8 [some (.ref r), some (.int (I lo)), some (.int (I hi)), some (.int (I bh)), some (.int (I (j : Int))), o5] [] h sz 0 0 := by
  intro k
  induction k with
  | zero =>
    intro j sp nu h o5 h1 h2 h3 h4 hm
    have hlr := lh_rg (l := l) (sp := sp) hT (by omega)
    refine V_aload_n dX8_isNumber_8 rfl ?_
    refine V_callV (Y' := YX8_letterHere) dX8_isNumber_9 lX8_70 gX8_letterHere (m8_letterHere hm hl (by omega)) hm.1 rfl rfl rfl (Nat.le_of_ble_eq_true rfl) ⟨Nat.zero_le _, Nat.zero_le _⟩ (fun v h1 sz1 hq => ?_)
    obtain ⟨rfl, rfl, rfl⟩ := hq
    refine J_i2l dX8_isNumber_12 (by omega) ?_
    refine J_ldc2 48 dX8_isNumber_13 cX8_74 rfl ?_
    refine J_ldc2 57 dX8_isNumber_16 cX8_76 rfl ?_
    refine V_callS (Y' := YX8_in) dX8_isNumber_19 lX8_57 gX8_in (m8_in (by omega) (by omega) (by omega)) rfl rfl (Nat.le_of_ble_eq_true rfl) ⟨Nat.zero_le _, Nat.zero_le _⟩ (fun v h1 sz1 hq => ?_)
    obtain ⟨t19, rfl, ht19, rfl, rfl⟩ := hq
    refine J_if_eq (tgt := 66) dX8_isNumber_22 (by decide) (by omega) (fun c22 => ?_) (fun c22 => ?_)
    · refine V_mono ?_ (l8_isNumber_66 (j := j) hT hl hb (by omega) (by omega) (by omega) hm)
      rintro w h2 sz2 ⟨t, rfl, ht, rfl, hm⟩
      have e9 : dgN T l 0 sp nu = (0, nu) := rfl
      rw [e9]; exact ⟨t, rfl, by simpa using ht, rfl, by simpa using hm⟩
    · refine V_iload dX8_isNumber_25 rfl ?_
      refine J_iconst dX8_isNumber_27 ?_
      refine J_icmp_ge (tgt := 66) dX8_isNumber_28 (by decide) (by omega) (by omega) (fun c28 => ?_) (fun c28 => ?_)
      · refine V_mono ?_ (l8_isNumber_66 (j := j) hT hl hb (by omega) (by omega) (by omega) hm)
        rintro w h2 sz2 ⟨t, rfl, ht, rfl, hm⟩
        have e9 : dgN T l 0 sp nu = (0, nu) := rfl
        rw [e9]; exact ⟨t, rfl, by simpa using ht, rfl, by simpa using hm⟩
      · exfalso
        omega
  | succ k ih =>
    intro j sp nu h o5 h1 h2 h3 h4 hm
    have hlr := lh_rg (l := l) (sp := sp) hT (by omega)
    refine V_aload_n dX8_isNumber_8 rfl ?_
    refine V_callV (Y' := YX8_letterHere) dX8_isNumber_9 lX8_70 gX8_letterHere (m8_letterHere hm hl (by omega)) hm.1 rfl rfl rfl (Nat.le_of_ble_eq_true rfl) ⟨Nat.zero_le _, Nat.zero_le _⟩ (fun v h1 sz1 hq => ?_)
    obtain ⟨rfl, rfl, rfl⟩ := hq
    refine J_i2l dX8_isNumber_12 (by omega) ?_
    refine J_ldc2 48 dX8_isNumber_13 cX8_74 rfl ?_
    refine J_ldc2 57 dX8_isNumber_16 cX8_76 rfl ?_
    refine V_callS (Y' := YX8_in) dX8_isNumber_19 lX8_57 gX8_in (m8_in (by omega) (by omega) (by omega)) rfl rfl (Nat.le_of_ble_eq_true rfl) ⟨Nat.zero_le _, Nat.zero_le _⟩ (fun v h1 sz1 hq => ?_)
    obtain ⟨t19, rfl, ht19, rfl, rfl⟩ := hq
    refine J_if_eq (tgt := 66) dX8_isNumber_22 (by decide) (by omega) (fun c22 => ?_) (fun c22 => ?_)
    · refine V_mono ?_ (l8_isNumber_66 (j := j) hT hl hb (by omega) (by omega) (by omega) hm)
      rintro w h2 sz2 ⟨t, rfl, ht, rfl, hm⟩
      have e9 : dgN T l (k + 1) sp nu = (0, nu) := by rw [dgN_s, if_neg (by omega)]
      rw [e9]; exact ⟨t, rfl, by simpa using ht, rfl, by simpa using hm⟩
    · refine V_iload dX8_isNumber_25 rfl ?_
      refine J_iconst dX8_isNumber_27 ?_
      refine J_icmp_ge (tgt := 66) dX8_isNumber_28 (by decide) (by omega) (by omega) (fun c28 => ?_) (fun c28 => ?_)
      · refine V_mono ?_ (l8_isNumber_66 (j := j) hT hl hb (by omega) (by omega) (by omega) hm)
        rintro w h2 sz2 ⟨t, rfl, ht, rfl, hm⟩
        have e9 : dgN T l (k + 1) sp nu = (0, nu) := by rw [dgN_s, if_neg (by omega)]
        rw [e9]; exact ⟨t, rfl, by simpa using ht, rfl, by simpa using hm⟩
      · refine V_aload_n dX8_isNumber_31 rfl ?_
        refine J_bipush dX8_isNumber_32 (by decide) ?_
        refine V_aload_n dX8_isNumber_34 rfl ?_
        refine V_get dX8_isNumber_35 fX8_67 hm.1 rfl ?_
        refine J_imul dX8_isNumber_38 ?_
        refine V_aload_n dX8_isNumber_39 rfl ?_
        refine V_callV (Y' := YX8_letterHere) dX8_isNumber_40 lX8_70 gX8_letterHere (m8_letterHere hm hl (by omega)) hm.1 rfl rfl rfl (Nat.le_of_ble_eq_true rfl) ⟨Nat.zero_le _, Nat.zero_le _⟩ (fun v h1 sz1 hq => ?_)
        obtain ⟨rfl, rfl, rfl⟩ := hq
        refine J_iadd dX8_isNumber_43 ?_
        refine J_bipush dX8_isNumber_44 (by decide) ?_
        refine J_isub dX8_isNumber_46 ?_
        refine R_put_3 dX8_isNumber_47 fX8_67 hm (fun h hm => ?_)
        refine J_iinc dX8_isNumber_50 rfl ?_
        refine V_aload_n dX8_isNumber_53 rfl ?_
        refine V_dup dX8_isNumber_54 rfl ?_
        refine V_get dX8_isNumber_55 fX8_64 hm.1 rfl ?_
        refine J_iconst dX8_isNumber_58 ?_
        refine J_iadd dX8_isNumber_59 ?_
        refine R_put_2 dX8_isNumber_60 fX8_64 hm (fun h hm => ?_)
        refine V_goto (tgt := 8) dX8_isNumber_63 (by decide) ?_
        refine V_mono ?_ (ih (j + 1) (sp + 1) _ _ _ (by omega) (by omega) (by omega) (by omega) hm)
        rintro w h2 sz2 ⟨t, rfl, ht, rfl, hm⟩
        have e9 : dgN T l (k + 1) sp nu = ((dgN T l k (sp + 1) (10 * nu + lh T l sp - 48)).1 + 1, (dgN T l k (sp + 1) (10 * nu + lh T l sp - 48)).2) := by rw [dgN_s, if_pos (by omega)]
        rw [e9]
        dsimp only
        refine ⟨t, rfl, ?_, rfl, ?_⟩
        · rw [show sp + (((dgN T l k (sp + 1) (10 * nu + lh T l sp - 48)).1 + 1 : Nat) : Int) = sp + 1 + ((dgN T l k (sp + 1) (10 * nu + lh T l sp - 48)).1 : Int) by omega, show j + ((dgN T l k (sp + 1) (10 * nu + lh T l sp - 48)).1 + 1) = j + 1 + (dgN T l k (sp + 1) (10 * nu + lh T l sp - 48)).1 by omega]; exact ht
        · rw [show sp + (((dgN T l k (sp + 1) (10 * nu + lh T l sp - 48)).1 + 1 : Nat) : Int) + 1 = sp + 1 + ((dgN T l k (sp + 1) (10 * nu + lh T l sp - 48)).1 : Int) + 1 by omega]; exact hm
set_option maxHeartbeats 4000000 in
set_option maxRecDepth 100000 in
theorem m8_isNumber {z : ZG} {d sz r n s : Nat} {g h : AH} {l sp nu rs rm sc mk km : Int} {T RA RD MA NW SD KP : Nat → Int} {lo hi bh : Int} (hT : ∀ j, j < 200 → 0 ≤ T j ∧ T j ≤ 126) (hl : 0 ≤ l ∧ l ≤ 200) (hb : (0 ≤ lo ∧ lo ≤ 9999) ∧ (0 ≤ hi ∧ hi ≤ 9999) ∧ (0 ≤ bh ∧ bh ≤ 126)) (hsp : 0 ≤ sp ∧ sp ≤ 9000) (hm : MS g r n s l sp nu rs rm sc mk km T RA RD MA NW SD KP h) : M z YX8_isNumber (d + 1) 0 0 [.ref r, .int (I lo), .int (I hi), .int (I bh)] h sz (fun w h' sz' => ∃ t : Int, w = some (.int (I t)) ∧ ((t = 1 ∧ nmO T l sp lo hi bh) ∨ (t = 0 ∧ ¬ nmO T l sp lo hi bh)) ∧ sz' = sz ∧ MS g r n s l (nmS T l sp) (nmN T l sp) rs rm sc mk km T RA RD MA NW SD KP h') := by
  refine M.of (by decide +kernel) (Nat.le_of_ble_eq_true rfl) ?_
  refine V_aload_n dX8_isNumber_0 rfl ?_
  refine J_iconst dX8_isNumber_1 ?_
  refine R_put_3 dX8_isNumber_2 fX8_67 hm (fun h hm => ?_)
  refine J_iconst dX8_isNumber_5 ?_
  refine V_istore dX8_isNumber_6 (Nat.le_of_ble_eq_true rfl) ?_
  refine V_mono ?_ (l8_isNumber_8 hT hl hb 4 0 sp 0 _ _ (by omega) (by omega) (by omega) (by omega) hm)
  rintro w h2 sz2 ⟨t, rfl, ht, rfl, hm⟩
  exact ⟨t, rfl, by unfold nmO nmN; simpa using ht, rfl, hm⟩
abbrev RO : Type := Int × Int × Int × (Nat → Int) × (Nat → Int)
/-- one statement: the spot behind it, and what was read so far; none where it is invalid -/
noncomputable def stF (T : Nat → Int) (l sp rs rm : Int) (RA RD : Nat → Int) : Option RO :=
  cIf (lh T l sp = 112) (cIf (nmO T l (sp + 1) 8 80 59 ∧ nmN T l (sp + 1) % 4 = 0) (some (nmS T l (sp + 1), nmN T l (sp + 1), rm, RA, RD)) none)
  (cIf (lh T l sp = 105) (cIf (nmO T l (sp + 1) 8 80 44 ∧ nmO T l (nmS T l (sp + 1)) 0 79 59) (some (nmS T l (nmS T l (sp + 1)), rs, rm, RA, va_up (va_up RD 6 (nmN T l (sp + 1))) 7 (nmN T l (nmS T l (sp + 1))))) none)
  (cIf (lh T l sp = 109) (cIf (nmO T l (sp + 1) 1 4 59 ∧ ¬ nmN T l (sp + 1) = 3) (some (nmS T l (sp + 1), rs, rm, RA, va_up RD 5 (nmN T l (sp + 1)))) none)
  (cIf (lh T l sp = 114) (cIf (nmO T l (sp + 1) 0 9999 59 ∧ ¬ rm = 6 ∧ ¬ (0 < rm ∧ nmN T l (sp + 1) ≤ RA (rm - 1).toNat)) (some (nmS T l (sp + 1), rs, rm + 1, va_up RA rm.toNat (nmN T l (sp + 1)), RD)) none)
  (cIf (lh T l sp = 100) (cIf (nmO T l (sp + 1) 0 9999 44 ∧ ¬ RD 8 = 4 ∧ nmO T l (nmS T l (sp + 1)) 1 99 59) (some (nmS T l (nmS T l (sp + 1)), rs, rm, RA, adR RD (RD 8).toNat (nmN T l (sp + 1)) (nmN T l (nmS T l (sp + 1))))) none) none))))
set_option maxHeartbeats 4000000 in
set_option maxRecDepth 100000 in
theorem m8_dirtStatement {z : ZG} {d sz r n s : Nat} {g h : AH} {l sp nu rs rm sc mk km : Int} {T RA RD MA NW SD KP : Nat → Int} (hT : ∀ j, j < 200 → 0 ≤ T j ∧ T j ≤ 126) (hl : 0 ≤ l ∧ l ≤ 200) (h8 : 0 ≤ RD 8 ∧ RD 8 ≤ 4) (hsp : 0 ≤ sp ∧ sp ≤ 1000) (hm : MS g r n s l sp nu rs rm sc mk km T RA RD MA NW SD KP h) : M z YX8_dirtStatement (d + 2) 0 0 [.ref r] h sz (fun w h' sz' => sz' = sz ∧ ∃ t : Int, w = some (.int (I t)) ∧ ((t = 1 ∧ (nmO T l sp 0 9999 44 ∧ ¬ RD 8 = 4 ∧ nmO T l (nmS T l sp) 1 99 59) ∧ ∃ nu2 : Int, MS g r n s l (nmS T l (nmS T l sp)) nu2 rs rm sc mk km T RA (adR RD (RD 8).toNat (nmN T l sp) (nmN T l (nmS T l sp))) MA NW SD KP h') ∨ (t = 0 ∧ ¬ (nmO T l sp 0 9999 44 ∧ ¬ RD 8 = 4 ∧ nmO T l (nmS T l sp) 1 99 59) ∧ ∃ (sp2 nu2 : Int) (RD2 : Nat → Int), MS g r n s l sp2 nu2 rs rm sc mk km T RA RD2 MA NW SD KP h'))) := by
  refine M.of (by decide +kernel) (Nat.le_of_ble_eq_true rfl) ?_
  have hn1 := nm_rg (T := T) (l := l) (sp := sp)
  have hn2 := nm_rg (T := T) (l := l) (sp := nmS T l sp)
  refine V_aload_n dX8_dirtStatement_0 rfl ?_
  refine J_iconst dX8_dirtStatement_1 ?_
  refine J_sipush dX8_dirtStatement_2 (by decide) ?_
  refine J_bipush dX8_dirtStatement_5 (by decide) ?_
  refine V_callV (Y' := YX8_isNumber) dX8_dirtStatement_7 lX8_78 gX8_isNumber (m8_isNumber hT hl (by omega) (by omega) hm) hm.1 rfl rfl rfl (Nat.le_of_ble_eq_true rfl) ⟨Nat.zero_le _, Nat.zero_le _⟩ (fun v h1 sz1 hq => ?_)
  obtain ⟨t7, rfl, ht7, rfl, hm⟩ := hq
  have tr7 : t7 = 1 ∨ t7 = 0 := ht7.imp (fun q => q.1) (fun q => q.1)
  refine J_if_eq (tgt := 24) dX8_dirtStatement_10 (by decide) (by omega) (fun c10 => ?_) (fun c10 => ?_)
  · refine J_iconst dX8_dirtStatement_24 ?_
    exact V_iret dX8_dirtStatement_25 rfl rfl ⟨Nat.zero_le _, Nat.zero_le _⟩ ⟨rfl, _, rfl, Or.inr ⟨rfl, fun q => by first | exact absurd q.1 (ht7.elim (fun q => absurd q.1 (by omega)) (fun q => q.2)) | exact q.2.1 (by omega), _, _, _, hm⟩⟩
  · refine V_aload_n dX8_dirtStatement_13 rfl ?_
    refine V_get dX8_dirtStatement_14 fX8_16 hm.1 rfl ?_
    refine J_bipush dX8_dirtStatement_17 (by decide) ?_
    refine R_aldk_RD 8 dX8_dirtStatement_19 hm rfl (by decide) ?_
    refine J_iconst dX8_dirtStatement_20 ?_
    refine J_icmp_ne (tgt := 26) dX8_dirtStatement_21 (by decide) (by omega) (by omega) (fun c21 => ?_) (fun c21 => ?_)
    · obtain ⟨e, he⟩ : ∃ e : Nat, RD 8 = e := ⟨(RD 8).toNat, by omega⟩
      refine J_bipush dX8_dirtStatement_26 (by decide) ?_
      refine J_iconst dX8_dirtStatement_28 ?_
      refine V_aload_n dX8_dirtStatement_29 rfl ?_
      refine V_get dX8_dirtStatement_30 fX8_16 hm.1 rfl ?_
      refine J_bipush dX8_dirtStatement_33 (by decide) ?_
      refine R_aldk_RD 8 dX8_dirtStatement_35 hm rfl (by decide) ?_
      refine J_imul dX8_dirtStatement_36 ?_
      refine J_iadd dX8_dirtStatement_37 ?_
      refine V_istore_n dX8_dirtStatement_38 (Nat.le_of_ble_eq_true rfl) ?_
      refine V_aload_n dX8_dirtStatement_39 rfl ?_
      refine V_get dX8_dirtStatement_40 fX8_16 hm.1 rfl ?_
      refine V_iload_n dX8_dirtStatement_43 rfl ?_
      refine V_aload_n dX8_dirtStatement_44 rfl ?_
      refine V_get dX8_dirtStatement_45 fX8_67 hm.1 rfl ?_
      refine R_astk_RD (9 + 2 * e) dX8_dirtStatement_48 hm (by omega) (by omega) (fun h hm => ?_)
      refine V_aload_n dX8_dirtStatement_49 rfl ?_
      refine J_iconst dX8_dirtStatement_50 ?_
      refine J_bipush dX8_dirtStatement_51 (by decide) ?_
      refine J_bipush dX8_dirtStatement_53 (by decide) ?_
      refine V_callV (Y' := YX8_isNumber) dX8_dirtStatement_55 lX8_78 gX8_isNumber (m8_isNumber hT hl (by omega) (by omega) hm) hm.1 rfl rfl rfl (Nat.le_of_ble_eq_true rfl) ⟨Nat.zero_le _, Nat.zero_le _⟩ (fun v h1 sz1 hq => ?_)
      obtain ⟨t55, rfl, ht55, rfl, hm⟩ := hq
      have tr55 : t55 = 1 ∨ t55 = 0 := ht55.imp (fun q => q.1) (fun q => q.1)
      refine J_if_ne (tgt := 63) dX8_dirtStatement_58 (by decide) (by omega) (fun c58 => ?_) (fun c58 => ?_)
      · refine V_aload_n dX8_dirtStatement_63 rfl ?_
        refine V_get dX8_dirtStatement_64 fX8_16 hm.1 rfl ?_
        refine V_iload_n dX8_dirtStatement_67 rfl ?_
        refine J_iconst dX8_dirtStatement_68 ?_
        refine J_iadd dX8_dirtStatement_69 ?_
        refine V_aload_n dX8_dirtStatement_70 rfl ?_
        refine V_get dX8_dirtStatement_71 fX8_67 hm.1 rfl ?_
        refine R_astk_RD (10 + 2 * e) dX8_dirtStatement_74 hm (by omega) (by omega) (fun h hm => ?_)
        refine V_aload_n dX8_dirtStatement_75 rfl ?_
        refine V_get dX8_dirtStatement_76 fX8_16 hm.1 rfl ?_
        refine J_bipush dX8_dirtStatement_79 (by decide) ?_
        refine V_dup2 dX8_dirtStatement_81 rfl rfl ?_
        refine R_aldk_RD 8 dX8_dirtStatement_82 hm rfl (by decide) ?_
        have e2 : va_up (va_up RD (9 + 2 * e) (nmN T l sp)) (10 + 2 * e) (nmN T l (nmS T l sp)) 8 = RD 8 := (if_neg (by omega)).trans (if_neg (by omega))
        rw [e2]
        refine J_iconst dX8_dirtStatement_83 ?_
        refine J_iadd dX8_dirtStatement_84 ?_
        refine R_astk_RD 8 dX8_dirtStatement_85 hm rfl (by decide) (fun h hm => ?_)
        refine J_iconst dX8_dirtStatement_86 ?_
        exact V_iret dX8_dirtStatement_87 rfl rfl ⟨Nat.zero_le _, Nat.zero_le _⟩ ⟨rfl, _, rfl, Or.inl ⟨rfl, ⟨(ht7.elim (fun q => q.2) (fun q => absurd q.1 (by omega))), by omega, (ht55.elim (fun q => q.2) (fun q => absurd q.1 (by omega)))⟩, _, hm.eRD (fun j hj => by unfold adR; rw [he, Int.toNat_natCast])⟩⟩
      · refine J_iconst dX8_dirtStatement_61 ?_
        exact V_iret dX8_dirtStatement_62 rfl rfl ⟨Nat.zero_le _, Nat.zero_le _⟩ ⟨rfl, _, rfl, Or.inr ⟨rfl, fun q => absurd q.2.2 (ht55.elim (fun q => absurd q.1 (by omega)) (fun q => q.2)), _, _, _, hm⟩⟩
    · refine J_iconst dX8_dirtStatement_24 ?_
      exact V_iret dX8_dirtStatement_25 rfl rfl ⟨Nat.zero_le _, Nat.zero_le _⟩ ⟨rfl, _, rfl, Or.inr ⟨rfl, fun q => by first | exact absurd q.1 (ht7.elim (fun q => absurd q.1 (by omega)) (fun q => q.2)) | exact q.2.1 (by omega), _, _, _, hm⟩⟩
theorem st_def {x : Int} (h : ¬ (x < 100 ∨ 114 < x)) (h2 : ¬ x = 112 ∧ ¬ x = 105 ∧ ¬ x = 109 ∧ ¬ x = 114 ∧ ¬ x = 100) : (#[270, 275, 275, 275, 275, 110, 275, 275, 275, 163, 275, 275, 76, 275, 196] : Array Int)[(x - 100).toNat]? = some 275 := by
  obtain ⟨k, rfl, hk⟩ : ∃ k : Nat, x = 100 + k ∧ k < 15 := ⟨(x - 100).toNat, by omega, by omega⟩
  rw [show (100 + (k : Int) - 100).toNat = k by omega]
  match k, hk with
  | 0, _ => omega
  | 1, _ => rfl
  | 2, _ => rfl
  | 3, _ => rfl
  | 4, _ => rfl
  | 5, _ => omega
  | 6, _ => rfl
  | 7, _ => rfl
  | 8, _ => rfl
  | 9, _ => omega
  | 10, _ => rfl
  | 11, _ => rfl
  | 12, _ => omega
  | 13, _ => rfl
  | 14, _ => omega
set_option maxHeartbeats 4000000 in
set_option maxRecDepth 100000 in
theorem m8_statement {z : ZG} {d sz r n s : Nat} {g h : AH} {l sp nu rs rm sc mk km : Int} {T RA RD MA NW SD KP : Nat → Int} (hT : ∀ j, j < 200 → 0 ≤ T j ∧ T j ≤ 126) (hl : 0 ≤ l ∧ l ≤ 200) (h8 : 0 ≤ RD 8 ∧ RD 8 ≤ 4) (hrm : 0 ≤ rm ∧ rm ≤ 6) (hra : ∀ j : Nat, j < 6 → 0 ≤ RA j ∧ RA j ≤ 9999) (hsp : 0 ≤ sp ∧ sp ≤ 900) (hm : MS g r n s l sp nu rs rm sc mk km T RA RD MA NW SD KP h) : M z YX8_statement (d + 3) 0 0 [.ref r] h sz (fun w h' sz' => sz' = sz ∧ ∃ t : Int, w = some (.int (I t)) ∧ ((t = 1 ∧ ∃ u : RO, stF T l sp rs rm RA RD = some u ∧ ∃ nu2 : Int, MS g r n s l u.1 nu2 u.2.1 u.2.2.1 sc mk km T u.2.2.2.1 u.2.2.2.2 MA NW SD KP h') ∨ (t = 0 ∧ stF T l sp rs rm RA RD = none ∧ ∃ (sp2 nu2 : Int) (RD2 : Nat → Int), MS g r n s l sp2 nu2 rs rm sc mk km T RA RD2 MA NW SD KP h'))) := by
  refine M.of (by decide +kernel) (Nat.le_of_ble_eq_true rfl) ?_
  have hlr := lh_rg (l := l) (sp := sp) hT (by omega)
  have hn1 := nm_rg (T := T) (l := l) (sp := sp + 1)
  have hn2 := nm_rg (T := T) (l := l) (sp := nmS T l (sp + 1))
  have hLI : (I (lh T l sp)).toInt = lh T l sp := I_toInt (by omega)
  refine V_aload_n dX8_statement_0 rfl ?_
  refine V_callV (Y' := YX8_letterHere) dX8_statement_1 lX8_70 gX8_letterHere (m8_letterHere hm hl (by omega)) hm.1 rfl rfl rfl (Nat.le_of_ble_eq_true rfl) ⟨Nat.zero_le _, Nat.zero_le _⟩ (fun v h1 sz1 hq => ?_)
  obtain ⟨rfl, rfl, rfl⟩ := hq
  refine V_istore_n dX8_statement_4 (Nat.le_of_ble_eq_true rfl) ?_
  refine V_aload_n dX8_statement_5 rfl ?_
  refine V_dup dX8_statement_6 rfl ?_
  refine V_get dX8_statement_7 fX8_64 hm.1 rfl ?_
  refine J_iconst dX8_statement_10 ?_
  refine J_iadd dX8_statement_11 ?_
  refine R_put_2 dX8_statement_12 fX8_64 hm (fun h hm => ?_)
  refine V_iload_n dX8_statement_15 rfl ?_
  by_cases k112 : lh T l sp = 112
  · refine V_tableIn (tgt := 92) (off := 76) dX8_statement_16 (by rw [hLI]; omega) (by rw [hLI]; omega) (by rw [hLI, k112]; rfl) (by decide) ?_
    refine V_aload_n dX8_statement_92 rfl ?_
    refine J_bipush dX8_statement_93 (by decide) ?_
    refine J_bipush dX8_statement_95 (by decide) ?_
    refine J_bipush dX8_statement_97 (by decide) ?_
    refine V_callV (Y' := YX8_isNumber) dX8_statement_99 lX8_78 gX8_isNumber (m8_isNumber hT hl (by omega) (by omega) hm) hm.1 rfl rfl rfl (Nat.le_of_ble_eq_true rfl) ⟨Nat.zero_le _, Nat.zero_le _⟩ (fun v h1 sz1 hq => ?_)
    obtain ⟨t99, rfl, ht99, rfl, hm⟩ := hq
    have tr99 : t99 = 1 ∨ t99 = 0 := ht99.imp (fun q => q.1) (fun q => q.1)
    refine J_if_eq (tgt := 114) dX8_statement_102 (by decide) (by omega) (fun c102 => ?_) (fun c102 => ?_)
    · refine J_iconst dX8_statement_114 ?_
      exact V_iret dX8_statement_115 rfl rfl ⟨Nat.zero_le _, Nat.zero_le _⟩ ⟨rfl, _, rfl, Or.inr ⟨rfl, by unfold stF;  rw [cIf_p (show lh T l sp = 112 by omega)];  exact cIf_n (fun q => by first | exact absurd q.1 (ht99.elim (fun q => absurd q.1 (by omega)) (fun q => q.2)) | (have := q.2; omega)), _, _, _, hm⟩⟩
    · refine V_aload_n dX8_statement_105 rfl ?_
      refine V_get dX8_statement_106 fX8_67 hm.1 rfl ?_
      refine J_iconst dX8_statement_109 ?_
      refine J_irem dX8_statement_110 (by omega) (by omega) ?_
      refine J_if_eq (tgt := 116) dX8_statement_111 (by decide) (by omega) (fun c111 => ?_) (fun c111 => ?_)
      · refine V_aload_n dX8_statement_116 rfl ?_
        refine V_aload_n dX8_statement_117 rfl ?_
        refine V_get dX8_statement_118 fX8_67 hm.1 rfl ?_
        refine R_put_4 dX8_statement_121 fX8_34 hm (fun h hm => ?_)
        refine J_iconst dX8_statement_124 ?_
        exact V_iret dX8_statement_125 rfl rfl ⟨Nat.zero_le _, Nat.zero_le _⟩ ⟨rfl, _, rfl, Or.inl ⟨rfl, _, by unfold stF;  rw [cIf_p (show lh T l sp = 112 by omega)];  exact cIf_p ⟨(ht99.elim (fun q => q.2) (fun q => absurd q.1 (by omega))), by omega⟩, _, hm⟩⟩
      · refine J_iconst dX8_statement_114 ?_
        exact V_iret dX8_statement_115 rfl rfl ⟨Nat.zero_le _, Nat.zero_le _⟩ ⟨rfl, _, rfl, Or.inr ⟨rfl, by unfold stF;  rw [cIf_p (show lh T l sp = 112 by omega)];  exact cIf_n (fun q => by first | exact absurd q.1 (ht99.elim (fun q => absurd q.1 (by omega)) (fun q => q.2)) | (have := q.2; omega)), _, _, _, hm⟩⟩
  by_cases k105 : lh T l sp = 105
  · refine V_tableIn (tgt := 126) (off := 110) dX8_statement_16 (by rw [hLI]; omega) (by rw [hLI]; omega) (by rw [hLI, k105]; rfl) (by decide) ?_
    refine V_aload_n dX8_statement_126 rfl ?_
    refine J_bipush dX8_statement_127 (by decide) ?_
    refine J_bipush dX8_statement_129 (by decide) ?_
    refine J_bipush dX8_statement_131 (by decide) ?_
    refine V_callV (Y' := YX8_isNumber) dX8_statement_133 lX8_78 gX8_isNumber (m8_isNumber hT hl (by omega) (by omega) hm) hm.1 rfl rfl rfl (Nat.le_of_ble_eq_true rfl) ⟨Nat.zero_le _, Nat.zero_le _⟩ (fun v h1 sz1 hq => ?_)
    obtain ⟨t133, rfl, ht133, rfl, hm⟩ := hq
    have tr133 : t133 = 1 ∨ t133 = 0 := ht133.imp (fun q => q.1) (fun q => q.1)
    refine J_if_ne (tgt := 141) dX8_statement_136 (by decide) (by omega) (fun c136 => ?_) (fun c136 => ?_)
    · refine V_aload_n dX8_statement_141 rfl ?_
      refine V_get dX8_statement_142 fX8_16 hm.1 rfl ?_
      refine J_bipush dX8_statement_145 (by decide) ?_
      refine V_aload_n dX8_statement_147 rfl ?_
      refine V_get dX8_statement_148 fX8_67 hm.1 rfl ?_
      refine R_astk_RD 6 dX8_statement_151 hm rfl (by decide) (fun h hm => ?_)
      refine V_aload_n dX8_statement_152 rfl ?_
      refine J_iconst dX8_statement_153 ?_
      refine J_bipush dX8_statement_154 (by decide) ?_
      refine J_bipush dX8_statement_156 (by decide) ?_
      refine V_callV (Y' := YX8_isNumber) dX8_statement_158 lX8_78 gX8_isNumber (m8_isNumber hT hl (by omega) (by omega) hm) hm.1 rfl rfl rfl (Nat.le_of_ble_eq_true rfl) ⟨Nat.zero_le _, Nat.zero_le _⟩ (fun v h1 sz1 hq => ?_)
      obtain ⟨t158, rfl, ht158, rfl, hm⟩ := hq
      have tr158 : t158 = 1 ∨ t158 = 0 := ht158.imp (fun q => q.1) (fun q => q.1)
      refine J_if_ne (tgt := 166) dX8_statement_161 (by decide) (by omega) (fun c161 => ?_) (fun c161 => ?_)
      · refine V_aload_n dX8_statement_166 rfl ?_
        refine V_get dX8_statement_167 fX8_16 hm.1 rfl ?_
        refine J_bipush dX8_statement_170 (by decide) ?_
        refine V_aload_n dX8_statement_172 rfl ?_
        refine V_get dX8_statement_173 fX8_67 hm.1 rfl ?_
        refine R_astk_RD 7 dX8_statement_176 hm rfl (by decide) (fun h hm => ?_)
        refine J_iconst dX8_statement_177 ?_
        exact V_iret dX8_statement_178 rfl rfl ⟨Nat.zero_le _, Nat.zero_le _⟩ ⟨rfl, _, rfl, Or.inl ⟨rfl, _, by unfold stF; rw [cIf_n (show ¬ lh T l sp = 112 by omega)]; rw [cIf_p (show lh T l sp = 105 by omega)];  exact cIf_p ⟨(ht133.elim (fun q => q.2) (fun q => absurd q.1 (by omega))), (ht158.elim (fun q => q.2) (fun q => absurd q.1 (by omega)))⟩, _, hm⟩⟩
      · refine J_iconst dX8_statement_164 ?_
        exact V_iret dX8_statement_165 rfl rfl ⟨Nat.zero_le _, Nat.zero_le _⟩ ⟨rfl, _, rfl, Or.inr ⟨rfl, by unfold stF; rw [cIf_n (show ¬ lh T l sp = 112 by omega)]; rw [cIf_p (show lh T l sp = 105 by omega)];  exact cIf_n (fun q => absurd q.2 (ht158.elim (fun q => absurd q.1 (by omega)) (fun q => q.2))), _, _, _, hm⟩⟩
    · refine J_iconst dX8_statement_139 ?_
      exact V_iret dX8_statement_140 rfl rfl ⟨Nat.zero_le _, Nat.zero_le _⟩ ⟨rfl, _, rfl, Or.inr ⟨rfl, by unfold stF; rw [cIf_n (show ¬ lh T l sp = 112 by omega)]; rw [cIf_p (show lh T l sp = 105 by omega)];  exact cIf_n (fun q => absurd q.1 (ht133.elim (fun q => absurd q.1 (by omega)) (fun q => q.2))), _, _, _, hm⟩⟩
  by_cases k109 : lh T l sp = 109
  · refine V_tableIn (tgt := 179) (off := 163) dX8_statement_16 (by rw [hLI]; omega) (by rw [hLI]; omega) (by rw [hLI, k109]; rfl) (by decide) ?_
    refine V_aload_n dX8_statement_179 rfl ?_
    refine J_iconst dX8_statement_180 ?_
    refine J_iconst dX8_statement_181 ?_
    refine J_bipush dX8_statement_182 (by decide) ?_
    refine V_callV (Y' := YX8_isNumber) dX8_statement_184 lX8_78 gX8_isNumber (m8_isNumber hT hl (by omega) (by omega) hm) hm.1 rfl rfl rfl (Nat.le_of_ble_eq_true rfl) ⟨Nat.zero_le _, Nat.zero_le _⟩ (fun v h1 sz1 hq => ?_)
    obtain ⟨t184, rfl, ht184, rfl, hm⟩ := hq
    have tr184 : t184 = 1 ∨ t184 = 0 := ht184.imp (fun q => q.1) (fun q => q.1)
    refine J_if_eq (tgt := 198) dX8_statement_187 (by decide) (by omega) (fun c187 => ?_) (fun c187 => ?_)
    · refine J_iconst dX8_statement_198 ?_
      exact V_iret dX8_statement_199 rfl rfl ⟨Nat.zero_le _, Nat.zero_le _⟩ ⟨rfl, _, rfl, Or.inr ⟨rfl, by unfold stF; rw [cIf_n (show ¬ lh T l sp = 112 by omega)]; rw [cIf_n (show ¬ lh T l sp = 105 by omega)]; rw [cIf_p (show lh T l sp = 109 by omega)];  exact cIf_n (fun q => by first | exact absurd q.1 (ht184.elim (fun q => absurd q.1 (by omega)) (fun q => q.2)) | exact q.2 (by omega)), _, _, _, hm⟩⟩
    · refine V_aload_n dX8_statement_190 rfl ?_
      refine V_get dX8_statement_191 fX8_67 hm.1 rfl ?_
      refine J_iconst dX8_statement_194 ?_
      refine J_icmp_ne (tgt := 200) dX8_statement_195 (by decide) (by omega) (by omega) (fun c195 => ?_) (fun c195 => ?_)
      · refine V_aload_n dX8_statement_200 rfl ?_
        refine V_get dX8_statement_201 fX8_16 hm.1 rfl ?_
        refine J_iconst dX8_statement_204 ?_
        refine V_aload_n dX8_statement_205 rfl ?_
        refine V_get dX8_statement_206 fX8_67 hm.1 rfl ?_
        refine R_astk_RD 5 dX8_statement_209 hm rfl (by decide) (fun h hm => ?_)
        refine J_iconst dX8_statement_210 ?_
        exact V_iret dX8_statement_211 rfl rfl ⟨Nat.zero_le _, Nat.zero_le _⟩ ⟨rfl, _, rfl, Or.inl ⟨rfl, _, by unfold stF; rw [cIf_n (show ¬ lh T l sp = 112 by omega)]; rw [cIf_n (show ¬ lh T l sp = 105 by omega)]; rw [cIf_p (show lh T l sp = 109 by omega)];  exact cIf_p ⟨(ht184.elim (fun q => q.2) (fun q => absurd q.1 (by omega))), by omega⟩, _, hm⟩⟩
      · refine J_iconst dX8_statement_198 ?_
        exact V_iret dX8_statement_199 rfl rfl ⟨Nat.zero_le _, Nat.zero_le _⟩ ⟨rfl, _, rfl, Or.inr ⟨rfl, by unfold stF; rw [cIf_n (show ¬ lh T l sp = 112 by omega)]; rw [cIf_n (show ¬ lh T l sp = 105 by omega)]; rw [cIf_p (show lh T l sp = 109 by omega)];  exact cIf_n (fun q => by first | exact absurd q.1 (ht184.elim (fun q => absurd q.1 (by omega)) (fun q => q.2)) | exact q.2 (by omega)), _, _, _, hm⟩⟩
  by_cases k114 : lh T l sp = 114
  · refine V_tableIn (tgt := 212) (off := 196) dX8_statement_16 (by rw [hLI]; omega) (by rw [hLI]; omega) (by rw [hLI, k114]; rfl) (by decide) ?_
    refine V_aload_n dX8_statement_212 rfl ?_
    refine J_iconst dX8_statement_213 ?_
    refine J_sipush dX8_statement_214 (by decide) ?_
    refine J_bipush dX8_statement_217 (by decide) ?_
    refine V_callV (Y' := YX8_isNumber) dX8_statement_219 lX8_78 gX8_isNumber (m8_isNumber hT hl (by omega) (by omega) hm) hm.1 rfl rfl rfl (Nat.le_of_ble_eq_true rfl) ⟨Nat.zero_le _, Nat.zero_le _⟩ (fun v h1 sz1 hq => ?_)
    obtain ⟨t219, rfl, ht219, rfl, hm⟩ := hq
    have tr219 : t219 = 1 ∨ t219 = 0 := ht219.imp (fun q => q.1) (fun q => q.1)
    refine J_if_eq (tgt := 259) dX8_statement_222 (by decide) (by omega) (fun c222 => ?_) (fun c222 => ?_)
    · refine J_iconst dX8_statement_259 ?_
      exact V_iret dX8_statement_260 rfl rfl ⟨Nat.zero_le _, Nat.zero_le _⟩ ⟨rfl, _, rfl, Or.inr ⟨rfl, by unfold stF; rw [cIf_n (show ¬ lh T l sp = 112 by omega)]; rw [cIf_n (show ¬ lh T l sp = 105 by omega)]; rw [cIf_n (show ¬ lh T l sp = 109 by omega)]; rw [cIf_p (show lh T l sp = 114 by omega)];  exact cIf_n (fun q => by first | exact absurd q.1 (ht219.elim (fun q => absurd q.1 (by omega)) (fun q => q.2)) | exact q.2.1 (by omega) | exact q.2.2 ⟨by omega, by omega⟩), _, _, _, hm⟩⟩
    · refine V_aload_n dX8_statement_225 rfl ?_
      refine V_get dX8_statement_226 fX8_38 hm.1 rfl ?_
      refine J_bipush dX8_statement_229 (by decide) ?_
      refine J_icmp_eq (tgt := 259) dX8_statement_231 (by decide) (by omega) (by omega) (fun c231 => ?_) (fun c231 => ?_)
      · refine J_iconst dX8_statement_259 ?_
        exact V_iret dX8_statement_260 rfl rfl ⟨Nat.zero_le _, Nat.zero_le _⟩ ⟨rfl, _, rfl, Or.inr ⟨rfl, by unfold stF; rw [cIf_n (show ¬ lh T l sp = 112 by omega)]; rw [cIf_n (show ¬ lh T l sp = 105 by omega)]; rw [cIf_n (show ¬ lh T l sp = 109 by omega)]; rw [cIf_p (show lh T l sp = 114 by omega)];  exact cIf_n (fun q => by first | exact absurd q.1 (ht219.elim (fun q => absurd q.1 (by omega)) (fun q => q.2)) | exact q.2.1 (by omega) | exact q.2.2 ⟨by omega, by omega⟩), _, _, _, hm⟩⟩
      · refine V_aload_n dX8_statement_234 rfl ?_
        refine V_get dX8_statement_235 fX8_38 hm.1 rfl ?_
        refine J_if_le (tgt := 261) dX8_statement_238 (by decide) (by omega) (fun c238 => ?_) (fun c238 => ?_)
        · refine V_aload_n dX8_statement_261 rfl ?_
          refine V_get dX8_statement_262 fX8_13 hm.1 rfl ?_
          refine V_aload_n dX8_statement_265 rfl ?_
          refine V_get dX8_statement_266 fX8_38 hm.1 rfl ?_
          refine V_aload_n dX8_statement_269 rfl ?_
          refine V_get dX8_statement_270 fX8_67 hm.1 rfl ?_
          refine R_astk_RA rm.toNat dX8_statement_273 hm (by omega) (by omega) (fun h hm => ?_)
          refine V_aload_n dX8_statement_274 rfl ?_
          refine V_dup dX8_statement_275 rfl ?_
          refine V_get dX8_statement_276 fX8_38 hm.1 rfl ?_
          refine J_iconst dX8_statement_279 ?_
          refine J_iadd dX8_statement_280 ?_
          refine R_put_5 dX8_statement_281 fX8_38 hm (fun h hm => ?_)
          refine J_iconst dX8_statement_284 ?_
          exact V_iret dX8_statement_285 rfl rfl ⟨Nat.zero_le _, Nat.zero_le _⟩ ⟨rfl, _, rfl, Or.inl ⟨rfl, _, by unfold stF; rw [cIf_n (show ¬ lh T l sp = 112 by omega)]; rw [cIf_n (show ¬ lh T l sp = 105 by omega)]; rw [cIf_n (show ¬ lh T l sp = 109 by omega)]; rw [cIf_p (show lh T l sp = 114 by omega)];  exact cIf_p ⟨(ht219.elim (fun q => q.2) (fun q => absurd q.1 (by omega))), by omega, fun w => by omega⟩, _, hm⟩⟩
        · refine V_aload_n dX8_statement_241 rfl ?_
          refine V_get dX8_statement_242 fX8_67 hm.1 rfl ?_
          refine V_aload_n dX8_statement_245 rfl ?_
          refine V_get dX8_statement_246 fX8_13 hm.1 rfl ?_
          refine V_aload_n dX8_statement_249 rfl ?_
          refine V_get dX8_statement_250 fX8_38 hm.1 rfl ?_
          refine J_iconst dX8_statement_253 ?_
          refine J_isub dX8_statement_254 ?_
          refine R_ald_RA dX8_statement_255 hm (by omega) ?_
          have hra1 := hra (rm - 1).toNat (by omega)
          refine J_icmp_gt (tgt := 261) dX8_statement_256 (by decide) (by omega) (by omega) (fun c256 => ?_) (fun c256 => ?_)
          · refine V_aload_n dX8_statement_261 rfl ?_
            refine V_get dX8_statement_262 fX8_13 hm.1 rfl ?_
            refine V_aload_n dX8_statement_265 rfl ?_
            refine V_get dX8_statement_266 fX8_38 hm.1 rfl ?_
            refine V_aload_n dX8_statement_269 rfl ?_
            refine V_get dX8_statement_270 fX8_67 hm.1 rfl ?_
            refine R_astk_RA rm.toNat dX8_statement_273 hm (by omega) (by omega) (fun h hm => ?_)
            refine V_aload_n dX8_statement_274 rfl ?_
            refine V_dup dX8_statement_275 rfl ?_
            refine V_get dX8_statement_276 fX8_38 hm.1 rfl ?_
            refine J_iconst dX8_statement_279 ?_
            refine J_iadd dX8_statement_280 ?_
            refine R_put_5 dX8_statement_281 fX8_38 hm (fun h hm => ?_)
            refine J_iconst dX8_statement_284 ?_
            exact V_iret dX8_statement_285 rfl rfl ⟨Nat.zero_le _, Nat.zero_le _⟩ ⟨rfl, _, rfl, Or.inl ⟨rfl, _, by unfold stF; rw [cIf_n (show ¬ lh T l sp = 112 by omega)]; rw [cIf_n (show ¬ lh T l sp = 105 by omega)]; rw [cIf_n (show ¬ lh T l sp = 109 by omega)]; rw [cIf_p (show lh T l sp = 114 by omega)];  exact cIf_p ⟨(ht219.elim (fun q => q.2) (fun q => absurd q.1 (by omega))), by omega, fun w => by omega⟩, _, hm⟩⟩
          · refine J_iconst dX8_statement_259 ?_
            exact V_iret dX8_statement_260 rfl rfl ⟨Nat.zero_le _, Nat.zero_le _⟩ ⟨rfl, _, rfl, Or.inr ⟨rfl, by unfold stF; rw [cIf_n (show ¬ lh T l sp = 112 by omega)]; rw [cIf_n (show ¬ lh T l sp = 105 by omega)]; rw [cIf_n (show ¬ lh T l sp = 109 by omega)]; rw [cIf_p (show lh T l sp = 114 by omega)];  exact cIf_n (fun q => by first | exact absurd q.1 (ht219.elim (fun q => absurd q.1 (by omega)) (fun q => q.2)) | exact q.2.1 (by omega) | exact q.2.2 ⟨by omega, by omega⟩), _, _, _, hm⟩⟩
  by_cases k100 : lh T l sp = 100
  · refine V_tableIn (tgt := 286) (off := 270) dX8_statement_16 (by rw [hLI]; omega) (by rw [hLI]; omega) (by rw [hLI, k100]; rfl) (by decide) ?_
    refine V_aload_n dX8_statement_286 rfl ?_
    refine V_callV (Y' := YX8_dirtStatement) dX8_statement_287 lX8_82 gX8_dirtStatement (m8_dirtStatement hT hl h8 (by omega) hm) hm.1 rfl rfl rfl (Nat.le_of_ble_eq_true rfl) ⟨Nat.zero_le _, Nat.zero_le _⟩ (fun v h1 sz1 hq => ?_)
    obtain ⟨rfl, t, rfl, ht⟩ := hq
    rcases ht with ⟨rfl, hc, nu2, hm⟩ | ⟨rfl, hc, sp2, nu2, RD2, hm⟩
    · exact V_iret dX8_statement_290 rfl rfl ⟨Nat.zero_le _, Nat.zero_le _⟩ ⟨rfl, _, rfl, Or.inl ⟨rfl, _, by unfold stF; rw [cIf_n (show ¬ lh T l sp = 112 by omega)]; rw [cIf_n (show ¬ lh T l sp = 105 by omega)]; rw [cIf_n (show ¬ lh T l sp = 109 by omega)]; rw [cIf_n (show ¬ lh T l sp = 114 by omega)]; rw [cIf_p (show lh T l sp = 100 by omega)];  exact cIf_p hc, _, hm⟩⟩
    · exact V_iret dX8_statement_290 rfl rfl ⟨Nat.zero_le _, Nat.zero_le _⟩ ⟨rfl, _, rfl, Or.inr ⟨rfl, by unfold stF; rw [cIf_n (show ¬ lh T l sp = 112 by omega)]; rw [cIf_n (show ¬ lh T l sp = 105 by omega)]; rw [cIf_n (show ¬ lh T l sp = 109 by omega)]; rw [cIf_n (show ¬ lh T l sp = 114 by omega)]; rw [cIf_p (show lh T l sp = 100 by omega)];  exact cIf_n hc, _, _, _, hm⟩⟩
  by_cases kr : lh T l sp < 100 ∨ 114 < lh T l sp
  · refine V_tableOut (tgt := 291) dX8_statement_16 (by rw [hLI]; omega) (by decide) ?_
    refine J_iconst dX8_statement_291 ?_
    exact V_iret dX8_statement_292 rfl rfl ⟨Nat.zero_le _, Nat.zero_le _⟩ ⟨rfl, _, rfl, Or.inr ⟨rfl, by unfold stF; rw [cIf_n (show ¬ lh T l sp = 112 by omega)]; rw [cIf_n (show ¬ lh T l sp = 105 by omega)]; rw [cIf_n (show ¬ lh T l sp = 109 by omega)]; rw [cIf_n (show ¬ lh T l sp = 114 by omega)]; rw [cIf_n (show ¬ lh T l sp = 100 by omega)], _, _, _, hm⟩⟩
  · refine V_tableIn (tgt := 291) (off := 275) dX8_statement_16 (by rw [hLI]; omega) (by rw [hLI]; omega) (by rw [hLI]; exact st_def (by omega) (by omega)) (by decide) ?_
    refine J_iconst dX8_statement_291 ?_
    exact V_iret dX8_statement_292 rfl rfl ⟨Nat.zero_le _, Nat.zero_le _⟩ ⟨rfl, _, rfl, Or.inr ⟨rfl, by unfold stF; rw [cIf_n (show ¬ lh T l sp = 112 by omega)]; rw [cIf_n (show ¬ lh T l sp = 105 by omega)]; rw [cIf_n (show ¬ lh T l sp = 109 by omega)]; rw [cIf_n (show ¬ lh T l sp = 114 by omega)]; rw [cIf_n (show ¬ lh T l sp = 100 by omega)], _, _, _, hm⟩⟩
/-- the whole text from a spot on: where the first invalid statement begins, or -4; and what was read -/
noncomputable def rdF (T : Nat → Int) (l : Int) : Nat → RO → Int × RO
  | 0, u => (-4, u)
  | f + 1, u => if u.1 < l then (match stF T l u.1 u.2.1 u.2.2.1 u.2.2.2.1 u.2.2.2.2 with
    | none => (u.1, u)
    | some v => rdF T l f v) else (-4, u)
theorem rdF_s {T : Nat → Int} {l : Int} {f : Nat} {u : RO} : rdF T l (f + 1) u = if u.1 < l then (match stF T l u.1 u.2.1 u.2.2.1 u.2.2.2.1 u.2.2.2.2 with
    | none => (u.1, u)
    | some v => rdF T l f v) else (-4, u) := rfl
/-- what was read is in order -/
def roK (u : RO) : Prop := (u.2.1 = 0 ∨ (8 ≤ u.2.1 ∧ u.2.1 ≤ 80)) ∧ (0 ≤ u.2.2.1 ∧ u.2.2.1 ≤ 6) ∧ (∀ j : Nat, j < 6 → 0 ≤ u.2.2.2.1 j ∧ u.2.2.2.1 j ≤ 9999) ∧ rok u.2.2.2.2
theorem rok_put {N : Nat → Int} {k : Nat} {x : Int} (h : rok N) (hk : (k = 5 ∧ (x = 1 ∨ x = 2 ∨ x = 4)) ∨ (k = 6 ∧ 8 ≤ x ∧ x ≤ 80) ∨ (k = 7 ∧ 0 ≤ x ∧ x ≤ 79) ∨ (k = 17 ∧ 0 ≤ x ∧ x ≤ 8)) : rok (va_up N k x) := by
  obtain ⟨h0, h2, h5, h6, h7, h8, h17, hd, he⟩ := h
  have e : ∀ j, j ≠ k → va_up N k x j = N j := fun j hj => if_neg hj
  have e1 : va_up N k x k = x := if_pos rfl
  refine ⟨by rw [e 0 (by omega)]; exact h0, by rw [e 2 (by omega)]; exact h2, ?_, ?_, ?_, by rw [e 8 (by omega)]; exact h8, ?_, fun q hq => by rw [e _ (by omega), e _ (by omega)]; exact hd q hq, fun q hq => by rw [e _ (by omega)]; exact he q hq⟩
  · by_cases q : k = 5
    · subst q; rw [e1]; omega
    · rw [e 5 (by omega)]; exact h5
  · by_cases q : k = 6
    · subst q; rw [e1]; omega
    · rw [e 6 (by omega)]; exact h6
  · by_cases q : k = 7
    · subst q; rw [e1]; omega
    · rw [e 7 (by omega)]; exact h7
  · by_cases q : k = 17
    · subst q; rw [e1]; omega
    · rw [e 17 (by omega)]; exact h17
theorem rok_adR {N : Nat → Int} {k : Nat} {x y : Int} (h : rok N) (hk : k ≤ 3) (hx : 0 ≤ x ∧ x ≤ 9999) (hy : 1 ≤ y ∧ y ≤ 99) : rok (adR N k x y) := by
  obtain ⟨h0, h2, h5, h6, h7, h8, h17, hd, he⟩ := h
  have e : ∀ j, j ≠ 8 → j ≠ 9 + 2 * k → j ≠ 10 + 2 * k → adR N k x y j = N j := fun j a b c => (if_neg a).trans ((if_neg c).trans (if_neg b))
  refine ⟨by rw [e 0 (by omega) (by omega) (by omega)]; exact h0, by rw [e 2 (by omega) (by omega) (by omega)]; exact h2, by rw [e 5 (by omega) (by omega) (by omega)]; exact h5, by rw [e 6 (by omega) (by omega) (by omega)]; exact h6, by rw [e 7 (by omega) (by omega) (by omega)]; exact h7, ⟨by show 0 ≤ (k : Int) + 1; omega, by show (k : Int) + 1 ≤ 4; omega⟩, by rw [e 17 (by omega) (by omega) (by omega)]; exact h17, fun q hq => ?_, fun q hq => by rw [e _ (by omega) (by omega) (by omega)]; exact he q hq⟩
  by_cases c : q = k
  · subst c
    have a1 : adR N q x y (9 + 2 * q) = x := (if_neg (by omega)).trans ((if_neg (by omega)).trans (if_pos rfl))
    have a2 : adR N q x y (10 + 2 * q) = y := (if_neg (by omega)).trans (if_pos rfl)
    rw [a1, a2]; omega
  · rw [e _ (by omega) (by omega) (by omega), e _ (by omega) (by omega) (by omega)]; exact hd q hq
theorem stF_ok {T : Nat → Int} {l sp rs rm : Int} {RA RD : Nat → Int} {u : RO} (hk : roK (sp, rs, rm, RA, RD)) (h : stF T l sp rs rm RA RD = some u) : roK u ∧ sp + 2 ≤ u.1 ∧ u.1 ≤ sp + 11 := by
  obtain ⟨k1, k2, k3, k4⟩ := hk
  dsimp only at k1 k2 k3 k4
  have hn1 := nm_rg (T := T) (l := l) (sp := sp + 1)
  have hn2 := nm_rg (T := T) (l := l) (sp := nmS T l (sp + 1))
  unfold stF at h
  by_cases a : lh T l sp = 112
  · rw [cIf_p a] at h
    by_cases c : nmO T l (sp + 1) 8 80 59 ∧ nmN T l (sp + 1) % 4 = 0
    · rw [cIf_p c] at h; cases h
      have := c.1.2.1
      exact ⟨⟨Or.inr (by dsimp only; omega), k2, k3, k4⟩, by dsimp only; omega, by dsimp only; omega⟩
    · rw [cIf_n c] at h; cases h
  rw [cIf_n a] at h
  by_cases a : lh T l sp = 105
  · rw [cIf_p a] at h
    by_cases c : nmO T l (sp + 1) 8 80 44 ∧ nmO T l (nmS T l (sp + 1)) 0 79 59
    · rw [cIf_p c] at h; cases h
      have c1 := c.1.2.1
      have c2 := c.2.2.1
      exact ⟨⟨k1, k2, k3, rok_put (rok_put k4 (by omega)) (by omega)⟩, by dsimp only; omega, by dsimp only; omega⟩
    · rw [cIf_n c] at h; cases h
  rw [cIf_n a] at h
  by_cases a : lh T l sp = 109
  · rw [cIf_p a] at h
    by_cases c : nmO T l (sp + 1) 1 4 59 ∧ ¬ nmN T l (sp + 1) = 3
    · rw [cIf_p c] at h; cases h
      have c1 := c.1.2.1
      have c2 := c.2
      exact ⟨⟨k1, k2, k3, rok_put k4 (by omega)⟩, by dsimp only; omega, by dsimp only; omega⟩
    · rw [cIf_n c] at h; cases h
  rw [cIf_n a] at h
  by_cases a : lh T l sp = 114
  · rw [cIf_p a] at h
    by_cases c : nmO T l (sp + 1) 0 9999 59 ∧ ¬ rm = 6 ∧ ¬ (0 < rm ∧ nmN T l (sp + 1) ≤ RA (rm - 1).toNat)
    · rw [cIf_p c] at h; cases h
      have c1 := c.1.2.1
      have c2 := c.2.1
      refine ⟨⟨k1, by dsimp only; omega, fun j hj => ?_, k4⟩, by dsimp only; omega, by dsimp only; omega⟩
      dsimp only [va_up]
      split
      · omega
      · exact k3 j hj
    · rw [cIf_n c] at h; cases h
  rw [cIf_n a] at h
  by_cases a : lh T l sp = 100
  · rw [cIf_p a] at h
    by_cases c : nmO T l (sp + 1) 0 9999 44 ∧ ¬ RD 8 = 4 ∧ nmO T l (nmS T l (sp + 1)) 1 99 59
    · rw [cIf_p c] at h; cases h
      have c1 := c.1.2.1
      have c2 := c.2.2.2.1
      have c3 := c.2.1
      have h8 := k4.2.2.2.2.2.1
      exact ⟨⟨k1, k2, k3, rok_adR k4 (by omega) (by omega) (by omega)⟩, by dsimp only; omega, by dsimp only; omega⟩
    · rw [cIf_n c] at h; cases h
  rw [cIf_n a] at h
  cases h
theorem rok_rd0 : rok rd0 := by
  refine ⟨by decide, by decide, by decide, by decide, by decide, by decide, by decide, ?_, ?_⟩
  · intro k hk
    match k, hk with
    | 0, _ => decide
    | 1, _ => decide
    | 2, _ => decide
    | 3, _ => decide
  · intro k hk
    match k, hk with
    | 0, _ => decide
    | 1, _ => decide
    | 2, _ => decide
    | 3, _ => decide
    | 4, _ => decide
    | 5, _ => decide
    | 6, _ => decide
    | 7, _ => decide
set_option maxHeartbeats 4000000 in
set_option maxRecDepth 100000 in
theorem l8_readAll_9 {z : ZG} {d sz r n s : Nat} {g : AH} {l  sc mk km : Int} {T  MA NW SD KP : Nat → Int} (hT : ∀ j, j < 200 → 0 ≤ T j ∧ T j ≤ 126) (hl : 0 ≤ l ∧ l ≤ 200) : ∀ (f : Nat) (u : RO) (nu : Int) (h : AH) (o1 : Option Value), (0 ≤ u.1 ∧ u.1 ≤ 300) → 200 - u.1 < f → roK u → MS g r n s l u.1 nu u.2.1 u.2.2.1 sc mk km T u.2.2.2.1 u.2.2.2.2 MA NW SD KP h → V z YX8_readAll (zroom (d + 4) 0 0) (fun w h' sz' => sz' = sz ∧ w = some (.int (I (rdF T l f u).1)) ∧ (((rdF T l f u).1 = -4 ∧ roK (rdF T l f u).2 ∧ ∃ nu2 : Int, MS g r n s l (rdF T l f u).2.1 nu2 (rdF T l f u).2.2.1 (rdF T l f u).2.2.2.1 sc mk km T (rdF T l f u).2.2.2.2.1 (rdF T l f u).2.2.2.2.2 MA NW SD KP h') ∨ (¬ (rdF T l f u).1 = -4 ∧ ∃ (sp2 nu2 rs2 rm2 : Int) (RA2 RD2 : Nat → Int), (∀ j : Nat, j < 6 → 0 ≤ RA2 j ∧ RA2 j ≤ 9999) ∧ MS g r n s l sp2 nu2 rs2 rm2 sc mk km T RA2 RD2 MA NW SD KP h'))) 9 [some (.ref r), o1] [] h sz 0 0 := by
  intro f
  induction f with
  | zero => intro u nu h o1 h1 h2 hk hm; 
            refine V_aload_n dX8_readAll_9 rfl ?_
            refine V_get dX8_readAll_10 fX8_64 hm.1 rfl ?_
            refine V_aload_n dX8_readAll_13 rfl ?_
            refine V_get dX8_readAll_14 fX8_61 hm.1 rfl ?_
            refine J_icmp_ge (tgt := 37) dX8_readAll_17 (by decide) (by omega) (by omega) (fun c17 => ?_) (fun c17 => ?_)
            · refine J_bipush dX8_readAll_37 (by decide) ?_
              exact V_iret dX8_readAll_39 rfl rfl ⟨Nat.zero_le _, Nat.zero_le _⟩ ⟨rfl, rfl, Or.inl ⟨rfl, hk, _, hm⟩⟩
            · exfalso; omega
  | succ f ih =>
    intro u nu h o1 h1 h2 hk hm
    refine V_aload_n dX8_readAll_9 rfl ?_
    refine V_get dX8_readAll_10 fX8_64 hm.1 rfl ?_
    refine V_aload_n dX8_readAll_13 rfl ?_
    refine V_get dX8_readAll_14 fX8_61 hm.1 rfl ?_
    refine J_icmp_ge (tgt := 37) dX8_readAll_17 (by decide) (by omega) (by omega) (fun c17 => ?_) (fun c17 => ?_)
    · have e9 : rdF T l (f + 1) u = (-4, u) := by rw [rdF_s, if_neg (by omega)]
      rw [e9]
      refine J_bipush dX8_readAll_37 (by decide) ?_
      exact V_iret dX8_readAll_39 rfl rfl ⟨Nat.zero_le _, Nat.zero_le _⟩ ⟨rfl, rfl, Or.inl ⟨rfl, hk, _, hm⟩⟩
    · refine V_aload_n dX8_readAll_20 rfl ?_
      refine V_get dX8_readAll_21 fX8_64 hm.1 rfl ?_
      refine V_istore_n dX8_readAll_24 (Nat.le_of_ble_eq_true rfl) ?_
      refine V_aload_n dX8_readAll_25 rfl ?_
      refine V_callV (Y' := YX8_statement) dX8_readAll_26 lX8_86 gX8_statement (m8_statement hT hl hk.2.2.2.2.2.2.2.2.1 hk.2.1 hk.2.2.1 (by omega) hm) hm.1 rfl rfl rfl (Nat.le_of_ble_eq_true rfl) ⟨Nat.zero_le _, Nat.zero_le _⟩ (fun v h1 sz1 hq => ?_)
      obtain ⟨rfl, t, rfl, ht⟩ := hq
      have tr : t = 1 ∨ t = 0 := ht.imp (fun q => q.1) (fun q => q.1)
      refine J_if_ne (tgt := 34) dX8_readAll_29 (by decide) (by omega) (fun c29 => ?_) (fun c29 => ?_)
      · refine V_goto (tgt := 9) dX8_readAll_34 (by decide) ?_
        rcases ht with ⟨_, v, hv, nu2, hm⟩ | ⟨q, _⟩
        · have hok := stF_ok (u := v) hk hv
          have e9 : rdF T l (f + 1) u = rdF T l f v := by rw [rdF_s, if_pos (by omega), hv]
          rw [e9]
          exact ih v nu2 _ _ (by omega) (by omega) hok.1 hm
        · exfalso; omega
      · rcases ht with ⟨q, _⟩ | ⟨_, hv, sp2, nu2, RD2, hm⟩
        · exfalso; omega
        · have e9 : rdF T l (f + 1) u = (u.1, u) := by rw [rdF_s, if_pos (by omega), hv]
          rw [e9]
          refine V_iload_n dX8_readAll_32 rfl ?_
          exact V_iret dX8_readAll_33 rfl rfl ⟨Nat.zero_le _, Nat.zero_le _⟩ ⟨rfl, rfl, Or.inr ⟨by dsimp only; omega, _, _, _, _, _, _, hk.2.2.1, hm⟩⟩
set_option maxHeartbeats 4000000 in
set_option maxRecDepth 100000 in
theorem m8_readAll {z : ZG} {d sz r n s : Nat} {g h : AH} {l sp nu rs rm sc mk km : Int} {T RA RD MA NW SD KP : Nat → Int} (hT : ∀ j, j < 200 → 0 ≤ T j ∧ T j ≤ 126) (hl : 0 ≤ l ∧ l ≤ 200) (hra : ∀ j : Nat, j < 6 → 0 ≤ RA j ∧ RA j ≤ 9999) (hm : MS g r n s l sp nu rs rm sc mk km T RA RD MA NW SD KP h) : M z YX8_readAll (d + 4) 0 0 [.ref r] h sz (fun w h' sz' => sz' = sz ∧ w = some (.int (I (rdF T l 201 (0, 0, 0, RA, rd0)).1)) ∧ (((rdF T l 201 (0, 0, 0, RA, rd0)).1 = -4 ∧ roK (rdF T l 201 (0, 0, 0, RA, rd0)).2 ∧ ∃ nu2 : Int, MS g r n s l (rdF T l 201 (0, 0, 0, RA, rd0)).2.1 nu2 (rdF T l 201 (0, 0, 0, RA, rd0)).2.2.1 (rdF T l 201 (0, 0, 0, RA, rd0)).2.2.2.1 sc mk km T (rdF T l 201 (0, 0, 0, RA, rd0)).2.2.2.2.1 (rdF T l 201 (0, 0, 0, RA, rd0)).2.2.2.2.2 MA NW SD KP h') ∨ (¬ (rdF T l 201 (0, 0, 0, RA, rd0)).1 = -4 ∧ ∃ (sp2 nu2 rs2 rm2 : Int) (RA2 RD2 : Nat → Int), (∀ j : Nat, j < 6 → 0 ≤ RA2 j ∧ RA2 j ≤ 9999) ∧ MS g r n s l sp2 nu2 rs2 rm2 sc mk km T RA2 RD2 MA NW SD KP h'))) := by
  refine M.of (by decide +kernel) (Nat.le_of_ble_eq_true rfl) ?_
  refine V_aload_n dX8_readAll_0 rfl ?_
  refine V_callV (Y' := YX8_beginRead) dX8_readAll_1 lX8_31 gX8_beginRead (m8_beginRead hm) hm.1 rfl rfl rfl (Nat.le_of_ble_eq_true rfl) ⟨Nat.zero_le _, Nat.zero_le _⟩ (fun v h1 sz1 hq => ?_)
  obtain ⟨rfl, rfl, hm⟩ := hq
  refine V_aload_n dX8_readAll_4 rfl ?_
  refine J_iconst dX8_readAll_5 ?_
  refine R_put_2 dX8_readAll_6 fX8_64 hm (fun h hm => ?_)
  exact l8_readAll_9 hT hl 201 (0, 0, 0, RA, rd0) _ _ _ (by dsimp only; omega) (by dsimp only; omega) ⟨Or.inl rfl, by dsimp only; omega, hra, rok_rd0⟩ hm
set_option maxHeartbeats 4000000 in
set_option maxRecDepth 100000 in
theorem m8_firstError {z : ZG} {d sz r n s : Nat} {g h : AH} {l sp nu rs rm sc mk km : Int} {T RA RD MA NW SD KP : Nat → Int} (hT : ∀ j, j < 200 → 0 ≤ T j ∧ T j ≤ 126) (hl : 0 ≤ l ∧ l ≤ 200) (hra : ∀ j : Nat, j < 6 → 0 ≤ RA j ∧ RA j ≤ 9999) (hm : MS g r n s l sp nu rs rm sc mk km T RA RD MA NW SD KP h) : M z YX8_firstError (d + 5) 0 0 [.ref r] h sz (fun w h' sz' => sz' = sz ∧ w = some (.int (I (rdF T l 201 (0, 0, 0, RA, rd0)).1)) ∧ (((rdF T l 201 (0, 0, 0, RA, rd0)).1 = -4 ∧ roK (rdF T l 201 (0, 0, 0, RA, rd0)).2 ∧ ∃ nu2 : Int, MS g r n s l (rdF T l 201 (0, 0, 0, RA, rd0)).2.1 nu2 (rdF T l 201 (0, 0, 0, RA, rd0)).2.2.1 (rdF T l 201 (0, 0, 0, RA, rd0)).2.2.2.1 sc mk km T (rdF T l 201 (0, 0, 0, RA, rd0)).2.2.2.2.1 (rdF T l 201 (0, 0, 0, RA, rd0)).2.2.2.2.2 MA NW SD KP h') ∨ (¬ (rdF T l 201 (0, 0, 0, RA, rd0)).1 = -4 ∧ ∃ (sp2 nu2 rs2 rm2 : Int) (RA2 RD2 : Nat → Int), (∀ j : Nat, j < 6 → 0 ≤ RA2 j ∧ RA2 j ≤ 9999) ∧ MS g r n s l sp2 nu2 rs2 rm2 sc mk km T RA2 RD2 MA NW SD KP h'))) := by
  refine M.of (by decide +kernel) (Nat.le_of_ble_eq_true rfl) ?_
  refine V_aload_n dX8_firstError_0 rfl ?_
  refine V_callV (Y' := YX8_readAll) dX8_firstError_1 lX8_89 gX8_readAll (m8_readAll hT hl hra hm) hm.1 rfl rfl rfl (Nat.le_of_ble_eq_true rfl) ⟨Nat.zero_le _, Nat.zero_le _⟩ (fun v h1 sz1 hq => ?_)
  obtain ⟨rfl, rfl, hm⟩ := hq
  exact V_iret dX8_firstError_4 rfl rfl ⟨Nat.zero_le _, Nat.zero_le _⟩ ⟨rfl, rfl, hm⟩
theorem rdF_rg {T : Nat → Int} {l : Int} (hl : l ≤ 200) : ∀ (f : Nat) (u : RO), (0 ≤ u.1 ∧ u.1 ≤ 300) → roK u → -4 ≤ (rdF T l f u).1 ∧ (rdF T l f u).1 ≤ 200 := by
  intro f
  induction f with
  | zero => intro u h1 h2; exact ⟨Int.le_refl _, by show (-4 : Int) ≤ 200; omega⟩
  | succ f ih =>
    intro u h1 h2
    rw [rdF_s]
    by_cases a : u.1 < l
    · rw [if_pos a]
      cases e : stF T l u.1 u.2.1 u.2.2.1 u.2.2.2.1 u.2.2.2.2 with
      | none => exact ⟨by show -4 ≤ u.1; omega, by show u.1 ≤ 200; omega⟩
      | some v =>
        have := stF_ok (u := v) h2 e
        exact ih v (by omega) this.1
    · rw [if_neg a]; exact ⟨Int.le_refl _, by show (-4 : Int) ≤ 200; omega⟩
set_option maxHeartbeats 4000000 in
set_option maxRecDepth 100000 in
theorem m8_configure {z : ZG} {d sz r n s : Nat} {g h : AH} {l sp nu rs rm sc mk km : Int} {T RA RD MA NW SD KP : Nat → Int} (hT : ∀ j, j < 200 → 0 ≤ T j ∧ T j ≤ 126) (hl : 0 ≤ l ∧ l ≤ 200) (hra : ∀ j : Nat, j < 6 → 0 ≤ RA j ∧ RA j ≤ 9999) (hm : MS g r n s l sp nu rs rm sc mk km T RA RD MA NW SD KP h) : M z YX8_configure (d + 5) 0 0 [.ref r] h sz (fun w h' sz' => sz' = sz ∧ ((¬ ((rdF T l 201 (0, 0, 0, RA, rd0)).1 = -4 ∧ ¬ (rdF T l 201 (0, 0, 0, RA, rd0)).2.2.1 = 0) ∧ w = some (.int (I (-2))) ∧ ∃ (sp2 nu2 rs2 rm2 : Int) (RA2 RD2 : Nat → Int), (∀ j : Nat, j < 6 → 0 ≤ RA2 j ∧ RA2 j ≤ 9999) ∧ MS g r n s l sp2 nu2 rs2 rm2 sc mk km T RA2 RD2 MA NW SD KP h') ∨ (((rdF T l 201 (0, 0, 0, RA, rd0)).1 = -4 ∧ ¬ (rdF T l 201 (0, 0, 0, RA, rd0)).2.2.1 = 0) ∧ roK (rdF T l 201 (0, 0, 0, RA, rd0)).2 ∧ w = some (.int (I (rdF T l 201 (0, 0, 0, RA, rd0)).2.2.2.1)) ∧ ∃ nu2 : Int, MS g r n s l (rdF T l 201 (0, 0, 0, RA, rd0)).2.1 nu2 (rdF T l 201 (0, 0, 0, RA, rd0)).2.2.1 (rdF T l 201 (0, 0, 0, RA, rd0)).2.2.2.1 (rdF T l 201 (0, 0, 0, RA, rd0)).2.2.1 (rdF T l 201 (0, 0, 0, RA, rd0)).2.2.2.1 0 T (rdF T l 201 (0, 0, 0, RA, rd0)).2.2.2.2.1 (rdF T l 201 (0, 0, 0, RA, rd0)).2.2.2.2.2 (rdF T l 201 (0, 0, 0, RA, rd0)).2.2.2.2.1 (rdF T l 201 (0, 0, 0, RA, rd0)).2.2.2.2.2 SD KP h'))) := by
  refine M.of (by decide +kernel) (Nat.le_of_ble_eq_true rfl) ?_
  have hrg := rdF_rg (T := T) hl.2 201 (0, 0, 0, RA, rd0) (by dsimp only; omega) ⟨Or.inl rfl, by dsimp only; omega, hra, rok_rd0⟩
  refine V_aload_n dX8_configure_0 rfl ?_
  refine V_callV (Y' := YX8_readAll) dX8_configure_1 lX8_89 gX8_readAll (m8_readAll hT hl hra hm) hm.1 rfl rfl rfl (Nat.le_of_ble_eq_true rfl) ⟨Nat.zero_le _, Nat.zero_le _⟩ (fun v h1 sz1 hq => ?_)
  obtain ⟨rfl, rfl, hm⟩ := hq
  refine J_bipush dX8_configure_4 (by decide) ?_
  refine J_icmp_ne (tgt := 16) dX8_configure_6 (by decide) (by omega) (by omega) (fun c6 => ?_) (fun c6 => ?_)
  · rcases hm with ⟨q, _⟩ | ⟨_, sp2, nu2, rs2, rm2, RA2, RD2, hr2, hm⟩
    · exact absurd q c6
    · refine J_bipush dX8_configure_16 (by decide) ?_
      exact V_iret dX8_configure_18 rfl rfl ⟨Nat.zero_le _, Nat.zero_le _⟩ ⟨rfl, Or.inl ⟨fun w => c6 w.1, rfl, _, _, _, _, _, _, hr2, hm⟩⟩
  · rcases hm with ⟨_, hko, nu2, hm⟩ | ⟨q, _⟩
    · have hk1 := hko.1
      refine V_aload_n dX8_configure_9 rfl ?_
      refine V_get dX8_configure_10 fX8_34 hm.1 rfl ?_
      refine J_if_ne (tgt := 19) dX8_configure_13 (by decide) (by omega) (fun c13 => ?_) (fun c13 => ?_)
      · refine V_aload_n dX8_configure_19 rfl ?_
        refine V_callV (Y' := YX8_takeRead) dX8_configure_20 lX8_41 gX8_takeRead (m8_takeRead hm) hm.1 rfl rfl rfl (Nat.le_of_ble_eq_true rfl) ⟨Nat.zero_le _, Nat.zero_le _⟩ (fun v h1 sz1 hq => ?_)
        obtain ⟨rfl, rfl, hm⟩ := hq
        refine V_aload_n dX8_configure_23 rfl ?_
        refine V_get dX8_configure_24 fX8_47 hm.1 rfl ?_
        exact V_iret dX8_configure_27 rfl rfl ⟨Nat.zero_le _, Nat.zero_le _⟩ ⟨rfl, Or.inr ⟨by omega, hko, rfl, _, hm⟩⟩
      · refine J_bipush dX8_configure_16 (by decide) ?_
        exact V_iret dX8_configure_18 rfl rfl ⟨Nat.zero_le _, Nat.zero_le _⟩ ⟨rfl, Or.inl ⟨by omega, rfl, _, _, _, _, _, _, hko.2.2.1, hm⟩⟩
    · exact absurd c6 q
