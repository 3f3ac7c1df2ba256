/-! THE REFERENCE, first rows: in, clearText, letterHere, append, beginRead, takeRead -/
set_option maxHeartbeats 4000000 in
set_option maxRecDepth 100000 in
/-- in(v, lo, hi) -/
theorem m8_in {z : ZG} {d sz : Nat} {h : AH} {v lo hi : Int} (hv : -9223372036854775808 ≤ v ∧ v < 9223372036854775808) (hl : -9223372036854775808 ≤ lo ∧ lo < 9223372036854775808) (hh : -9223372036854775808 ≤ hi ∧ hi < 9223372036854775808) : M z YX8_in d 0 0 [.long (J v), .long (J lo), .long (J hi)] h sz (fun w h' sz' => ∃ t : Int, w = some (.int (I t)) ∧ ((t = 1 ∧ lo ≤ v ∧ v ≤ hi) ∨ (t = 0 ∧ ¬ (lo ≤ v ∧ v ≤ hi))) ∧ h' = h ∧ sz' = sz) := by
  refine M.of (by decide +kernel) (Nat.le_of_ble_eq_true rfl) ?_
  refine V_lload_n dX8_in_0 rfl ?_
  refine V_lload_n dX8_in_1 rfl ?_
  refine J_lcmp_lt (tgt := 17) dX8_in_2 dX8_in_3 (by decide) (by omega) (by omega) (fun c2 => ?_) (fun c2 => ?_)
  · refine J_iconst dX8_in_17 ?_
    exact V_iret dX8_in_18 rfl rfl ⟨Nat.zero_le _, Nat.zero_le _⟩ ⟨_, rfl, by omega, rfl, rfl⟩
  · refine V_lload_n dX8_in_6 rfl ?_
    refine V_lload dX8_in_7 rfl ?_
    refine J_lcmp_gt (tgt := 17) dX8_in_9 dX8_in_10 (by decide) (by omega) (by omega) (fun c9 => ?_) (fun c9 => ?_)
    · refine J_iconst dX8_in_17 ?_
      exact V_iret dX8_in_18 rfl rfl ⟨Nat.zero_le _, Nat.zero_le _⟩ ⟨_, rfl, by omega, rfl, rfl⟩
    · refine J_iconst dX8_in_13 ?_
      refine V_goto (tgt := 18) dX8_in_14 (by decide) ?_
      exact V_iret dX8_in_18 rfl rfl ⟨Nat.zero_le _, Nat.zero_le _⟩ ⟨_, rfl, by omega, rfl, rfl⟩
set_option maxHeartbeats 4000000 in
set_option maxRecDepth 100000 in
theorem m8_clearText {z : ZG} {d sz r n s : Nat} {g h : AH} {l sp nu rs rm sc mk km : Int} {T RA RD MA NW SD KP : Nat → Int} (hm : MS g r n s l sp nu rs rm sc mk km T RA RD MA NW SD KP h) : M z YX8_clearText d 0 0 [.ref r] h sz (fun w h' sz' => w = some (.int (I l)) ∧ sz' = sz ∧ MS g r n s 0 sp nu rs rm sc mk km T RA RD MA NW SD KP h') := by
  refine M.of (by decide +kernel) (Nat.le_of_ble_eq_true rfl) ?_
  refine V_aload_n dX8_clearText_0 rfl ?_
  refine V_get dX8_clearText_1 fX8_61 hm.1 rfl ?_
  refine V_istore_n dX8_clearText_4 (Nat.le_of_ble_eq_true rfl) ?_
  refine V_aload_n dX8_clearText_5 rfl ?_
  refine J_iconst dX8_clearText_6 ?_
  refine R_put_1 dX8_clearText_7 fX8_61 hm (fun h hm => ?_)
  refine V_iload_n dX8_clearText_10 rfl ?_
  exact V_iret dX8_clearText_11 rfl rfl ⟨Nat.zero_le _, Nat.zero_le _⟩ ⟨rfl, rfl, hm⟩
/-- the sign at the spot, 0 behind the text -/
def lh (T : Nat → Int) (l sp : Int) : Int := if sp < l then T sp.toNat else 0
theorem lh_rg {T : Nat → Int} {l sp : Int} (hT : ∀ j, j < 200 → 0 ≤ T j ∧ T j ≤ 126) (hl : 0 ≤ sp ∧ l ≤ 200) : 0 ≤ lh T l sp ∧ lh T l sp ≤ 126 := by
  unfold lh
  split
  · exact hT _ (by omega)
  · omega
set_option maxHeartbeats 4000000 in
set_option maxRecDepth 100000 in
theorem m8_letterHere {z : ZG} {d sz r n s : Nat} {g h : AH} {l sp nu rs rm sc mk km : Int} {T RA RD MA NW SD KP : Nat → Int} (hm : MS g r n s l sp nu rs rm sc mk km T RA RD MA NW SD KP h) (hl : 0 ≤ l ∧ l ≤ 200) (hs : 0 ≤ sp ∧ sp < 100000) : M z YX8_letterHere d 0 0 [.ref r] h sz (fun w h' sz' => w = some (.int (I (lh T l sp))) ∧ h' = h ∧ sz' = sz) := by
  refine M.of (by decide +kernel) (Nat.le_of_ble_eq_true rfl) ?_
  refine V_aload_n dX8_letterHere_0 rfl ?_
  refine V_get dX8_letterHere_1 fX8_64 hm.1 rfl ?_
  refine V_aload_n dX8_letterHere_4 rfl ?_
  refine V_get dX8_letterHere_5 fX8_61 hm.1 rfl ?_
  refine J_icmp_ge (tgt := 23) dX8_letterHere_8 (by decide) (by omega) (by omega) (fun c8 => ?_) (fun c8 => ?_)
  · refine J_iconst dX8_letterHere_23 ?_
    exact V_iret dX8_letterHere_24 rfl rfl ⟨Nat.zero_le _, Nat.zero_le _⟩ ⟨by unfold lh; first | rw [if_pos (by omega)] | rw [if_neg (by omega)], rfl, rfl⟩
  · refine V_aload_n dX8_letterHere_11 rfl ?_
    refine V_get dX8_letterHere_12 fX8_7 hm.1 rfl ?_
    refine V_aload_n dX8_letterHere_15 rfl ?_
    refine V_get dX8_letterHere_16 fX8_64 hm.1 rfl ?_
    refine R_ald_T dX8_letterHere_19 hm (by omega) ?_
    refine V_goto (tgt := 24) dX8_letterHere_20 (by decide) ?_
    exact V_iret dX8_letterHere_24 rfl rfl ⟨Nat.zero_le _, Nat.zero_le _⟩ ⟨by unfold lh; first | rw [if_pos (by omega)] | rw [if_neg (by omega)], rfl, rfl⟩
set_option maxHeartbeats 4000000 in
set_option maxRecDepth 100000 in
theorem m8_append {z : ZG} {d sz r n s : Nat} {g h : AH} {l sp nu rs rm sc mk km : Int} {T RA RD MA NW SD KP : Nat → Int} {c : Int} (hc : -2147483648 ≤ c ∧ c < 2147483648) (hm : MS g r n s l sp nu rs rm sc mk km T RA RD MA NW SD KP h) (hl : 0 ≤ l ∧ l ≤ 200) : M z YX8_append (d + 1) 0 0 [.ref r, .int (I c)] h sz (fun w h' sz' => ∃ (res l2 : Int) (T2 : Nat → Int), w = some (.int (I res)) ∧ sz' = sz ∧ MS g r n s l2 sp nu rs rm sc mk km T2 RA RD MA NW SD KP h' ∧ ((¬ (32 ≤ c ∧ c ≤ 126) ∧ res = -1 ∧ l2 = l ∧ T2 = T) ∨ ((32 ≤ c ∧ c ≤ 126) ∧ l = 200 ∧ res = -3 ∧ l2 = l ∧ T2 = T) ∨ ((32 ≤ c ∧ c ≤ 126) ∧ l ≠ 200 ∧ res = l + 1 ∧ l2 = l + 1 ∧ T2 = va_up T l.toNat c))) := by
  refine M.of (by decide +kernel) (Nat.le_of_ble_eq_true rfl) ?_
  refine V_iload_n dX8_append_0 rfl ?_
  refine J_i2l dX8_append_1 (by omega) ?_
  refine J_ldc2 32 dX8_append_2 cX8_53 rfl ?_
  refine J_ldc2 126 dX8_append_5 cX8_55 rfl ?_
  refine V_callS (Y' := YX8_in) dX8_append_8 lX8_57 gX8_in (m8_in (by omega) (by omega) (by omega)) rfl rfl (Nat.le_of_ble_eq_true rfl) ⟨Nat.zero_le _, Nat.zero_le _⟩ (fun v h1 sz1 hq => ?_)
  obtain ⟨t8, rfl, ht8, rfl, rfl⟩ := hq
  refine J_if_ne (tgt := 16) dX8_append_11 (by decide) (by omega) (fun c11 => ?_) (fun c11 => ?_)
  · refine V_aload_n dX8_append_16 rfl ?_
    refine V_get dX8_append_17 fX8_61 hm.1 rfl ?_
    refine J_sipush dX8_append_20 (by decide) ?_
    refine J_icmp_ne (tgt := 29) dX8_append_23 (by decide) (by omega) (by omega) (fun c23 => ?_) (fun c23 => ?_)
    · refine V_aload_n dX8_append_29 rfl ?_
      refine V_get dX8_append_30 fX8_7 hm.1 rfl ?_
      refine V_aload_n dX8_append_33 rfl ?_
      refine V_get dX8_append_34 fX8_61 hm.1 rfl ?_
      refine V_iload_n dX8_append_37 rfl ?_
      refine R_ast_T dX8_append_38 hm (by omega) (fun h hm => ?_)
      refine V_aload_n dX8_append_39 rfl ?_
      refine V_dup dX8_append_40 rfl ?_
      refine V_get dX8_append_41 fX8_61 hm.1 rfl ?_
      refine J_iconst dX8_append_44 ?_
      refine J_iadd dX8_append_45 ?_
      refine R_put_1 dX8_append_46 fX8_61 hm (fun h hm => ?_)
      refine V_aload_n dX8_append_49 rfl ?_
      refine V_get dX8_append_50 fX8_61 hm.1 rfl ?_
      exact V_iret dX8_append_53 rfl rfl ⟨Nat.zero_le _, Nat.zero_le _⟩ ⟨_, _, _, rfl, rfl, hm, Or.inr (Or.inr ⟨by omega, by omega, rfl, rfl, rfl⟩)⟩
    · refine J_bipush dX8_append_26 (by decide) ?_
      exact V_iret dX8_append_28 rfl rfl ⟨Nat.zero_le _, Nat.zero_le _⟩ ⟨_, _, _, rfl, rfl, hm, Or.inr (Or.inl ⟨by omega, by omega, rfl, rfl, rfl⟩)⟩
  · refine J_iconst dX8_append_14 ?_
    exact V_iret dX8_append_15 rfl rfl ⟨Nat.zero_le _, Nat.zero_le _⟩ ⟨_, _, _, rfl, rfl, hm, Or.inl ⟨by omega, rfl, rfl, rfl⟩⟩
def rd0 (j : Nat) : Int := if j = 5 then 4 else if j = 6 then 22 else 0
set_option maxHeartbeats 4000000 in
set_option maxRecDepth 100000 in
theorem l8_beginRead {z : ZG} {d sz r n s : Nat} {g : AH} {l sp nu  sc mk km : Int} {T RA MA NW SD KP : Nat → Int} : ∀ (f : Nat) (i : Int) (RD : Nat → Int) (h : AH), 0 ≤ i → i ≤ 42 → 42 - i < f → (∀ j : Nat, (j : Int) < i → RD j = 0) → MS g r n s l sp nu 0 0 sc mk km T RA RD MA NW SD KP h → V z YX8_beginRead (zroom d 0 0) (fun w h' sz' => w = none ∧ sz' = sz ∧ MS g r n s l sp nu 0 0 sc mk km T RA rd0 MA NW SD KP h') 12 [some (.ref r), some (.int (I i))] [] h sz 0 0 := by
  intro f
  induction f with
  | zero => intro i RD h h1 h2 h3; omega
  | succ f ih =>
    intro i RD h h1 h2 h3 hz hm
    refine V_iload_n dX8_beginRead_12 rfl ?_
    refine J_bipush dX8_beginRead_13 (by decide) ?_
    refine J_icmp_ge (tgt := 31) dX8_beginRead_15 (by decide) (by omega) (by omega) (fun c15 => ?_) (fun c15 => ?_)
    · refine V_aload_n dX8_beginRead_31 rfl ?_
      refine V_get dX8_beginRead_32 fX8_16 hm.1 rfl ?_
      refine J_iconst dX8_beginRead_35 ?_
      refine J_iconst dX8_beginRead_36 ?_
      refine R_astk_RD 5 dX8_beginRead_37 hm rfl (by decide) (fun h hm => ?_)
      refine V_aload_n dX8_beginRead_38 rfl ?_
      refine V_get dX8_beginRead_39 fX8_16 hm.1 rfl ?_
      refine J_bipush dX8_beginRead_42 (by decide) ?_
      refine J_bipush dX8_beginRead_44 (by decide) ?_
      refine R_astk_RD 6 dX8_beginRead_46 hm rfl (by decide) (fun h hm => ?_)
      exact V_ret dX8_beginRead_47 rfl ⟨Nat.zero_le _, Nat.zero_le _⟩ ⟨rfl, rfl, hm.eRD (fun j hj => by have hz := hz j (by omega); unfold rd0; simp only [va_up]; split <;> (try split) <;> simp_all)⟩
    · refine V_aload_n dX8_beginRead_18 rfl ?_
      refine V_get dX8_beginRead_19 fX8_16 hm.1 rfl ?_
      refine V_iload_n dX8_beginRead_22 rfl ?_
      refine J_iconst dX8_beginRead_23 ?_
      refine R_ast_RD dX8_beginRead_24 hm (by omega) (fun h hm => ?_)
      refine J_iinc dX8_beginRead_25 rfl ?_
      refine V_goto (tgt := 12) dX8_beginRead_28 (by decide) ?_
      refine ih (i + 1) _ h (by omega) (by omega) (by omega) ?_ hm
      intro j hj
      simp only [va_up]
      split
      · rfl
      · exact hz j (by omega)
set_option maxHeartbeats 4000000 in
set_option maxRecDepth 100000 in
theorem m8_beginRead {z : ZG} {d sz r n s : Nat} {g h : AH} {l sp nu rs rm sc mk km : Int} {T RA RD MA NW SD KP : Nat → Int} (hm : MS g r n s l sp nu rs rm sc mk km T RA RD MA NW SD KP h) : M z YX8_beginRead d 0 0 [.ref r] h sz (fun w h' sz' => w = none ∧ sz' = sz ∧ MS g r n s l sp nu 0 0 sc mk km T RA rd0 MA NW SD KP h') := by
  refine M.of (by decide +kernel) (Nat.le_of_ble_eq_true rfl) ?_
  refine V_aload_n dX8_beginRead_0 rfl ?_
  refine J_iconst dX8_beginRead_1 ?_
  refine R_put_4 dX8_beginRead_2 fX8_34 hm (fun h hm => ?_)
  refine V_aload_n dX8_beginRead_5 rfl ?_
  refine J_iconst dX8_beginRead_6 ?_
  refine R_put_5 dX8_beginRead_7 fX8_38 hm (fun h hm => ?_)
  refine J_iconst dX8_beginRead_10 ?_
  refine V_istore_n dX8_beginRead_11 (Nat.le_of_ble_eq_true rfl) ?_
  exact l8_beginRead 43 0 _ _ (by omega) (by omega) (by omega) (fun j hj => by omega) hm
