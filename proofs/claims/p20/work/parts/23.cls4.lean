/-! THE CLASS: Log, the parts made anew, State (X3, X6) -/
def lgn (n : Int) : Int := if n < 8 then n + 1 else n
set_option maxHeartbeats 4000000 in
set_option maxRecDepth 100000 in
theorem m3_add {z : ZG} {d sz a : Nat} {h : AH} {n x y v : Int} {K P C : Nat → Int} (hx : -2147483648 ≤ x ∧ x < 2147483648) (hy : -2147483648 ≤ y ∧ y < 2147483648) (hn : 0 ≤ n ∧ n ≤ 8) (hG : LG h a n K P C) : M z YX3_add (d + 1) 0 0 [.ref a, .int (I x), .int (I y), .long (J v)] h sz (fun w h' sz' => w = none ∧ sz' = sz ∧ fr h h' a (a + 7) ∧ LG h' a (lgn n) (rpf K x) (rpf P y) (rpf C v)) := by
  refine M.of (by decide +kernel) (Nat.le_of_ble_eq_true rfl) ?_
  obtain ⟨hT, hK, hP, hC⟩ := hG
  have hF : fr h h a (a + 7) := fr.rf
  refine V_aload_n dX3_add_0 rfl ?_
  refine V_get dX3_add_1 fX3_14 hT rfl ?_
  refine V_iload_n dX3_add_4 rfl ?_
  refine J_i2l dX3_add_5 (by omega) ?_
  refine V_callV (Y' := YX4_addFirst) dX3_add_6 lX3_26 gX4_addFirst (m4_addFirst (by decide) hn hK (by decide)) hK.c rfl rfl rfl (Nat.le_of_ble_eq_true rfl) ⟨Nat.zero_le _, Nat.zero_le _⟩ (fun v h1 sz1 hq => ?_)
  obtain ⟨rfl, rfl, hf, hq⟩ := hq
  have hK : RW h1 (a + 1) 8 (lgn n) (rpf K x) := hq.elim (fun q => by unfold lgn; rw [if_pos (by have q := q.1; exact q)]; exact q.2) (fun q => by unfold lgn; rw [if_neg (by have q := q.1; exact q)]; exact q.2)
  have hF := hF.then (hf.wide (by omega) (by omega))
  have hT := (hf a (by omega)).trans hT
  have hP := hP.kept (hf _ (by omega)) (hf _ (by omega))
  have hC := hC.kept (hf _ (by omega)) (hf _ (by omega))
  refine V_aload_n dX3_add_9 rfl ?_
  refine V_get dX3_add_10 fX3_20 hT rfl ?_
  refine V_iload_n dX3_add_13 rfl ?_
  refine J_i2l dX3_add_14 (by omega) ?_
  refine V_callV (Y' := YX4_addFirst) dX3_add_15 lX3_26 gX4_addFirst (m4_addFirst (by decide) hn hP (by decide)) hP.c rfl rfl rfl (Nat.le_of_ble_eq_true rfl) ⟨Nat.zero_le _, Nat.zero_le _⟩ (fun v h1 sz1 hq => ?_)
  obtain ⟨rfl, rfl, hf, hq⟩ := hq
  have hP : RW h1 (a + 3) 8 (lgn n) (rpf P y) := hq.elim (fun q => by unfold lgn; rw [if_pos (by have q := q.1; exact q)]; exact q.2) (fun q => by unfold lgn; rw [if_neg (by have q := q.1; exact q)]; exact q.2)
  have hF := hF.then (hf.wide (by omega) (by omega))
  have hT := (hf a (by omega)).trans hT
  have hK := hK.kept (hf _ (by omega)) (hf _ (by omega))
  have hC := hC.kept (hf _ (by omega)) (hf _ (by omega))
  refine V_aload_n dX3_add_18 rfl ?_
  refine V_get dX3_add_19 fX3_23 hT rfl ?_
  refine V_lload_n dX3_add_22 rfl ?_
  refine V_callV (Y' := YX4_addFirst) dX3_add_23 lX3_26 gX4_addFirst (m4_addFirst (by decide) hn hC (by decide)) hC.c rfl rfl rfl (Nat.le_of_ble_eq_true rfl) ⟨Nat.zero_le _, Nat.zero_le _⟩ (fun v h1 sz1 hq => ?_)
  obtain ⟨rfl, rfl, hf, hq⟩ := hq
  have hC : RW h1 (a + 5) 8 (lgn n) (rpf C v) := hq.elim (fun q => by unfold lgn; rw [if_pos (by have q := q.1; exact q)]; exact q.2) (fun q => by unfold lgn; rw [if_neg (by have q := q.1; exact q)]; exact q.2)
  have hF := hF.then (hf.wide (by omega) (by omega))
  have hT := (hf a (by omega)).trans hT
  have hK := hK.kept (hf _ (by omega)) (hf _ (by omega))
  have hP := hP.kept (hf _ (by omega)) (hf _ (by omega))
  exact V_ret dX3_add_26 rfl ⟨Nat.zero_le _, Nat.zero_le _⟩ ⟨rfl, rfl, hF, hT, hK, hP, hC⟩
set_option maxHeartbeats 4000000 in
set_option maxRecDepth 100000 in
theorem m3_wantsMiss {z : ZG} {d sz a : Nat} {h : AH} {n : Int} {K P C : Nat → Int} (hn : 0 ≤ n ∧ n ≤ 8) (hG : LG h a n K P C) (hk : ∀ i : Nat, (i : Int) < n → 0 ≤ K i ∧ K i ≤ 1) : M z YX3_wantsMiss (d + 3) 0 0 [.ref a] h sz (fun w h' sz' => ∃ t : Int, w = some (.int (I t)) ∧ ((t = 1 ∧ (n = 0 ∨ K 0 = 0)) ∨ (t = 0 ∧ ¬ (n = 0 ∨ K 0 = 0))) ∧ h' = h ∧ sz' = sz) := by
  refine M.of (by decide +kernel) (Nat.le_of_ble_eq_true rfl) ?_
  obtain ⟨hT, hK, hP, hC⟩ := hG
  refine V_aload_n dX3_wantsMiss_0 rfl ?_
  refine V_get dX3_wantsMiss_1 fX3_14 hT rfl ?_
  refine V_callV (Y' := YX4_size) dX3_wantsMiss_4 lX3_30 gX4_size (m4_size (by decide) hn hK) hK.c rfl rfl rfl (Nat.le_of_ble_eq_true rfl) ⟨Nat.zero_le _, Nat.zero_le _⟩ (fun v h1 sz1 hq => ?_)
  obtain ⟨rfl, rfl, rfl⟩ := hq
  refine J_if_eq (tgt := 21) dX3_wantsMiss_7 (by decide) (by omega) (fun c7 => ?_) (fun c7 => ?_)
  · refine J_iconst dX3_wantsMiss_21 ?_
    refine V_goto (tgt := 26) dX3_wantsMiss_22 (by decide) ?_
    exact V_iret dX3_wantsMiss_26 rfl rfl ⟨Nat.zero_le _, Nat.zero_le _⟩ ⟨_, rfl, by omega, rfl, rfl⟩
  · refine V_aload_n dX3_wantsMiss_10 rfl ?_
    refine V_get dX3_wantsMiss_11 fX3_14 hT rfl ?_
    refine J_iconst dX3_wantsMiss_14 ?_
    refine V_callV (Y' := YX4_intAt) dX3_wantsMiss_15 lX3_34 gX4_intAt (m4_intAt (by decide) hn hK (i := 0) (by omega)) hK.c rfl rfl rfl (Nat.le_of_ble_eq_true rfl) ⟨Nat.zero_le _, Nat.zero_le _⟩ (fun v h1 sz1 hq => ?_)
    obtain ⟨rfl, rfl, rfl⟩ := hq
    have hk0 := hk 0 (by show (0 : Int) < n; omega)
    rw [show rat n K 0 = K 0 by unfold rat; rw [if_pos (by omega)]; rfl]
    refine J_if_ne (tgt := 25) dX3_wantsMiss_18 (by decide) (by omega) (fun c18 => ?_) (fun c18 => ?_)
    · refine J_iconst dX3_wantsMiss_25 ?_
      exact V_iret dX3_wantsMiss_26 rfl rfl ⟨Nat.zero_le _, Nat.zero_le _⟩ ⟨_, rfl, by omega, rfl, rfl⟩
    · refine J_iconst dX3_wantsMiss_21 ?_
      refine V_goto (tgt := 26) dX3_wantsMiss_22 (by decide) ?_
      exact V_iret dX3_wantsMiss_26 rfl rfl ⟨Nat.zero_le _, Nat.zero_le _⟩ ⟨_, rfl, by omega, rfl, rfl⟩
/-- the first mark event from an index on -/
def mkf (n : Int) (K : Nat → Int) (i0 res : Int) : Prop := (res = -4 ∧ ∀ i : Nat, i0 ≤ i → (i : Int) < n → ¬ K i = 0) ∨ (∃ k : Nat, res = k ∧ i0 ≤ k ∧ (k : Int) < n ∧ K k = 0 ∧ ∀ i : Nat, i0 ≤ i → i < k → ¬ K i = 0)
set_option maxHeartbeats 4000000 in
set_option maxRecDepth 100000 in
theorem l3_mef_2 {z : ZG} {d sz a : Nat} {h : AH} {n : Int} {K P C : Nat → Int} (hn : 0 ≤ n ∧ n ≤ 8) (hG : LG h a n K P C) (hk : ∀ i : Nat, (i : Int) < n → 0 ≤ K i ∧ K i ≤ 1) {i0 : Int} : ∀ (f k : Nat), i0 ≤ k → k ≤ 9 → 9 - k < f → (∀ i : Nat, i0 ≤ i → i < k → ¬ K i = 0) → V z YX3_markEventFrom (zroom (d + 3) 0 0) (fun w h' sz' => ∃ res : Int, w = some (.int (I res)) ∧ mkf n K i0 res ∧ h' = h ∧ sz' = sz) 2 [some (.ref a), some (.int (I i0)), some (.int (I (k : Int)))] [] h sz 0 0 := by
  obtain ⟨hT, hK, hP, hC⟩ := hG
  intro f
  induction f with
  | zero => intro k h0 h1 h2; omega
  | succ f ih =>
    intro k h0 h1 h2 hz
    refine V_iload_n dX3_markEventFrom_2 rfl ?_
    refine V_aload_n dX3_markEventFrom_3 rfl ?_
    refine V_get dX3_markEventFrom_4 fX3_14 hT rfl ?_
    refine V_callV (Y' := YX4_size) dX3_markEventFrom_7 lX3_30 gX4_size (m4_size (by decide) hn hK) hK.c rfl rfl rfl (Nat.le_of_ble_eq_true rfl) ⟨Nat.zero_le _, Nat.zero_le _⟩ (fun v h1 sz1 hq => ?_)
    obtain ⟨rfl, rfl, rfl⟩ := hq
    refine J_icmp_ge (tgt := 32) dX3_markEventFrom_10 (by decide) (by omega) (by omega) (fun c10 => ?_) (fun c10 => ?_)
    · refine J_bipush dX3_markEventFrom_32 (by decide) ?_
      exact V_iret dX3_markEventFrom_34 rfl rfl ⟨Nat.zero_le _, Nat.zero_le _⟩ ⟨_, rfl, Or.inl ⟨rfl, fun i q1 q2 => hz i q1 (by omega)⟩, rfl, rfl⟩
    · refine V_aload_n dX3_markEventFrom_13 rfl ?_
      refine V_get dX3_markEventFrom_14 fX3_14 hT rfl ?_
      refine V_iload_n dX3_markEventFrom_17 rfl ?_
      refine V_callV (Y' := YX4_intAt) dX3_markEventFrom_18 lX3_34 gX4_intAt (m4_intAt (by decide) hn hK (by omega)) hK.c rfl rfl rfl (Nat.le_of_ble_eq_true rfl) ⟨Nat.zero_le _, Nat.zero_le _⟩ (fun v h1 sz1 hq => ?_)
      obtain ⟨rfl, rfl, rfl⟩ := hq
      have hkk := hk k (by omega)
      rw [show rat n K (k : Int) = K k by unfold rat; rw [if_pos (by omega), Int.toNat_natCast]]
      refine J_if_ne (tgt := 26) dX3_markEventFrom_21 (by decide) (by omega) (fun c21 => ?_) (fun c21 => ?_)
      · refine J_iinc dX3_markEventFrom_26 rfl ?_
        refine V_goto (tgt := 2) dX3_markEventFrom_29 (by decide) ?_
        refine ih (k + 1) (by omega) (by omega) (by omega) (fun i q1 q2 => ?_)
        by_cases e : i = k
        · subst e; exact c21
        · exact hz i q1 (by omega)
      · refine V_iload_n dX3_markEventFrom_24 rfl ?_
        exact V_iret dX3_markEventFrom_25 rfl rfl ⟨Nat.zero_le _, Nat.zero_le _⟩ ⟨_, rfl, Or.inr ⟨k, rfl, h0, by omega, c21, hz⟩, rfl, rfl⟩
set_option maxHeartbeats 4000000 in
set_option maxRecDepth 100000 in
theorem m3_markEventFrom {z : ZG} {d sz a : Nat} {h : AH} {n : Int} {K P C : Nat → Int} (hn : 0 ≤ n ∧ n ≤ 8) (hG : LG h a n K P C) (hk : ∀ i : Nat, (i : Int) < n → 0 ≤ K i ∧ K i ≤ 1) {k : Nat} (hk8 : k ≤ 8) : M z YX3_markEventFrom (d + 3) 0 0 [.ref a, .int (I (k : Int))] h sz (fun w h' sz' => ∃ res : Int, w = some (.int (I res)) ∧ mkf n K (k : Int) res ∧ h' = h ∧ sz' = sz) := by
  refine M.of (by decide +kernel) (Nat.le_of_ble_eq_true rfl) ?_
  refine V_iload_n dX3_markEventFrom_0 rfl ?_
  refine V_istore_n dX3_markEventFrom_1 (Nat.le_of_ble_eq_true rfl) ?_
  exact l3_mef_2 hn hG hk 10 k (by omega) (by omega) (by omega) (fun i q1 q2 => by omega)
set_option maxHeartbeats 4000000 in
set_option maxRecDepth 100000 in
theorem m3_clear {z : ZG} {d sz a : Nat} {h : AH} {n : Int} {K P C : Nat → Int} (hn : 0 ≤ n ∧ n ≤ 8) (hG : LG h a n K P C) : M z YX3_clear (d + 1) 0 0 [.ref a] h sz (fun w h' sz' => w = none ∧ sz' = sz ∧ fr h h' a (a + 7) ∧ LG h' a 0 K P C) := by
  refine M.of (by decide +kernel) (Nat.le_of_ble_eq_true rfl) ?_
  obtain ⟨hT, hK, hP, hC⟩ := hG
  have hF : fr h h a (a + 7) := fr.rf
  refine V_aload_n dX3_clear_0 rfl ?_
  refine V_get dX3_clear_1 fX3_14 hT rfl ?_
  refine V_callV (Y' := YX4_clear) dX3_clear_4 lX3_38 gX4_clear (m4_clear (by decide) hn hK) hK.c rfl rfl rfl (Nat.le_of_ble_eq_true rfl) ⟨Nat.zero_le _, Nat.zero_le _⟩ (fun v h1 sz1 hq => ?_)
  obtain ⟨rfl, rfl, hf, hK⟩ := hq
  have hF := hF.then (hf.wide (by omega) (by omega))
  have hT := (hf a (by omega)).trans hT
  have hP := hP.kept (hf _ (by omega)) (hf _ (by omega))
  have hC := hC.kept (hf _ (by omega)) (hf _ (by omega))
  refine V_aload_n dX3_clear_7 rfl ?_
  refine V_get dX3_clear_8 fX3_20 hT rfl ?_
  refine V_callV (Y' := YX4_clear) dX3_clear_11 lX3_38 gX4_clear (m4_clear (by decide) hn hP) hP.c rfl rfl rfl (Nat.le_of_ble_eq_true rfl) ⟨Nat.zero_le _, Nat.zero_le _⟩ (fun v h1 sz1 hq => ?_)
  obtain ⟨rfl, rfl, hf, hP⟩ := hq
  have hF := hF.then (hf.wide (by omega) (by omega))
  have hT := (hf a (by omega)).trans hT
  have hK := hK.kept (hf _ (by omega)) (hf _ (by omega))
  have hC := hC.kept (hf _ (by omega)) (hf _ (by omega))
  refine V_aload_n dX3_clear_14 rfl ?_
  refine V_get dX3_clear_15 fX3_23 hT rfl ?_
  refine V_callV (Y' := YX4_clear) dX3_clear_18 lX3_38 gX4_clear (m4_clear (by decide) hn hC) hC.c rfl rfl rfl (Nat.le_of_ble_eq_true rfl) ⟨Nat.zero_le _, Nat.zero_le _⟩ (fun v h1 sz1 hq => ?_)
  obtain ⟨rfl, rfl, hf, hC⟩ := hq
  have hF := hF.then (hf.wide (by omega) (by omega))
  have hT := (hf a (by omega)).trans hT
  have hK := hK.kept (hf _ (by omega)) (hf _ (by omega))
  have hP := hP.kept (hf _ (by omega)) (hf _ (by omega))
  exact V_ret dX3_clear_21 rfl ⟨Nat.zero_le _, Nat.zero_le _⟩ ⟨rfl, rfl, hF, hT, hK, hP, hC⟩
set_option maxHeartbeats 4000000 in
set_option maxRecDepth 100000 in
theorem m3_copyFrom {z : ZG} {d sz a b : Nat} {h : AH} {n n2 : Int} {K P C K2 P2 C2 : Nat → Int} (hab : a + 7 ≤ b ∨ b + 7 ≤ a) (hn : 0 ≤ n ∧ n ≤ 8) (hn2 : 0 ≤ n2 ∧ n2 ≤ 8) (hG : LG h a n K P C) (hG2 : LG h b n2 K2 P2 C2) : M z YX3_copyFrom (d + 3) 0 0 [.ref a, .ref b] h sz (fun w h' sz' => w = none ∧ sz' = sz ∧ fr h h' a (a + 7) ∧ LG h' a n2 K2 P2 C2) := by
  refine M.of (by decide +kernel) (Nat.le_of_ble_eq_true rfl) ?_
  obtain ⟨hT, hK, hP, hC⟩ := hG
  obtain ⟨hT2, hK2, hP2, hC2⟩ := hG2
  have hF : fr h h a (a + 7) := fr.rf
  refine V_aload_n dX3_copyFrom_0 rfl ?_
  refine V_get dX3_copyFrom_1 fX3_14 hT rfl ?_
  refine V_aload_n dX3_copyFrom_4 rfl ?_
  refine V_get dX3_copyFrom_5 fX3_14 hT2 rfl ?_
  refine V_callV (Y' := YX4_copyFrom) dX3_copyFrom_8 lX3_41 gX4_copyFrom (m4_copyFrom (by decide) (by omega) hn2 hK hK2) hK.c rfl rfl rfl (Nat.le_of_ble_eq_true rfl) ⟨Nat.zero_le _, Nat.zero_le _⟩ (fun v h1 sz1 hq => ?_)
  obtain ⟨rfl, rfl, hf, hK⟩ := hq
  have hF := hF.then (hf.wide (by omega) (by omega))
  have hT := (hf a (by omega)).trans hT
  have hP := hP.kept (hf _ (by omega)) (hf _ (by omega))
  have hC := hC.kept (hf _ (by omega)) (hf _ (by omega))
  have hT2 := (hf b (by omega)).trans hT2
  have hK2 := hK2.kept (hf _ (by omega)) (hf _ (by omega))
  have hP2 := hP2.kept (hf _ (by omega)) (hf _ (by omega))
  have hC2 := hC2.kept (hf _ (by omega)) (hf _ (by omega))
  refine V_aload_n dX3_copyFrom_11 rfl ?_
  refine V_get dX3_copyFrom_12 fX3_20 hT rfl ?_
  refine V_aload_n dX3_copyFrom_15 rfl ?_
  refine V_get dX3_copyFrom_16 fX3_20 hT2 rfl ?_
  refine V_callV (Y' := YX4_copyFrom) dX3_copyFrom_19 lX3_41 gX4_copyFrom (m4_copyFrom (by decide) (by omega) hn2 hP hP2) hP.c rfl rfl rfl (Nat.le_of_ble_eq_true rfl) ⟨Nat.zero_le _, Nat.zero_le _⟩ (fun v h1 sz1 hq => ?_)
  obtain ⟨rfl, rfl, hf, hP⟩ := hq
  have hF := hF.then (hf.wide (by omega) (by omega))
  have hT := (hf a (by omega)).trans hT
  have hK := hK.kept (hf _ (by omega)) (hf _ (by omega))
  have hC := hC.kept (hf _ (by omega)) (hf _ (by omega))
  have hT2 := (hf b (by omega)).trans hT2
  have hK2 := hK2.kept (hf _ (by omega)) (hf _ (by omega))
  have hP2 := hP2.kept (hf _ (by omega)) (hf _ (by omega))
  have hC2 := hC2.kept (hf _ (by omega)) (hf _ (by omega))
  refine V_aload_n dX3_copyFrom_22 rfl ?_
  refine V_get dX3_copyFrom_23 fX3_23 hT rfl ?_
  refine V_aload_n dX3_copyFrom_26 rfl ?_
  refine V_get dX3_copyFrom_27 fX3_23 hT2 rfl ?_
  refine V_callV (Y' := YX4_copyFrom) dX3_copyFrom_30 lX3_41 gX4_copyFrom (m4_copyFrom (by decide) (by omega) hn2 hC hC2) hC.c rfl rfl rfl (Nat.le_of_ble_eq_true rfl) ⟨Nat.zero_le _, Nat.zero_le _⟩ (fun v h1 sz1 hq => ?_)
  obtain ⟨rfl, rfl, hf, hC⟩ := hq
  have hF := hF.then (hf.wide (by omega) (by omega))
  have hT := (hf a (by omega)).trans hT
  have hK := hK.kept (hf _ (by omega)) (hf _ (by omega))
  have hP := hP.kept (hf _ (by omega)) (hf _ (by omega))
  have hT2 := (hf b (by omega)).trans hT2
  have hK2 := hK2.kept (hf _ (by omega)) (hf _ (by omega))
  have hP2 := hP2.kept (hf _ (by omega)) (hf _ (by omega))
  have hC2 := hC2.kept (hf _ (by omega)) (hf _ (by omega))
  exact V_ret dX3_copyFrom_33 rfl ⟨Nat.zero_le _, Nat.zero_le _⟩ ⟨rfl, rfl, hF, hT, hK, hP, hC⟩
set_option maxHeartbeats 4000000 in
set_option maxRecDepth 100000 in
theorem m1_init {z : ZG} {d a : Nat} {h : AH} (hT : h a = some (.inl (1, [.null, .null]))) : M z YX1_init (d + 2) 4 12 [.ref a] h (a + 1) (fun w h' sz' => w = none ∧ sz' = a + 5 ∧ fr h h' a (a + 5) ∧ DT h' a 0 (fun _ => 0) (fun _ => 0)) := by
  refine M.of (by decide +kernel) (Nat.le_of_ble_eq_true rfl) ?_
  have hF : fr h h a (a + 5) := fr.rf
  refine V_aload_n dX1_init_0 rfl ?_
  refine V_obj dX1_init_1 oX1_3 (Nat.le_of_ble_eq_true rfl) ?_
  refine V_aload_n dX1_init_4 rfl ?_
  refine V_new dX1_init_5 nX1_9 rfl ⟨Nat.le_of_ble_eq_true rfl, Nat.le_of_ble_eq_true rfl⟩ ?_
  refine V_dup dX1_init_8 rfl ?_
  refine J_iconst dX1_init_9 ?_
  refine V_callI (Y' := YX4_init) dX1_init_10 lX1_11 gX4_init (m4_init (a := a + 1) (cap := 4) (by decide) hset_s) rfl rfl (Nat.le_of_ble_eq_true rfl) ⟨Nat.le_of_ble_eq_true rfl, Nat.le_of_ble_eq_true rfl⟩ (fun v h1 sz1 hq => ?_)
  obtain ⟨rfl, rfl, hf1, hR1⟩ := hq
  have hT := (hf1 a (by omega)).trans ((hset_n (by omega)).trans hT)
  have hF : fr h h1 a (a + 5) := fun x hx => (hf1 x (by omega)).trans ((hset_n (by omega)).trans (hF x (by omega)))
  refine V_putF dX1_init_13 fX1_14 tX1_0 rfl (fun C T N q => by cases q; rfl) hT (Nat.le_of_ble_eq_true rfl) rfl rfl ?_
  have hT := hset_s (h := h1) (a := a) (c := (.inl (1, ([.null, .null]).set 0 (.ref (a + 1))) : AC))
  have hR1 := hR1.kept (h2 := hset h1 a (.inl (1, ([.null, .null]).set 0 (.ref (a + 1))))) (hset_n (by omega)) (hset_n (by omega))
  have hF : fr h (hset h1 a (.inl (1, ([.null, .null]).set 0 (.ref (a + 1))))) a (a + 5) := fun x hx => (hset_n (by omega)).trans (hF x hx)
  refine V_aload_n dX1_init_16 rfl ?_
  refine V_new dX1_init_17 nX1_9 rfl ⟨Nat.le_of_ble_eq_true rfl, Nat.le_of_ble_eq_true rfl⟩ ?_
  refine V_dup dX1_init_20 rfl ?_
  refine J_iconst dX1_init_21 ?_
  refine V_callI (Y' := YX4_init) dX1_init_22 lX1_11 gX4_init (m4_init (a := a + 3) (cap := 4) (by decide) hset_s) rfl rfl (Nat.le_of_ble_eq_true rfl) ⟨Nat.le_of_ble_eq_true rfl, Nat.le_of_ble_eq_true rfl⟩ (fun v h2 sz2 hq => ?_)
  obtain ⟨rfl, rfl, hf2, hR2⟩ := hq
  have hT := (hf2 a (by omega)).trans ((hset_n (by omega)).trans hT)
  have hR1 := hR1.kept ((hf2 _ (by omega)).trans (hset_n (by omega))) ((hf2 _ (by omega)).trans (hset_n (by omega)))
  have hF : fr h h2 a (a + 5) := fun x hx => (hf2 x (by omega)).trans ((hset_n (by omega)).trans (hF x (by omega)))
  refine V_putF dX1_init_25 fX1_20 tX1_1 rfl (fun C T N q => by cases q; rfl) hT (Nat.le_of_ble_eq_true rfl) rfl rfl ?_
  have hT := hset_s (h := h2) (a := a) (c := (.inl (1, (([.null, .null]).set 0 (.ref (a + 1))).set 1 (.ref (a + 3))) : AC))
  have hR1 := hR1.kept (h2 := hset h2 a (.inl (1, (([.null, .null]).set 0 (.ref (a + 1))).set 1 (.ref (a + 3))))) (hset_n (by omega)) (hset_n (by omega))
  have hR2 := hR2.kept (h2 := hset h2 a (.inl (1, (([.null, .null]).set 0 (.ref (a + 1))).set 1 (.ref (a + 3))))) (hset_n (by omega)) (hset_n (by omega))
  have hF : fr h (hset h2 a (.inl (1, (([.null, .null]).set 0 (.ref (a + 1))).set 1 (.ref (a + 3))))) a (a + 5) := fun x hx => (hset_n (by omega)).trans (hF x hx)
  exact V_ret dX1_init_28 rfl ⟨Nat.le_of_ble_eq_true rfl, Nat.le_of_ble_eq_true rfl⟩ ⟨rfl, rfl, hF, hT, hR1, hR2⟩
set_option maxHeartbeats 4000000 in
set_option maxRecDepth 100000 in
theorem m3_init {z : ZG} {d a : Nat} {h : AH} (hT : h a = some (.inl (3, [.null, .null, .null]))) : M z YX3_init (d + 2) 6 30 [.ref a] h (a + 1) (fun w h' sz' => w = none ∧ sz' = a + 7 ∧ fr h h' a (a + 7) ∧ LG h' a 0 (fun _ => 0) (fun _ => 0) (fun _ => 0)) := by
  refine M.of (by decide +kernel) (Nat.le_of_ble_eq_true rfl) ?_
  have hF : fr h h a (a + 7) := fr.rf
  refine V_aload_n dX3_init_0 rfl ?_
  refine V_obj dX3_init_1 oX3_3 (Nat.le_of_ble_eq_true rfl) ?_
  refine V_aload_n dX3_init_4 rfl ?_
  refine V_new dX3_init_5 nX3_9 rfl ⟨Nat.le_of_ble_eq_true rfl, Nat.le_of_ble_eq_true rfl⟩ ?_
  refine V_dup dX3_init_8 rfl ?_
  refine J_bipush dX3_init_9 (by decide) ?_
  refine V_callI (Y' := YX4_init) dX3_init_11 lX3_11 gX4_init (m4_init (a := a + 1) (cap := 8) (by decide) hset_s) rfl rfl (Nat.le_of_ble_eq_true rfl) ⟨Nat.le_of_ble_eq_true rfl, Nat.le_of_ble_eq_true rfl⟩ (fun v h1 sz1 hq => ?_)
  obtain ⟨rfl, rfl, hf1, hR1⟩ := hq
  have hT := (hf1 a (by omega)).trans ((hset_n (by omega)).trans hT)
  have hF : fr h h1 a (a + 7) := fun x hx => (hf1 x (by omega)).trans ((hset_n (by omega)).trans (hF x (by omega)))
  refine V_putF dX3_init_14 fX3_14 tX3_0 rfl (fun C T N q => by cases q; rfl) hT (Nat.le_of_ble_eq_true rfl) rfl rfl ?_
  have hT := hset_s (h := h1) (a := a) (c := (.inl (3, ([.null, .null, .null]).set 0 (.ref (a + 1))) : AC))
  have hR1 := hR1.kept (h2 := hset h1 a (.inl (3, ([.null, .null, .null]).set 0 (.ref (a + 1))))) (hset_n (by omega)) (hset_n (by omega))
  have hF : fr h (hset h1 a (.inl (3, ([.null, .null, .null]).set 0 (.ref (a + 1))))) a (a + 7) := fun x hx => (hset_n (by omega)).trans (hF x hx)
  refine V_aload_n dX3_init_17 rfl ?_
  refine V_new dX3_init_18 nX3_9 rfl ⟨Nat.le_of_ble_eq_true rfl, Nat.le_of_ble_eq_true rfl⟩ ?_
  refine V_dup dX3_init_21 rfl ?_
  refine J_bipush dX3_init_22 (by decide) ?_
  refine V_callI (Y' := YX4_init) dX3_init_24 lX3_11 gX4_init (m4_init (a := a + 3) (cap := 8) (by decide) hset_s) rfl rfl (Nat.le_of_ble_eq_true rfl) ⟨Nat.le_of_ble_eq_true rfl, Nat.le_of_ble_eq_true rfl⟩ (fun v h2 sz2 hq => ?_)
  obtain ⟨rfl, rfl, hf2, hR2⟩ := hq
  have hT := (hf2 a (by omega)).trans ((hset_n (by omega)).trans hT)
  have hR1 := hR1.kept ((hf2 _ (by omega)).trans (hset_n (by omega))) ((hf2 _ (by omega)).trans (hset_n (by omega)))
  have hF : fr h h2 a (a + 7) := fun x hx => (hf2 x (by omega)).trans ((hset_n (by omega)).trans (hF x (by omega)))
  refine V_putF dX3_init_27 fX3_20 tX3_1 rfl (fun C T N q => by cases q; rfl) hT (Nat.le_of_ble_eq_true rfl) rfl rfl ?_
  have hT := hset_s (h := h2) (a := a) (c := (.inl (3, (([.null, .null, .null]).set 0 (.ref (a + 1))).set 1 (.ref (a + 3))) : AC))
  have hR1 := hR1.kept (h2 := hset h2 a (.inl (3, (([.null, .null, .null]).set 0 (.ref (a + 1))).set 1 (.ref (a + 3))))) (hset_n (by omega)) (hset_n (by omega))
  have hR2 := hR2.kept (h2 := hset h2 a (.inl (3, (([.null, .null, .null]).set 0 (.ref (a + 1))).set 1 (.ref (a + 3))))) (hset_n (by omega)) (hset_n (by omega))
  have hF : fr h (hset h2 a (.inl (3, (([.null, .null, .null]).set 0 (.ref (a + 1))).set 1 (.ref (a + 3))))) a (a + 7) := fun x hx => (hset_n (by omega)).trans (hF x hx)
  refine V_aload_n dX3_init_30 rfl ?_
  refine V_new dX3_init_31 nX3_9 rfl ⟨Nat.le_of_ble_eq_true rfl, Nat.le_of_ble_eq_true rfl⟩ ?_
  refine V_dup dX3_init_34 rfl ?_
  refine J_bipush dX3_init_35 (by decide) ?_
  refine V_callI (Y' := YX4_init) dX3_init_37 lX3_11 gX4_init (m4_init (a := a + 5) (cap := 8) (by decide) hset_s) rfl rfl (Nat.le_of_ble_eq_true rfl) ⟨Nat.le_of_ble_eq_true rfl, Nat.le_of_ble_eq_true rfl⟩ (fun v h3 sz3 hq => ?_)
  obtain ⟨rfl, rfl, hf3, hR3⟩ := hq
  have hT := (hf3 a (by omega)).trans ((hset_n (by omega)).trans hT)
  have hR1 := hR1.kept ((hf3 _ (by omega)).trans (hset_n (by omega))) ((hf3 _ (by omega)).trans (hset_n (by omega)))
  have hR2 := hR2.kept ((hf3 _ (by omega)).trans (hset_n (by omega))) ((hf3 _ (by omega)).trans (hset_n (by omega)))
  have hF : fr h h3 a (a + 7) := fun x hx => (hf3 x (by omega)).trans ((hset_n (by omega)).trans (hF x (by omega)))
  refine V_putF dX3_init_40 fX3_23 tX3_2 rfl (fun C T N q => by cases q; rfl) hT (Nat.le_of_ble_eq_true rfl) rfl rfl ?_
  have hT := hset_s (h := h3) (a := a) (c := (.inl (3, ((([.null, .null, .null]).set 0 (.ref (a + 1))).set 1 (.ref (a + 3))).set 2 (.ref (a + 5))) : AC))
  have hR1 := hR1.kept (h2 := hset h3 a (.inl (3, ((([.null, .null, .null]).set 0 (.ref (a + 1))).set 1 (.ref (a + 3))).set 2 (.ref (a + 5))))) (hset_n (by omega)) (hset_n (by omega))
  have hR2 := hR2.kept (h2 := hset h3 a (.inl (3, ((([.null, .null, .null]).set 0 (.ref (a + 1))).set 1 (.ref (a + 3))).set 2 (.ref (a + 5))))) (hset_n (by omega)) (hset_n (by omega))
  have hR3 := hR3.kept (h2 := hset h3 a (.inl (3, ((([.null, .null, .null]).set 0 (.ref (a + 1))).set 1 (.ref (a + 3))).set 2 (.ref (a + 5))))) (hset_n (by omega)) (hset_n (by omega))
  have hF : fr h (hset h3 a (.inl (3, ((([.null, .null, .null]).set 0 (.ref (a + 1))).set 1 (.ref (a + 3))).set 2 (.ref (a + 5))))) a (a + 7) := fun x hx => (hset_n (by omega)).trans (hF x hx)
  exact V_ret dX3_init_43 rfl ⟨Nat.le_of_ble_eq_true rfl, Nat.le_of_ble_eq_true rfl⟩ ⟨rfl, rfl, hF, hT, hR1, hR2, hR3⟩
