/-! THE CLASS: the setup text, in the reference's words -/
theorem rat_lh {T : Nat → Int} {l p : Int} (h : 0 ≤ p) : rat l T p = lh T l p := by
  unfold rat lh
  by_cases q : p < l
  · rw [if_pos (by omega), if_pos q]
  · rw [if_neg (by omega), if_neg q]
/-- how many digits stand from a place on -/
def dcn (T : Nat → Int) (l : Int) : Nat → Int → Nat
  | 0, _ => 0
  | k + 1, p => if 48 ≤ lh T l p ∧ lh T l p ≤ 57 then dcn T l k (p + 1) + 1 else 0
theorem dcn_s {T : Nat → Int} {l p : Int} {k : Nat} : dcn T l (k + 1) p = if 48 ≤ lh T l p ∧ lh T l p ≤ 57 then dcn T l k (p + 1) + 1 else 0 := rfl
theorem dcn_le {T : Nat → Int} {l : Int} : ∀ (k : Nat) (p : Int), dcn T l k p ≤ k ∧ (p + dcn T l k p ≤ l ∨ dcn T l k p = 0) := by
  intro k
  induction k with
  | zero => intro p; exact ⟨Nat.le_refl _, Or.inr rfl⟩
  | succ k ih =>
    intro p
    rw [dcn_s]
    split
    · rename_i h
      have a := ih (p + 1)
      have b : p < l := by
        unfold lh at h
        by_cases q : p < l
        · exact q
        · rw [if_neg q] at h; omega
      omega
    · exact ⟨by omega, Or.inr rfl⟩
theorem dcn_dg {T : Nat → Int} {l : Int} : ∀ (k : Nat) (p : Int) (i : Nat), i < dcn T l k p → 48 ≤ lh T l (p + i) ∧ lh T l (p + i) ≤ 57 := by
  intro k
  induction k with
  | zero => intro p i h; exact absurd h (by unfold dcn; omega)
  | succ k ih =>
    intro p i h
    rw [dcn_s] at h
    split at h
    · rename_i hd
      cases i with
      | zero => simpa using hd
      | succ i =>
        have := ih (p + 1) i (by omega)
        rw [show p + ((i + 1 : Nat) : Int) = p + 1 + (i : Int) by omega]
        exact this
    · omega
theorem dcn_nd {T : Nat → Int} {l : Int} : ∀ (k : Nat) (p : Int), dcn T l k p < k → ¬ (48 ≤ lh T l (p + dcn T l k p) ∧ lh T l (p + dcn T l k p) ≤ 57) := by
  intro k
  induction k with
  | zero => intro p h; omega
  | succ k ih =>
    intro p h
    rw [dcn_s] at h ⊢
    split at h
    · rename_i hd
      rw [if_pos hd]
      rw [show p + ((dcn T l k (p + 1) + 1 : Nat) : Int) = p + 1 + (dcn T l k (p + 1) : Int) by omega]
      exact ih (p + 1) (by omega)
    · rename_i hd
      rw [if_neg hd]
      simpa using hd
theorem dgN_1 {T : Nat → Int} {l : Int} : ∀ (j k : Nat) (p nu : Int), j ≤ k → (dgN T l j p nu).1 = min (dcn T l k p) j := by
  intro j
  induction j with
  | zero => intro k p nu h; show 0 = _; omega
  | succ j ih =>
    intro k p nu h
    cases k with
    | zero => omega
    | succ k =>
      rw [dgN_s, dcn_s]
      split
      · show (dgN T l j (p + 1) _).1 + 1 = _
        rw [ih k (p + 1) _ (by omega)]
        omega
      · show 0 = _
        omega
/-- the number at a place, or -1 -/
def num (T : Nat → Int) (l p : Int) : Int := if 1 ≤ dcn T l 200 p ∧ dcn T l 200 p ≤ 4 then nmN T l p else -1
theorem num_rg {T : Nat → Int} {l p : Int} : -1 ≤ num T l p ∧ num T l p ≤ 9999 := by
  unfold num
  have := (nm_rg (T := T) (l := l) (sp := p)).1
  split <;> omega
theorem num_ok {T : Nat → Int} {l p lo hi bh : Int} (h : 0 ≤ num T l p) (hlo : 0 ≤ lo) : (nmO T l p lo hi bh ↔ (lo ≤ num T l p ∧ num T l p ≤ hi) ∧ lh T l (p + dcn T l 200 p) = bh) ∧ nmN T l p = num T l p ∧ nmS T l p = p + dcn T l 200 p + 1 := by
  unfold num at h ⊢
  by_cases q : 1 ≤ dcn T l 200 p ∧ dcn T l 200 p ≤ 4
  · rw [if_pos q]
    have e : (dgN T l 4 p 0).1 = dcn T l 200 p := by rw [dgN_1 4 200 p 0 (by omega)]; omega
    refine ⟨?_, rfl, ?_⟩
    · unfold nmO
      rw [e]
      constructor
      · rintro ⟨_, a, b⟩; exact ⟨a, b⟩
      · rintro ⟨a, b⟩; exact ⟨by omega, a, b⟩
    · unfold nmS; rw [e]
  · rw [if_neg q] at h; omega
theorem num_no {T : Nat → Int} {l p lo hi bh : Int} (h : num T l p < 0) (hb : bh = 44 ∨ bh = 59) : ¬ nmO T l p lo hi bh := by
  unfold num at h
  have nr := (nm_rg (T := T) (l := l) (sp := p)).1
  by_cases q : 1 ≤ dcn T l 200 p ∧ dcn T l 200 p ≤ 4
  · rw [if_pos q] at h; omega
  · intro w
    unfold nmO at w
    have e := dgN_1 (T := T) (l := l) 4 200 p 0 (by omega)
    rcases Nat.eq_zero_or_pos (dcn T l 200 p) with z | z
    · rw [e] at w; omega
    · have a := dcn_dg (T := T) (l := l) 200 p 4 (by omega)
      rw [e, show min (dcn T l 200 p) 4 = 4 by omega] at w
      have b := w.2.2
      have c : ((4 : Nat) : Int) = 4 := rfl
      rw [c] at a b
      omega
set_option maxHeartbeats 4000000 in
set_option maxRecDepth 100000 in
theorem l7_df_2 {z : ZG} {d sz s : Nat} {h : AH} {tn mn pt hn : Int} {TX MK N : Nat → Int} (hE : EN h s tn TX mn MK pt hn N) (rt : 0 ≤ tn ∧ tn ≤ 200) (rx : ∀ j : Nat, j < 200 → 0 ≤ TX j ∧ TX j ≤ 126) {p : Int} (hp : 0 ≤ p ∧ p ≤ 10000) : ∀ (fu c : Nat), c ≤ 200 → 200 - c < fu → dcn TX tn (200 - c) (p + (c : Int)) + c = dcn TX tn 200 p → V z YX7_digitsFrom (zroom (d + 3) 0 0) (fun w h' sz' => w = some (.int (I (dcn TX tn 200 p : Int))) ∧ h' = h ∧ sz' = sz) 2 [some (.ref 0), some (.int (I p)), some (.int (I (c : Int)))] [] h sz 0 0 := by
  intro fu
  induction fu with
  | zero => intro c h1 h2; omega
  | succ fu ih =>
    intro c h1 h2 hz
    refine V_iload_n dX7_digitsFrom_2 rfl ?_
    refine J_sipush dX7_digitsFrom_3 (by decide) ?_
    refine J_icmp_ge (tgt := 35) dX7_digitsFrom_6 (by decide) (by omega) (by omega) (fun c6 => ?_) (fun c6 => ?_)
    · refine V_iload_n dX7_digitsFrom_35 rfl ?_
      exact V_iret dX7_digitsFrom_36 rfl rfl ⟨Nat.zero_le _, Nat.zero_le _⟩ ⟨by first | (rw [show 200 - c = 0 by omega] at hz; have : dcn TX tn 0 (p + (c : Int)) = 0 := rfl; rw [← hz, this, Nat.zero_add]) | (rw [show 200 - c = (200 - (c + 1)) + 1 by omega, dcn_s, if_neg (by omega)] at hz; rw [← hz, Nat.zero_add]), rfl, rfl⟩
    · refine V_aload_n dX7_digitsFrom_9 rfl ?_
      refine V_get dX7_digitsFrom_10 fX7_14 hE.1 rfl ?_
      refine V_iload_n dX7_digitsFrom_13 rfl ?_
      refine V_iload_n dX7_digitsFrom_14 rfl ?_
      refine J_iadd dX7_digitsFrom_15 ?_
      refine V_callV (Y' := YX4_intAt) dX7_digitsFrom_16 lX7_96 gX4_intAt (m4_intAt (by decide) rt hE.t (by omega)) hE.t.c rfl rfl rfl (Nat.le_of_ble_eq_true rfl) ⟨Nat.zero_le _, Nat.zero_le _⟩ (fun v h1 sz1 hq => ?_)
      obtain ⟨rfl, rfl, rfl⟩ := hq
      rw [rat_lh (by omega)]
      have hlr := lh_rg (T := TX) (l := tn) (sp := p + (c : Int)) rx (by omega)
      refine J_bipush dX7_digitsFrom_19 (by decide) ?_
      refine J_bipush dX7_digitsFrom_21 (by decide) ?_
      refine V_callS (Y' := YX7_within) dX7_digitsFrom_23 lX7_74 gX7_within (m7_within (by omega) (by omega) (by omega)) rfl rfl (Nat.le_of_ble_eq_true rfl) ⟨Nat.zero_le _, Nat.zero_le _⟩ (fun v h1 sz1 hq => ?_)
      obtain ⟨t23, rfl, ht23, rfl, rfl⟩ := hq
      refine J_if_eq (tgt := 35) dX7_digitsFrom_26 (by decide) (by omega) (fun c26 => ?_) (fun c26 => ?_)
      · refine V_iload_n dX7_digitsFrom_35 rfl ?_
        exact V_iret dX7_digitsFrom_36 rfl rfl ⟨Nat.zero_le _, Nat.zero_le _⟩ ⟨by first | (rw [show 200 - c = 0 by omega] at hz; have : dcn TX tn 0 (p + (c : Int)) = 0 := rfl; rw [← hz, this, Nat.zero_add]) | (rw [show 200 - c = (200 - (c + 1)) + 1 by omega, dcn_s, if_neg (by omega)] at hz; rw [← hz, Nat.zero_add]), rfl, rfl⟩
      · refine J_iinc dX7_digitsFrom_29 rfl ?_
        refine V_goto (tgt := 2) dX7_digitsFrom_32 (by decide) ?_
        rw [show ((c : Int) + 1) = ((c + 1 : Nat) : Int) by omega]
        refine ih (c + 1) (by omega) (by omega) ?_
        rw [show 200 - c = (200 - (c + 1)) + 1 by omega, dcn_s, if_pos (by omega)] at hz
        rw [show p + ((c + 1 : Nat) : Int) = p + (c : Int) + 1 by omega]
        omega
set_option maxHeartbeats 4000000 in
set_option maxRecDepth 100000 in
theorem m7_digitsFrom {z : ZG} {d sz s : Nat} {h : AH} {tn mn pt hn : Int} {TX MK N : Nat → Int} (hE : EN h s tn TX mn MK pt hn N) (rt : 0 ≤ tn ∧ tn ≤ 200) (rx : ∀ j : Nat, j < 200 → 0 ≤ TX j ∧ TX j ≤ 126) {p : Int} (hp : 0 ≤ p ∧ p ≤ 10000) : M z YX7_digitsFrom (d + 3) 0 0 [.ref 0, .int (I p)] h sz (fun w h' sz' => w = some (.int (I (dcn TX tn 200 p : Int))) ∧ h' = h ∧ sz' = sz) := by
  refine M.of (by decide +kernel) (Nat.le_of_ble_eq_true rfl) ?_
  refine J_iconst dX7_digitsFrom_0 ?_
  refine V_istore_n dX7_digitsFrom_1 (Nat.le_of_ble_eq_true rfl) ?_
  exact l7_df_2 hE rt rx hp 201 0 (by omega) (by omega) (by simp)
set_option maxHeartbeats 4000000 in
set_option maxRecDepth 100000 in
theorem l7_na_22 {z : ZG} {d sz s : Nat} {h : AH} {tn mn pt hn : Int} {TX MK N : Nat → Int} (hE : EN h s tn TX mn MK pt hn N) (rt : 0 ≤ tn ∧ tn ≤ 200) (rx : ∀ j : Nat, j < 200 → 0 ≤ TX j ∧ TX j ≤ 126) {p : Int} (hp : 0 ≤ p ∧ p ≤ 10000) (hd : 1 ≤ dcn TX tn 200 p ∧ dcn TX tn 200 p ≤ 4) : ∀ (fu i : Nat) (v : Int), i ≤ dcn TX tn 200 p → 4 - i < fu → (dgN TX tn (4 - i) (p + (i : Int)) v).2 = nmN TX tn p → V z YX7_numberAt (zroom (d + 4) 0 0) (fun w h' sz' => w = some (.int (I (num TX tn p))) ∧ h' = h ∧ sz' = sz) 22 [some (.ref 0), some (.int (I p)), some (.int (I (dcn TX tn 200 p : Int))), some (.int (I v)), some (.int (I (i : Int)))] [] h sz 0 0 := by
  intro fu
  induction fu with
  | zero => intro i v h1 h2; omega
  | succ fu ih =>
    intro i v h1 h2 hz
    have hend : ¬ i < dcn TX tn 200 p → v = num TX tn p := fun q => by
      unfold num
      rw [if_pos hd, ← hz]
      rcases Nat.eq_zero_or_pos (4 - i) with w | w
      · rw [w]; rfl
      · have nd := dcn_nd (T := TX) (l := tn) 200 p (by omega)
        rw [show 4 - i = (4 - (i + 1)) + 1 by omega, dgN_s, if_neg (by rw [show (i : Int) = (dcn TX tn 200 p : Int) by omega]; exact nd)]
    refine V_iload dX7_numberAt_22 rfl ?_
    refine V_iload_n dX7_numberAt_24 rfl ?_
    refine J_icmp_ge (tgt := 54) dX7_numberAt_25 (by decide) (by omega) (by omega) (fun c25 => ?_) (fun c25 => ?_)
    · refine V_iload_n dX7_numberAt_54 rfl ?_
      exact V_iret dX7_numberAt_55 rfl rfl ⟨Nat.zero_le _, Nat.zero_le _⟩ ⟨by rw [hend (by omega)], rfl, rfl⟩
    · have hdg := dcn_dg (T := TX) (l := tn) 200 p i (by omega)
      refine V_iload_n dX7_numberAt_28 rfl ?_
      refine J_bipush dX7_numberAt_29 (by decide) ?_
      refine J_imul dX7_numberAt_31 ?_
      refine V_aload_n dX7_numberAt_32 rfl ?_
      refine V_get dX7_numberAt_33 fX7_14 hE.1 rfl ?_
      refine V_iload_n dX7_numberAt_36 rfl ?_
      refine V_iload dX7_numberAt_37 rfl ?_
      refine J_iadd dX7_numberAt_39 ?_
      refine V_callV (Y' := YX4_intAt) dX7_numberAt_40 lX7_96 gX4_intAt (m4_intAt (by decide) rt hE.t (by omega)) hE.t.c rfl rfl rfl (Nat.le_of_ble_eq_true rfl) ⟨Nat.zero_le _, Nat.zero_le _⟩ (fun v h1 sz1 hq => ?_)
      obtain ⟨rfl, rfl, rfl⟩ := hq
      rw [rat_lh (by omega)]
      have hlr := lh_rg (T := TX) (l := tn) (sp := p + (i : Int)) rx (by omega)
      refine J_iadd dX7_numberAt_43 ?_
      refine J_bipush dX7_numberAt_44 (by decide) ?_
      refine J_isub dX7_numberAt_46 ?_
      refine V_istore_n dX7_numberAt_47 (Nat.le_of_ble_eq_true rfl) ?_
      refine J_iinc dX7_numberAt_48 rfl ?_
      refine V_goto (tgt := 22) dX7_numberAt_51 (by decide) ?_
      rw [show ((i : Int) + 1) = ((i + 1 : Nat) : Int) by omega, show v * 10 + lh TX tn (p + (i : Int)) - 48 = 10 * v + lh TX tn (p + (i : Int)) - 48 by omega]
      refine ih (i + 1) _ (by omega) (by omega) ?_
      rw [show 4 - i = (4 - (i + 1)) + 1 by omega, dgN_s, if_pos hdg] at hz
      rw [show p + ((i + 1 : Nat) : Int) = p + (i : Int) + 1 by omega]
      exact hz
set_option maxHeartbeats 4000000 in
set_option maxRecDepth 100000 in
theorem m7_numberAt {z : ZG} {d sz s : Nat} {h : AH} {tn mn pt hn : Int} {TX MK N : Nat → Int} (hE : EN h s tn TX mn MK pt hn N) (rt : 0 ≤ tn ∧ tn ≤ 200) (rx : ∀ j : Nat, j < 200 → 0 ≤ TX j ∧ TX j ≤ 126) {p : Int} (hp : 0 ≤ p ∧ p ≤ 10000) : M z YX7_numberAt (d + 4) 0 0 [.ref 0, .int (I p)] h sz (fun w h' sz' => w = some (.int (I (num TX tn p))) ∧ h' = h ∧ sz' = sz) := by
  refine M.of (by decide +kernel) (Nat.le_of_ble_eq_true rfl) ?_
  refine V_aload_n dX7_numberAt_0 rfl ?_
  refine V_iload_n dX7_numberAt_1 rfl ?_
  refine V_callV (Y' := YX7_digitsFrom) dX7_numberAt_2 lX7_102 gX7_digitsFrom (m7_digitsFrom hE rt rx (by omega)) hE.1 rfl rfl rfl (Nat.le_of_ble_eq_true rfl) ⟨Nat.zero_le _, Nat.zero_le _⟩ (fun v h1 sz1 hq => ?_)
  obtain ⟨rfl, rfl, rfl⟩ := hq
  refine V_istore_n dX7_numberAt_5 (Nat.le_of_ble_eq_true rfl) ?_
  have hdl := (dcn_le (T := TX) (l := tn) 200 p).1
  refine V_iload_n dX7_numberAt_6 rfl ?_
  refine J_iconst dX7_numberAt_7 ?_
  refine J_iconst dX7_numberAt_8 ?_
  refine V_callS (Y' := YX7_within) dX7_numberAt_9 lX7_74 gX7_within (m7_within (by omega) (by omega) (by omega)) rfl rfl (Nat.le_of_ble_eq_true rfl) ⟨Nat.zero_le _, Nat.zero_le _⟩ (fun v h1 sz1 hq => ?_)
  obtain ⟨t9, rfl, ht9, rfl, rfl⟩ := hq
  refine J_if_ne (tgt := 17) dX7_numberAt_12 (by decide) (by omega) (fun c12 => ?_) (fun c12 => ?_)
  · refine J_iconst dX7_numberAt_17 ?_
    refine V_istore_n dX7_numberAt_18 (Nat.le_of_ble_eq_true rfl) ?_
    refine J_iconst dX7_numberAt_19 ?_
    refine V_istore dX7_numberAt_20 (Nat.le_of_ble_eq_true rfl) ?_
    exact l7_na_22 hE rt rx hp (by omega) 5 0 0 (by omega) (by omega) (by unfold nmN; simp)
  · refine J_iconst dX7_numberAt_15 ?_
    exact V_iret dX7_numberAt_16 rfl rfl ⟨Nat.zero_le _, Nat.zero_le _⟩ ⟨by unfold num; rw [if_neg (by omega)], rfl, rfl⟩
section St
variable {T RA RD : Nat → Int} {l sp rs rm n1 n2 : Int} {u : TK}
theorem st_no2 (hL : lh T l sp = 105 ∨ lh T l sp = 100) (h : num T l (sp + 1) < 0 ∨ ¬ lh T l (sp + 1 + dcn T l 200 (sp + 1)) = 44 ∨ num T l (sp + 1 + dcn T l 200 (sp + 1) + 1) < 0 ∨ ¬ lh T l (sp + 1 + dcn T l 200 (sp + 1) + 1 + dcn T l 200 (sp + 1 + dcn T l 200 (sp + 1) + 1)) = 59) : stF T l sp rs rm RA RD = none := by
  have key : ∀ lo hi lo2 hi2 : Int, 0 ≤ lo → 0 ≤ lo2 → ¬ (nmO T l (sp + 1) lo hi 44 ∧ nmO T l (nmS T l (sp + 1)) lo2 hi2 59) := by
    intro lo hi lo2 hi2 hl1 hl2 w
    by_cases q : num T l (sp + 1) < 0
    · exact num_no q (Or.inl rfl) w.1
    · obtain ⟨a1, a2, a3⟩ := num_ok (T := T) (l := l) (p := sp + 1) (lo := lo) (hi := hi) (bh := 44) (by omega) hl1
      have b := (a1.mp w.1).2
      rw [a3] at w
      by_cases q2 : num T l (sp + 1 + dcn T l 200 (sp + 1) + 1) < 0
      · exact num_no q2 (Or.inr rfl) w.2
      · obtain ⟨c1, c2, c3⟩ := num_ok (T := T) (l := l) (p := sp + 1 + dcn T l 200 (sp + 1) + 1) (lo := lo2) (hi := hi2) (bh := 59) (by omega) hl2
        have e := (c1.mp w.2).2
        rcases h with h | h | h | h
        · exact q h
        · exact h b
        · exact q2 h
        · exact h e
  unfold stF
  rcases hL with q | q
  · rw [cIf_n (show ¬ lh T l sp = 112 by omega), cIf_p q, cIf_n (key 8 80 0 79 (by omega) (by omega))]
  · rw [cIf_n (show ¬ lh T l sp = 112 by omega), cIf_n (show ¬ lh T l sp = 105 by omega), cIf_n (show ¬ lh T l sp = 109 by omega), cIf_n (show ¬ lh T l sp = 114 by omega), cIf_p q, cIf_n (fun w => key 0 9999 1 99 (by omega) (by omega) ⟨w.1, w.2.2⟩)]
theorem st_no1 (hL : ¬ (lh T l sp = 105 ∨ lh T l sp = 100)) (h : num T l (sp + 1) < 0 ∨ ¬ lh T l (sp + 1 + dcn T l 200 (sp + 1)) = 59) : stF T l sp rs rm RA RD = none := by
  have key : ∀ lo hi : Int, 0 ≤ lo → ¬ nmO T l (sp + 1) lo hi 59 := by
    intro lo hi hl1 w
    by_cases q : num T l (sp + 1) < 0
    · exact num_no q (Or.inr rfl) w
    · obtain ⟨a1, a2, a3⟩ := num_ok (T := T) (l := l) (p := sp + 1) (lo := lo) (hi := hi) (bh := 59) (by omega) hl1
      have b := (a1.mp w).2
      rcases h with h | h
      · exact q h
      · exact h b
  unfold stF
  by_cases k1 : lh T l sp = 112
  · rw [cIf_p k1, cIf_n (fun w => key 8 80 (by omega) w.1)]
  · rw [cIf_n k1, cIf_n (show ¬ lh T l sp = 105 by omega)]
    by_cases k2 : lh T l sp = 109
    · rw [cIf_p k2, cIf_n (fun w => key 1 4 (by omega) w.1)]
    · rw [cIf_n k2]
      by_cases k3 : lh T l sp = 114
      · rw [cIf_p k3, cIf_n (fun w => key 0 9999 (by omega) w.1)]
      · rw [cIf_n k3, cIf_n (show ¬ lh T l sp = 100 by omega)]
/-- a statement of form: taken as the reference takes it -/
theorem st_f2 (hL : lh T l sp = 105 ∨ lh T l sp = 100) (h1 : 0 ≤ num T l (sp + 1)) (hc : lh T l (sp + 1 + dcn T l 200 (sp + 1)) = 44) (h2 : 0 ≤ num T l (sp + 1 + dcn T l 200 (sp + 1) + 1)) (he : lh T l (sp + 1 + dcn T l 200 (sp + 1) + 1 + dcn T l 200 (sp + 1 + dcn T l 200 (sp + 1) + 1)) = 59) (h8 : 0 ≤ RD 8 ∧ RD 8 ≤ 4) :
    stF T l sp rs rm RA RD = (tkF (lh T l sp) (num T l (sp + 1)) (num T l (sp + 1 + dcn T l 200 (sp + 1) + 1)) rs rm RA RD).map (fun u => (sp + 1 + dcn T l 200 (sp + 1) + 1 + dcn T l 200 (sp + 1 + dcn T l 200 (sp + 1) + 1) + 1, u.1, u.2.1, u.2.2.1, u.2.2.2)) := by
  obtain ⟨-, a2, a3⟩ := num_ok (T := T) (l := l) (p := sp + 1) (lo := 0) (hi := 0) (bh := 44) h1 (by omega)
  obtain ⟨-, c2, c3⟩ := num_ok (T := T) (l := l) (p := sp + 1 + dcn T l 200 (sp + 1) + 1) (lo := 0) (hi := 0) (bh := 59) h2 (by omega)
  have k1 : ∀ lo hi : Int, 0 ≤ lo → (nmO T l (sp + 1) lo hi 44 ↔ lo ≤ num T l (sp + 1) ∧ num T l (sp + 1) ≤ hi) := fun lo hi hl => by rw [(num_ok h1 hl).1]; exact ⟨fun w => w.1, fun w => ⟨w, hc⟩⟩
  have k2 : ∀ lo hi : Int, 0 ≤ lo → (nmO T l (sp + 1 + dcn T l 200 (sp + 1) + 1) lo hi 59 ↔ lo ≤ num T l (sp + 1 + dcn T l 200 (sp + 1) + 1) ∧ num T l (sp + 1 + dcn T l 200 (sp + 1) + 1) ≤ hi) := fun lo hi hl => by rw [(num_ok h2 hl).1]; exact ⟨fun w => w.1, fun w => ⟨w, he⟩⟩
  unfold stF tkF
  rw [a3, a2, c3, c2]
  rcases hL with q | q
  · rw [cIf_n (show ¬ lh T l sp = 112 by omega), cIf_n (show ¬ lh T l sp = 112 by omega), cIf_p q, cIf_p q]
    by_cases w : (8 ≤ num T l (sp + 1) ∧ num T l (sp + 1) ≤ 80) ∧ 0 ≤ num T l (sp + 1 + dcn T l 200 (sp + 1) + 1) ∧ num T l (sp + 1 + dcn T l 200 (sp + 1) + 1) ≤ 79
    · rw [cIf_p w, cIf_p ⟨(k1 8 80 (by omega)).mpr w.1, (k2 0 79 (by omega)).mpr w.2⟩]; rfl
    · rw [cIf_n w, cIf_n (fun v => w ⟨(k1 8 80 (by omega)).mp v.1, (k2 0 79 (by omega)).mp v.2⟩)]; rfl
  · rw [cIf_n (show ¬ lh T l sp = 112 by omega), cIf_n (show ¬ lh T l sp = 112 by omega), cIf_n (show ¬ lh T l sp = 105 by omega), cIf_n (show ¬ lh T l sp = 105 by omega), cIf_n (show ¬ lh T l sp = 109 by omega), cIf_n (show ¬ lh T l sp = 109 by omega), cIf_n (show ¬ lh T l sp = 114 by omega), cIf_n (show ¬ lh T l sp = 114 by omega), cIf_p q, cIf_p q]
    by_cases w : RD 8 < 4 ∧ (0 ≤ num T l (sp + 1) ∧ num T l (sp + 1) ≤ 9999) ∧ 1 ≤ num T l (sp + 1 + dcn T l 200 (sp + 1) + 1) ∧ num T l (sp + 1 + dcn T l 200 (sp + 1) + 1) ≤ 99
    · rw [cIf_p w, cIf_p ⟨(k1 0 9999 (by omega)).mpr w.2.1, by omega, (k2 1 99 (by omega)).mpr w.2.2⟩]; rfl
    · rw [cIf_n w, cIf_n (fun v => w ⟨by have := v.2.1; omega, (k1 0 9999 (by omega)).mp v.1, (k2 1 99 (by omega)).mp v.2.2⟩)]; rfl
theorem st_f1 (hL : ¬ (lh T l sp = 105 ∨ lh T l sp = 100)) (h1 : 0 ≤ num T l (sp + 1)) (hc : lh T l (sp + 1 + dcn T l 200 (sp + 1)) = 59) (hrm : 0 ≤ rm ∧ rm ≤ 6) :
    stF T l sp rs rm RA RD = (tkF (lh T l sp) (num T l (sp + 1)) 0 rs rm RA RD).map (fun u => (sp + 1 + dcn T l 200 (sp + 1) + 1, u.1, u.2.1, u.2.2.1, u.2.2.2)) := by
  obtain ⟨-, a2, a3⟩ := num_ok (T := T) (l := l) (p := sp + 1) (lo := 0) (hi := 0) (bh := 59) h1 (by omega)
  have k1 : ∀ lo hi : Int, 0 ≤ lo → (nmO T l (sp + 1) lo hi 59 ↔ lo ≤ num T l (sp + 1) ∧ num T l (sp + 1) ≤ hi) := fun lo hi hl => by rw [(num_ok h1 hl).1]; exact ⟨fun w => w.1, fun w => ⟨w, hc⟩⟩
  unfold stF tkF
  rw [a3, a2]
  by_cases q1 : lh T l sp = 112
  · rw [cIf_p q1, cIf_p q1]
    by_cases w : (8 ≤ num T l (sp + 1) ∧ num T l (sp + 1) ≤ 80) ∧ num T l (sp + 1) % 4 = 0
    · rw [cIf_p w, cIf_p ⟨(k1 8 80 (by omega)).mpr w.1, w.2⟩]; rfl
    · rw [cIf_n w, cIf_n (fun v => w ⟨(k1 8 80 (by omega)).mp v.1, v.2⟩)]; rfl
  · rw [cIf_n q1, cIf_n q1, cIf_n (show ¬ lh T l sp = 105 by omega), cIf_n (show ¬ lh T l sp = 105 by omega)]
    by_cases q2 : lh T l sp = 109
    · rw [cIf_p q2, cIf_p q2]
      by_cases w : num T l (sp + 1) = 1 ∨ num T l (sp + 1) = 2 ∨ num T l (sp + 1) = 4
      · rw [cIf_p w, cIf_p ⟨(k1 1 4 (by omega)).mpr (by omega), by omega⟩]; rfl
      · rw [cIf_n w, cIf_n (fun v => w (by have a := (k1 1 4 (by omega)).mp v.1; have b := v.2; omega))]; rfl
    · rw [cIf_n q2, cIf_n q2]
      by_cases q3 : lh T l sp = 114
      · rw [cIf_p q3, cIf_p q3]
        by_cases w : rm < 6 ∧ (rm = 0 ∨ RA (rm - 1).toNat < num T l (sp + 1)) ∧ 0 ≤ num T l (sp + 1) ∧ num T l (sp + 1) ≤ 9999
        · rw [cIf_p w, cIf_p ⟨(k1 0 9999 (by omega)).mpr w.2.2, by omega, by omega⟩]; rfl
        · rw [cIf_n w, cIf_n (fun v => w (by have a := (k1 0 9999 (by omega)).mp v.1; have b := v.2.1; have c := v.2.2; omega))]; rfl
      · rw [cIf_n q3, cIf_n q3, cIf_n (show ¬ lh T l sp = 100 by omega), cIf_n (show ¬ lh T l sp = 100 by omega)]; rfl
end St
