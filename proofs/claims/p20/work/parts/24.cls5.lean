/-! THE CLASS: State (X6), fourteen cells from s on, told by a row of numbers in the reference's layout (the log newest first) -/
def lK (N : Nat → Int) (i : Nat) : Int := N (18 + 3 * ((N 17).toNat - 1 - i))
def lP (N : Nat → Int) (i : Nat) : Int := N (19 + 3 * ((N 17).toNat - 1 - i))
def lC (N : Nat → Int) (i : Nat) : Int := N (20 + 3 * ((N 17).toNat - 1 - i))
def dS (N : Nat → Int) (i : Nat) : Int := N (9 + 2 * i)
def dL (N : Nat → Int) (i : Nat) : Int := N (10 + 2 * i)
abbrev stF6 (s : Nat) (N : Nat → Int) : List Value := [.ref (s + 1), .ref (s + 2), .ref (s + 9), .int (I (N 0)), .int (I (N 4)), .int (I (N 5)), .int (I (N 6)), .int (I (N 7))]
def CS (h : AH) (s : Nat) (N : Nat → Int) : Prop := h s = some (.inl (6, stF6 s N)) ∧ h (s + 1) = some (.inl (0, [.int (I (N 2)), .long (J (N 1)), .int (I (N 3))])) ∧ LG h (s + 2) (N 17) (lK N) (lP N) (lC N) ∧ DT h (s + 9) (N 8) (dS N) (dL N)
theorem CS.kept {h h2 : AH} {s : Nat} {N : Nat → Int} (x : CS h s N) (e : ∀ q, s ≤ q → q < s + 14 → h2 q = h q) : CS h2 s N := ⟨(e s (by omega) (by omega)).trans x.1, (e _ (by omega) (by omega)).trans x.2.1, x.2.2.1.kept (fun q a b => e q (by omega) (by omega)), x.2.2.2.kept (fun q a b => e q (by omega) (by omega))⟩
/-- the setup, eight cells from a on -/
abbrev suF (a : Nat) (p ip io md : Int) : List Value := [.ref (a + 1), .ref (a + 3), .int (I p), .int (I ip), .int (I io), .int (I md)]
def SU (h : AH) (a : Nat) (p ip io md mn : Int) (MK : Nat → Int) (dn : Int) (DS DL : Nat → Int) : Prop := h a = some (.inl (5, suF a p ip io md)) ∧ RW h (a + 1) 6 mn MK ∧ DT h (a + 3) dn DS DL
theorem SU.kept {h h2 : AH} {a : Nat} {p ip io md mn dn : Int} {MK DS DL : Nat → Int} (x : SU h a p ip io md mn MK dn DS DL) (e : ∀ q, a ≤ q → q < a + 8 → h2 q = h q) : SU h2 a p ip io md mn MK dn DS DL := ⟨(e a (by omega) (by omega)).trans x.1, x.2.1.kept (e _ (by omega) (by omega)) (e _ (by omega) (by omega)), x.2.2.kept (fun q a b => e q (by omega) (by omega))⟩
/-- the row that a setup begins with -/
def suN (ip io md dn : Int) (DS DL : Nat → Int) (j : Nat) : Int := if j = 5 then md else if j = 6 then ip else if j = 7 then io else if j = 8 then dn else if 9 ≤ j ∧ j < 17 then (if (j - 9) % 2 = 0 then DS ((j - 9) / 2) else DL ((j - 9) / 2)) else 0
set_option maxHeartbeats 4000000 in
set_option maxRecDepth 100000 in
theorem m6_startFrom {z : ZG} {d sz s b : Nat} {h : AH} {N : Nat → Int} {p ip io md mn dn : Int} {MK DS DL : Nat → Int} (hsb : s + 14 ≤ b ∨ b + 8 ≤ s) (h17 : 0 ≤ N 17 ∧ N 17 ≤ 8) (h8 : 0 ≤ N 8 ∧ N 8 ≤ 4) (hd2 : 0 ≤ dn ∧ dn ≤ 4) (hC : CS h s N) (hSU : SU h b p ip io md mn MK dn DS DL) : M z YX6_startFrom (d + 4) 0 0 [.ref s, .ref b] h sz (fun w h' sz' => w = none ∧ sz' = sz ∧ fr h h' s (s + 14) ∧ CS h' s (suN ip io md dn DS DL)) := by
  refine M.of (by decide +kernel) (Nat.le_of_ble_eq_true rfl) ?_
  obtain ⟨hT, hD, hG, hI⟩ := hC
  have hF : fr h h s (s + 14) := fr.rf
  obtain ⟨hU, hM2, hI2⟩ := hSU
  refine V_aload_n dX6_startFrom_0 rfl ?_
  refine V_get dX6_startFrom_1 fX6_10 hT rfl ?_
  refine V_callV (Y' := YX0_reset) dX6_startFrom_4 lX6_30 gX0_reset (m0_reset hD) hD rfl rfl rfl (Nat.le_of_ble_eq_true rfl) ⟨Nat.zero_le _, Nat.zero_le _⟩ (fun v h1 sz1 hq => ?_)
  obtain ⟨rfl, rfl, hx⟩ := hq
  have hD := hx.1
  have hf := hx.fr
  have hT := (hf s (by omega)).trans hT
  have hG := hG.kept (fun q q1 q2 => hf q (by omega))
  have hI := hI.kept (fun q q1 q2 => hf q (by omega))
  have hF := hF.then (hf.wide (by omega) (by omega))
  have hU := (hf b (by omega)).trans hU
  have hI2 := hI2.kept (fun q q1 q2 => hf q (by omega))
  refine V_aload_n dX6_startFrom_7 rfl ?_
  refine V_get dX6_startFrom_8 fX6_19 hT rfl ?_
  refine V_callV (Y' := YX3_clear) dX6_startFrom_11 lX6_33 gX3_clear (m3_clear h17 hG) hG.1 rfl rfl rfl (Nat.le_of_ble_eq_true rfl) ⟨Nat.zero_le _, Nat.zero_le _⟩ (fun v h1 sz1 hq => ?_)
  obtain ⟨rfl, rfl, hf, hG⟩ := hq
  have hT := (hf s (by omega)).trans hT
  have hD := (hf (s + 1) (by omega)).trans hD
  have hI := hI.kept (fun q q1 q2 => hf q (by omega))
  have hF := hF.then (hf.wide (by omega) (by omega))
  have hU := (hf b (by omega)).trans hU
  have hI2 := hI2.kept (fun q q1 q2 => hf q (by omega))
  refine V_aload_n dX6_startFrom_14 rfl ?_
  refine V_get dX6_startFrom_15 fX6_26 hT rfl ?_
  refine V_aload_n dX6_startFrom_18 rfl ?_
  refine V_getN dX6_startFrom_19 fX6_36 hU rfl ?_
  refine V_callV (Y' := YX1_copyFrom) dX6_startFrom_22 lX6_39 gX1_copyFrom (m1_copyFrom (by omega) h8 hd2 hI hI2) hI.1 rfl rfl rfl (Nat.le_of_ble_eq_true rfl) ⟨Nat.zero_le _, Nat.zero_le _⟩ (fun v h1 sz1 hq => ?_)
  obtain ⟨rfl, rfl, hf, hI⟩ := hq
  have hT := (hf s (by omega)).trans hT
  have hD := (hf (s + 1) (by omega)).trans hD
  have hG := hG.kept (fun q q1 q2 => hf q (by omega))
  have hF := hF.then (hf.wide (by omega) (by omega))
  have hU := (hf b (by omega)).trans hU
  have hI2 := hI2.kept (fun q q1 q2 => hf q (by omega))
  have hx := OB.mk hT
  refine V_aload_n dX6_startFrom_25 rfl ?_
  refine J_iconst dX6_startFrom_26 ?_
  refine RO_put dX6_startFrom_27 fX6_43 tX6_3 hx (Nat.le_of_ble_eq_true rfl) rfl rfl (fun h2 hx => ?_)
  refine V_aload_n dX6_startFrom_30 rfl ?_
  refine J_iconst dX6_startFrom_31 ?_
  refine RO_put dX6_startFrom_32 fX6_47 tX6_4 hx (Nat.le_of_ble_eq_true rfl) rfl rfl (fun h2 hx => ?_)
  refine V_aload_n dX6_startFrom_35 rfl ?_
  refine V_aload_n dX6_startFrom_36 rfl ?_
  refine V_getN dX6_startFrom_37 fX6_50 ((hx.2 b (by omega)).trans hU) rfl ?_
  refine RO_put dX6_startFrom_40 fX6_53 tX6_5 hx (Nat.le_of_ble_eq_true rfl) rfl rfl (fun h2 hx => ?_)
  refine V_aload_n dX6_startFrom_43 rfl ?_
  refine V_aload_n dX6_startFrom_44 rfl ?_
  refine V_getN dX6_startFrom_45 fX6_54 ((hx.2 b (by omega)).trans hU) rfl ?_
  refine RO_put dX6_startFrom_48 fX6_57 tX6_6 hx (Nat.le_of_ble_eq_true rfl) rfl rfl (fun h2 hx => ?_)
  refine V_aload_n dX6_startFrom_51 rfl ?_
  refine V_aload_n dX6_startFrom_52 rfl ?_
  refine V_getN dX6_startFrom_53 fX6_58 ((hx.2 b (by omega)).trans hU) rfl ?_
  refine RO_put dX6_startFrom_56 fX6_61 tX6_7 hx (Nat.le_of_ble_eq_true rfl) rfl rfl (fun h2 hx => ?_)
  refine V_ret dX6_startFrom_59 rfl ⟨Nat.zero_le _, Nat.zero_le _⟩ ⟨rfl, rfl, ?_, ?_⟩
  · exact fun x hx2 => (hx.2 x (by omega)).trans (hF x hx2)
  · refine ⟨hx.1, (hx.2 _ (by omega)).trans hD, ?_, ?_⟩
    · obtain ⟨g1, g2, g3, g4⟩ := hG.kept (fun q q1 q2 => hx.2 q (by omega))
      exact ⟨g1, g2.to (fun j hj => by omega), g3.to (fun j hj => by omega), g4.to (fun j hj => by omega)⟩
    · obtain ⟨g1, g2, g3⟩ := hI.kept (fun q q1 q2 => hx.2 q (by omega))
      have e8 : suN ip io md dn DS DL 8 = dn := rfl
      have a1 : ∀ j : Nat, (j : Int) < dn → DS j = dS (suN ip io md dn DS DL) j := fun j hj => by unfold dS suN; rw [if_neg (by omega), if_neg (by omega), if_neg (by omega), if_neg (by omega), if_pos (by omega), if_pos (by omega)]; congr 1; omega
      have a2 : ∀ j : Nat, (j : Int) < dn → DL j = dL (suN ip io md dn DS DL) j := fun j hj => by unfold dL suN; rw [if_neg (by omega), if_neg (by omega), if_neg (by omega), if_neg (by omega), if_pos (by omega), if_neg (by omega)]; congr 1; omega
      exact ⟨g1, g2.to a1, g3.to a2⟩
set_option maxHeartbeats 4000000 in
set_option maxRecDepth 100000 in
theorem m6_copyFrom {z : ZG} {d sz s b : Nat} {h : AH} {N N2 : Nat → Int} (hsb : s + 14 ≤ b ∨ b + 14 ≤ s) (h17 : 0 ≤ N 17 ∧ N 17 ≤ 8) (h8 : 0 ≤ N 8 ∧ N 8 ≤ 4) (h172 : 0 ≤ N2 17 ∧ N2 17 ≤ 8) (h82 : 0 ≤ N2 8 ∧ N2 8 ≤ 4) (hC : CS h s N) (hC2 : CS h b N2) : M z YX6_copyFrom (d + 4) 0 0 [.ref s, .ref b] h sz (fun w h' sz' => w = none ∧ sz' = sz ∧ fr h h' s (s + 14) ∧ CS h' s N2) := by
  refine M.of (by decide +kernel) (Nat.le_of_ble_eq_true rfl) ?_
  obtain ⟨hT, hD, hG, hI⟩ := hC
  have hF : fr h h s (s + 14) := fr.rf
  obtain ⟨hT2, hD2, hG2, hI2⟩ := hC2
  refine V_aload_n dX6_copyFrom_0 rfl ?_
  refine V_get dX6_copyFrom_1 fX6_10 hT rfl ?_
  refine V_aload_n dX6_copyFrom_4 rfl ?_
  refine V_get dX6_copyFrom_5 fX6_10 hT2 rfl ?_
  refine V_callV (Y' := YX0_copyFrom) dX6_copyFrom_8 lX6_62 gX0_copyFrom (m0_copyFrom (by omega) hD hD2) hD rfl rfl rfl (Nat.le_of_ble_eq_true rfl) ⟨Nat.zero_le _, Nat.zero_le _⟩ (fun v h1 sz1 hq => ?_)
  obtain ⟨rfl, rfl, hx⟩ := hq
  have hD := hx.1
  have hf := hx.fr
  have hT := (hf s (by omega)).trans hT
  have hG := hG.kept (fun q q1 q2 => hf q (by omega))
  have hI := hI.kept (fun q q1 q2 => hf q (by omega))
  have hF := hF.then (hf.wide (by omega) (by omega))
  have hT2 := (hf b (by omega)).trans hT2
  have hD2 := (hf (b + 1) (by omega)).trans hD2
  have hG2 := hG2.kept (fun q q1 q2 => hf q (by omega))
  have hI2 := hI2.kept (fun q q1 q2 => hf q (by omega))
  refine V_aload_n dX6_copyFrom_11 rfl ?_
  refine V_get dX6_copyFrom_12 fX6_19 hT rfl ?_
  refine V_aload_n dX6_copyFrom_15 rfl ?_
  refine V_get dX6_copyFrom_16 fX6_19 hT2 rfl ?_
  refine V_callV (Y' := YX3_copyFrom) dX6_copyFrom_19 lX6_65 gX3_copyFrom (m3_copyFrom (by omega) h17 h172 hG hG2) hG.1 rfl rfl rfl (Nat.le_of_ble_eq_true rfl) ⟨Nat.zero_le _, Nat.zero_le _⟩ (fun v h1 sz1 hq => ?_)
  obtain ⟨rfl, rfl, hf, hG⟩ := hq
  have hT := (hf s (by omega)).trans hT
  have hD := (hf (s + 1) (by omega)).trans hD
  have hI := hI.kept (fun q q1 q2 => hf q (by omega))
  have hF := hF.then (hf.wide (by omega) (by omega))
  have hT2 := (hf b (by omega)).trans hT2
  have hD2 := (hf (b + 1) (by omega)).trans hD2
  have hG2 := hG2.kept (fun q q1 q2 => hf q (by omega))
  have hI2 := hI2.kept (fun q q1 q2 => hf q (by omega))
  refine V_aload_n dX6_copyFrom_22 rfl ?_
  refine V_get dX6_copyFrom_23 fX6_26 hT rfl ?_
  refine V_aload_n dX6_copyFrom_26 rfl ?_
  refine V_get dX6_copyFrom_27 fX6_26 hT2 rfl ?_
  refine V_callV (Y' := YX1_copyFrom) dX6_copyFrom_30 lX6_39 gX1_copyFrom (m1_copyFrom (by omega) h8 h82 hI hI2) hI.1 rfl rfl rfl (Nat.le_of_ble_eq_true rfl) ⟨Nat.zero_le _, Nat.zero_le _⟩ (fun v h1 sz1 hq => ?_)
  obtain ⟨rfl, rfl, hf, hI⟩ := hq
  have hT := (hf s (by omega)).trans hT
  have hD := (hf (s + 1) (by omega)).trans hD
  have hG := hG.kept (fun q q1 q2 => hf q (by omega))
  have hF := hF.then (hf.wide (by omega) (by omega))
  have hT2 := (hf b (by omega)).trans hT2
  have hD2 := (hf (b + 1) (by omega)).trans hD2
  have hG2 := hG2.kept (fun q q1 q2 => hf q (by omega))
  have hI2 := hI2.kept (fun q q1 q2 => hf q (by omega))
  have hx := OB.mk hT
  refine V_aload_n dX6_copyFrom_33 rfl ?_
  refine V_aload_n dX6_copyFrom_34 rfl ?_
  refine V_get dX6_copyFrom_35 fX6_43 ((hx.2 b (by omega)).trans hT2) rfl ?_
  refine RO_put dX6_copyFrom_38 fX6_43 tX6_3 hx (Nat.le_of_ble_eq_true rfl) rfl rfl (fun h2 hx => ?_)
  refine V_aload_n dX6_copyFrom_41 rfl ?_
  refine V_aload_n dX6_copyFrom_42 rfl ?_
  refine V_get dX6_copyFrom_43 fX6_47 ((hx.2 b (by omega)).trans hT2) rfl ?_
  refine RO_put dX6_copyFrom_46 fX6_47 tX6_4 hx (Nat.le_of_ble_eq_true rfl) rfl rfl (fun h2 hx => ?_)
  refine V_aload_n dX6_copyFrom_49 rfl ?_
  refine V_aload_n dX6_copyFrom_50 rfl ?_
  refine V_get dX6_copyFrom_51 fX6_53 ((hx.2 b (by omega)).trans hT2) rfl ?_
  refine RO_put dX6_copyFrom_54 fX6_53 tX6_5 hx (Nat.le_of_ble_eq_true rfl) rfl rfl (fun h2 hx => ?_)
  refine V_aload_n dX6_copyFrom_57 rfl ?_
  refine V_aload_n dX6_copyFrom_58 rfl ?_
  refine V_get dX6_copyFrom_59 fX6_57 ((hx.2 b (by omega)).trans hT2) rfl ?_
  refine RO_put dX6_copyFrom_62 fX6_57 tX6_6 hx (Nat.le_of_ble_eq_true rfl) rfl rfl (fun h2 hx => ?_)
  refine V_aload_n dX6_copyFrom_65 rfl ?_
  refine V_aload_n dX6_copyFrom_66 rfl ?_
  refine V_get dX6_copyFrom_67 fX6_61 ((hx.2 b (by omega)).trans hT2) rfl ?_
  refine RO_put dX6_copyFrom_70 fX6_61 tX6_7 hx (Nat.le_of_ble_eq_true rfl) rfl rfl (fun h2 hx => ?_)
  refine V_ret dX6_copyFrom_73 rfl ⟨Nat.zero_le _, Nat.zero_le _⟩ ⟨rfl, rfl, ?_, ?_⟩
  · exact fun x hx2 => (hx.2 x (by omega)).trans (hF x hx2)
  · exact ⟨hx.1, (hx.2 _ (by omega)).trans hD, hG.kept (fun q q1 q2 => hx.2 q (by omega)), hI.kept (fun q q1 q2 => hx.2 q (by omega))⟩
set_option maxHeartbeats 4000000 in
set_option maxRecDepth 100000 in
theorem m6_init {z : ZG} {d s : Nat} {h : AH} (hT : h s = some (.inl (6, [.null, .null, .null, .int 0, .int 0, .int 0, .int 0, .int 0]))) : M z YX6_init (d + 3) 13 50 [.ref s] h (s + 1) (fun w h' sz' => w = none ∧ sz' = s + 14 ∧ fr h h' s (s + 14) ∧ CS h' s (fun _ => 0)) := by
  refine M.of (by decide +kernel) (Nat.le_of_ble_eq_true rfl) ?_
  have hF : fr h h s (s + 14) := fr.rf
  refine V_aload_n dX6_init_0 rfl ?_
  refine V_obj dX6_init_1 oX6_1 (Nat.le_of_ble_eq_true rfl) ?_
  refine V_aload_n dX6_init_4 rfl ?_
  refine V_new dX6_init_5 nX6_7 rfl ⟨Nat.le_of_ble_eq_true rfl, Nat.le_of_ble_eq_true rfl⟩ ?_
  refine V_dup dX6_init_8 rfl ?_
  refine V_callIN (Y' := YX0_init) dX6_init_9 lX6_9 gX0_init m0_init rfl rfl (Nat.le_of_ble_eq_true rfl) ⟨Nat.le_of_ble_eq_true rfl, Nat.le_of_ble_eq_true rfl⟩ (fun v h1 sz1 hq => ?_)
  obtain ⟨rfl, rfl, rfl⟩ := hq
  have hD := hset_s (h := h) (a := s + 1) (c := (.inl (0, [.int 0, .long 0, .int 0]) : AC))
  have hx : OB (hset h (s + 1) (.inl (0, [.int 0, .long 0, .int 0]))) s 6 [.null, .null, .null, .int 0, .int 0, .int 0, .int 0, .int 0] (hset h (s + 1) (.inl (0, [.int 0, .long 0, .int 0]))) := OB.mk ((hset_n (by omega)).trans hT)
  have hF : fr h (hset h (s + 1) (.inl (0, [.int 0, .long 0, .int 0]))) s (s + 14) := fun x q => hset_n (by omega)
  refine V_putF dX6_init_12 fX6_10 tX6_0 rfl (fun C T N q => by cases q; rfl) hx.1 (Nat.le_of_ble_eq_true rfl) rfl rfl ?_
  have hT := hset_s (h := hset h (s + 1) (.inl (0, [.int 0, .long 0, .int 0]))) (a := s) (c := (.inl (6, [.ref (s + 1), .null, .null, .int 0, .int 0, .int 0, .int 0, .int 0]) : AC))
  generalize hH : hset (hset h (s + 1) (.inl (0, [.int 0, .long 0, .int 0]))) s (.inl (6, [.ref (s + 1), .null, .null, .int 0, .int 0, .int 0, .int 0, .int 0])) = hA at hT
  have hD : hA (s + 1) = some (.inl (0, [.int 0, .long 0, .int 0])) := by rw [← hH]; exact (hset_n (by omega)).trans hD
  have hF : fr h hA s (s + 14) := fun x q => by rw [← hH]; exact (hset_n (by omega)).trans (hF x q)
  rw [show hset (hset h (s + 1) (.inl (0, [.int 0, .long 0, .int 0]))) s (.inl (6, List.set [.null, .null, .null, .int 0, .int 0, .int 0, .int 0, .int 0] 0 (.ref (s + 1)))) = hA from hH]
  refine V_aload_n dX6_init_15 rfl ?_
  refine V_new dX6_init_16 nX6_16 rfl ⟨Nat.le_of_ble_eq_true rfl, Nat.le_of_ble_eq_true rfl⟩ ?_
  refine V_dup dX6_init_19 rfl ?_
  refine V_callIN (Y' := YX3_init) dX6_init_20 lX6_18 gX3_init (m3_init (a := s + 2) hset_s) rfl rfl (Nat.le_of_ble_eq_true rfl) ⟨Nat.le_of_ble_eq_true rfl, Nat.le_of_ble_eq_true rfl⟩ (fun v h1 sz1 hq => ?_)
  obtain ⟨rfl, rfl, hf, hG⟩ := hq
  have hT := (hf s (by omega)).trans ((hset_n (by omega)).trans hT)
  have hD := (hf (s + 1) (by omega)).trans ((hset_n (by omega)).trans hD)
  have hF : fr h h1 s (s + 14) := fun x q => (hf x (by omega)).trans ((hset_n (by omega)).trans (hF x q))
  refine V_putF dX6_init_23 fX6_19 tX6_1 rfl (fun C T N q => by cases q; rfl) hT (Nat.le_of_ble_eq_true rfl) rfl rfl ?_
  have hT := hset_s (h := h1) (a := s) (c := (.inl (6, [.ref (s + 1), .ref (s + 2), .null, .int 0, .int 0, .int 0, .int 0, .int 0]) : AC))
  generalize hH2 : hset h1 s (.inl (6, [.ref (s + 1), .ref (s + 2), .null, .int 0, .int 0, .int 0, .int 0, .int 0])) = hB at hT
  have hD : hB (s + 1) = some (.inl (0, [.int 0, .long 0, .int 0])) := by rw [← hH2]; exact (hset_n (by omega)).trans hD
  have hG : LG hB (s + 2) 0 (fun _ => 0) (fun _ => 0) (fun _ => 0) := hG.kept (fun q q1 q2 => by rw [← hH2]; exact hset_n (by omega))
  have hF : fr h hB s (s + 14) := fun x q => by rw [← hH2]; exact (hset_n (by omega)).trans (hF x q)
  rw [show hset h1 s (.inl (6, List.set [.ref (s + 1), .null, .null, .int 0, .int 0, .int 0, .int 0, .int 0] 1 (.ref (s + 2)))) = hB from hH2]
  refine V_aload_n dX6_init_26 rfl ?_
  refine V_new dX6_init_27 nX6_23 rfl ⟨Nat.le_of_ble_eq_true rfl, Nat.le_of_ble_eq_true rfl⟩ ?_
  refine V_dup dX6_init_30 rfl ?_
  refine V_callIN (Y' := YX1_init) dX6_init_31 lX6_25 gX1_init (m1_init (a := s + 9) hset_s) rfl rfl (Nat.le_of_ble_eq_true rfl) ⟨Nat.le_of_ble_eq_true rfl, Nat.le_of_ble_eq_true rfl⟩ (fun v h3 sz3 hq => ?_)
  obtain ⟨rfl, rfl, hf, hI⟩ := hq
  have hT := (hf s (by omega)).trans ((hset_n (by omega)).trans hT)
  have hD := (hf (s + 1) (by omega)).trans ((hset_n (by omega)).trans hD)
  have hG := hG.kept (h2 := h3) (fun q q1 q2 => (hf q (by omega)).trans (hset_n (by omega)))
  have hF : fr h h3 s (s + 14) := fun x q => (hf x (by omega)).trans ((hset_n (by omega)).trans (hF x q))
  refine V_putF dX6_init_34 fX6_26 tX6_2 rfl (fun C T N q => by cases q; rfl) hT (Nat.le_of_ble_eq_true rfl) rfl rfl ?_
  refine V_ret dX6_init_37 rfl ⟨Nat.le_of_ble_eq_true rfl, Nat.le_of_ble_eq_true rfl⟩ ⟨rfl, rfl, fun x q => (hset_n (by omega)).trans (hF x q), hset_s, (hset_n (by omega)).trans hD, hG.kept (fun q q1 q2 => hset_n (by omega)), hI.kept (fun q q1 q2 => hset_n (by omega))⟩
